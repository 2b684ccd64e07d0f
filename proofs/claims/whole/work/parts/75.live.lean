/-! ===== live ===== -/
def z_pd (s : ZS) (f t sum : Nat) : Nat := min sum (min (s.2.1 4 f) (9999 - s.2.1 4 t))
def z_pay (s : ZS) (f t sum : Nat) : ZS := if f = t then s else z_sr (z_sr s 4 f (s.2.1 4 f - z_pd s f t sum)) 4 t (s.2.1 4 t + z_pd s f t sum)
def z_of (s : ZS) (g o : Nat) : ZS := (s.1, s.2.1, fun i => if i = 6 * g + o then s.2.2 i + nI 1 else s.2.2 i)
def z_bh (s : ZS) (o : Nat) : Nat := if o + 1 < s.1 0 then o + 1 else 0
def z_l0 (tx : Nat → Nat → List Nat) (g : Nat) (s : ZS) : ZS := if z_kn tx s g (s.2.1 3 g) = (-1 : Int32) then s else z_pay s g (s.2.1 3 g) (z_ask tx s 1 g (s.2.1 3 g) (z_kni tx s g (s.2.1 3 g)))
def z_l1 (tx : Nat → Nat → List Nat) (g : Nat) (s : ZS) : ZS := z_of (z_pay (z_l0 tx g s) (s.2.1 3 g) (z_bh s (s.2.1 3 g)) (z_ask tx (z_l0 tx g s) 2 g (s.2.1 3 g) 0)) g (s.2.1 3 g)
def z_lv (tx : Nat → Nat → List Nat) : Nat → Nat → ZS × Nat → ZS × Nat
  | 0, _, a => a
  | c + 1, i, a => z_lv tx c (i + 1) (z_l1 tx i a.1, if z_kn tx a.1 i (a.1.2.1 3 i) = (-1 : Int32) then a.2 else a.2 + 1)
theorem z_pay_k (s : ZS) (f t sum r g : Nat) (h : r ≠ 4) : (z_pay s f t sum).2.1 r g = s.2.1 r g := by
  unfold z_pay
  split
  · rfl
  · rw [z_sr_o _ _ _ _ h, z_sr_o _ _ _ _ h]
theorem z_pay_1 (s : ZS) (f t sum : Nat) : (z_pay s f t sum).1 = s.1 := by
  unfold z_pay
  split <;> rfl
theorem z_l0_k (tx : Nat → Nat → List Nat) (s : ZS) (i r g : Nat) (h : r ≠ 4) : (z_l0 tx i s).2.1 r g = s.2.1 r g := by
  unfold z_l0
  split
  · rfl
  · exact z_pay_k _ _ _ _ _ _ h
theorem z_l0_1 (tx : Nat → Nat → List Nat) (s : ZS) (i : Nat) : (z_l0 tx i s).1 = s.1 := by
  unfold z_l0
  split
  · rfl
  · exact z_pay_1 _ _ _ _
theorem z_l1_k (tx : Nat → Nat → List Nat) (s : ZS) (i r g : Nat) (h : r ≠ 4) : (z_l1 tx i s).2.1 r g = s.2.1 r g := (z_pay_k _ _ _ _ _ _ h).trans (z_l0_k tx s i r g h)
theorem z_l1_1 (tx : Nat → Nat → List Nat) (s : ZS) (i : Nat) : (z_l1 tx i s).1 = s.1 := (z_pay_1 _ _ _ _).trans (z_l0_1 tx s i)
theorem BZ.pay {s : ZS} (hB : BZ s) {f t sum : Nat} (hf : f < s.1 0) (ht : t < s.1 0) : BZ (z_pay s f t sum) := by
  unfold z_pay
  have hbf := (hB.2.2.2 f hf).2.2.2.2
  have hbt := (hB.2.2.2 t ht).2.2.2.2
  have hp : z_pd s f t sum ≤ 9999 - s.2.1 4 t := Nat.le_trans (Nat.min_le_right _ _) (Nat.min_le_right _ _)
  split
  · exact hB
  · have h1 := hB.sr (r := 4) (gu := f) (v := s.2.1 4 f - z_pd s f t sum) (fun e => absurd e (by decide)) (fun e => absurd e (by decide)) (fun _ => by omega) (by decide)
    exact h1.sr (r := 4) (gu := t) (v := s.2.1 4 t + z_pd s f t sum) (fun e => absurd e (by decide)) (fun e => absurd e (by decide)) (fun _ => by omega) (by decide)
theorem BZ.l0 {s : ZS} (hB : BZ s) (tx : Nat → Nat → List Nat) {g : Nat} (hg : g < s.1 0) : BZ (z_l0 tx g s) := by
  unfold z_l0
  split
  · exact hB
  · exact hB.pay hg (hB.2.2.2 g hg).2.2.2.1
theorem z_bh_lt {s : ZS} {o : Nat} (h : o < s.1 0) : z_bh s o < s.1 0 := by
  unfold z_bh
  split <;> omega
theorem BZ.l1 {s : ZS} (hB : BZ s) (tx : Nat → Nat → List Nat) {g : Nat} (hg : g < s.1 0) : BZ (z_l1 tx g s) := by
  have ho := (hB.2.2.2 g hg).2.2.2.1
  have h0 := hB.l0 tx hg
  have e := z_l0_1 tx s g
  have h1 := h0.pay (sum := z_ask tx (z_l0 tx g s) 2 g (s.2.1 3 g) 0) (f := s.2.1 3 g) (t := z_bh s (s.2.1 3 g)) (by rw [e]; exact ho) (by rw [e]; exact z_bh_lt ho)
  have h6 := hB.1
  have e1 := z_l1_1 tx s g
  have e2 : (z_pay (z_l0 tx g s) (s.2.1 3 g) (z_bh s (s.2.1 3 g)) (z_ask tx (z_l0 tx g s) 2 g (s.2.1 3 g) 0)).1 = s.1 := (z_pay_1 _ _ _ _).trans e
  refine ⟨h1.1, ⟨h1.2.1.1, fun i hi hb => ?_⟩, h1.2.2.1, h1.2.2.2⟩
  rw [e1] at hb
  show (if i = 6 * g + s.2.1 3 g then _ else (z_pay (z_l0 tx g s) (s.2.1 3 g) (z_bh s (s.2.1 3 g)) (z_ask tx (z_l0 tx g s) 2 g (s.2.1 3 g) 0)).2.2 i) = nI 0
  rw [if_neg (by omega)]
  exact h1.bo i hi (by rw [e2]; exact hb)
section
variable {T : List Nat} {L : Nat} {s : ZS} {tx : Nat → Nat → List Nat} {n : Nat} {h : ZH} {m : q_M} {K : Option Value → q_G → q_M → Prop}
theorem CJ.put1 {r gu v : Nat} (l : CJ T L s tx n h m) (hr : r < 5) (hB : BZ (z_sr s r gu v)) : CJ T L (z_sr s r gu v) tx n h (q_up m (4 + r) gu (nI v)) := by
  have l0 : CJ T L (z_sr s r gu (s.2.1 r gu)) tx n h m := by rw [z_sr_id]; exact l
  exact l0.put hr hB
theorem RJ.put1 {r gu v : Nat} (l : RJ s tx n h m) (hr : r < 3) (hB : BZ (z_sr s (2 + r) gu v)) : RJ (z_sr s (2 + r) gu v) tx n h (q_up m 41 (3 * gu + r) (nI v)) := by
  have l0 : RJ (z_sr s (2 + r) gu (s.2.1 (2 + r) gu)) tx n h m := by rw [z_sr_id]; exact l
  exact l0.put hr hB
theorem z_min_q {a b : Nat} (ha : a < 2 ^ 31) (hb : b < 2 ^ 31) : q_min (nI a) (nI b) = nI (min a b) := by
  have e := n_lt hb ha
  unfold q_min
  by_cases q : b < a
  · rw [if_pos (show nI b < nI a by rw [e]; exact q), Nat.min_eq_right (by omega)]
  · rw [if_neg (show ¬ nI b < nI a by rw [e]; exact q), Nat.min_eq_left (by omega)]
theorem CJ.pay {d f t sum : Nat} (l : CJ T L s tx n h m) (hf : f < s.1 0) (ht : t < s.1 0) (hs : sum ≤ 100) (hK : ∀ m', FCp 8 m m' → CJ T L (z_pay s f t sum) tx n h m' → K none (GG T L) m') : q_C 8 (d + 1) [.ref 3, .int (nI f), .int (nI t), .int (nI sum)] (GG T L) m K := by
  have h6 := l.bz.1
  have hbf := (l.bz.2.2.2 f hf).2.2.2.2
  have hbt := (l.bz.2.2.2 t ht).2.2.2.2
  have hB := l.bz.pay (sum := sum) hf ht
  have e1 := n_eq (i := f) (j := t) (by omega) (by omega)
  unfold z_pay at hK hB
  by_cases q : f = t
  · rw [if_pos q] at hK
    simp only [u8_0, u8_1, u8_2, u8_5, e8, q_push_s, q_push_n, q_sm_0, q_sm_i, q_sm_r, q_sm_n, q_sm_l, q_c1_0, q_c1_i, q_c1_r, q_c1_n, Nat.zero_add, Nat.reduceAdd, Nat.reduceMul, Nat.reduceSub, Nat.reduceLeDiff, Nat.reduceLT, Nat.reduceEqDiff, true_and, and_true, not_false_eq_true, if_true, if_false, ite_true, ite_false, or_true, true_or, or_false, false_or, not_true_eq_false, e1, q]
    exact hK m (FCp.refl 8 m) l
  · rw [if_neg q] at hK hB
    have hp1 : z_pd s f t sum ≤ s.2.1 4 f := Nat.le_trans (Nat.min_le_right _ _) (Nat.min_le_left _ _)
    have hp2 : z_pd s f t sum ≤ 9999 - s.2.1 4 t := Nat.le_trans (Nat.min_le_right _ _) (Nat.min_le_right _ _)
    have epd : min sum (min (s.2.1 4 f) (9999 - s.2.1 4 t)) = z_pd s f t sum := rfl
    have hB1 := l.bz.sr (r := 4) (gu := f) (v := s.2.1 4 f - z_pd s f t sum) (fun e => absurd e (by decide)) (fun e => absurd e (by decide)) (fun _ => by omega) (by decide)
    have l1 := l.put1 (r := 4) (by decide) hB1
    have l2 := l1.put1 (r := 4) (by decide) hB
    have ep8 : q_up m 8 f (nI (s.2.1 4 f - z_pd s f t sum)) 8 t = nI (s.2.1 4 t) := by rw [q_up_i _ _ (fun e => q e.symm)]; exact l.cl.pu t ht
    have hm1 : min (s.2.1 4 f) (9999 - s.2.1 4 t) < 2 ^ 31 := Nat.lt_of_le_of_lt (Nat.min_le_left _ _) (by omega)
    simp only [u8_0, u8_1, u8_2, u8_6, u8_7, u8_8, u8_11, u8_12, u8_15, u8_18, u8_19, u8_22, u8_23, u8_26, u8_27, u8_30, u8_33, u8_35, u8_36, u8_39, u8_40, u8_41, u8_44, u8_45, u8_48, u8_50, u8_51, u8_54, u8_55, u8_58, u8_59, u8_60, u8_63, u8_64, u8_67, u8_69, u8_70, u8_73, e8, q_push_s, q_push_n, q_sm_0, q_sm_i, q_sm_r, q_sm_n, q_sm_l, q_c1_0, q_c1_i, q_c1_r, q_c1_n, Nat.zero_add, Nat.reduceAdd, Nat.reduceMul, Nat.reduceSub, Nat.reduceLeDiff, Nat.reduceLT, Nat.reduceEqDiff, true_and, and_true, not_false_eq_true, if_true, if_false, ite_true, ite_false, or_true, true_or, or_false, false_or, not_true_eq_false, e1, q, gf3_7, c_at (j := f) sh8 (by decide) (by decide) (show f < 6 by omega), c_at (j := t) sh8 (by decide) (by decide) (show t < 6 by omega), l.cl.pu f hf, l.cl.pu t ht, n_sub (a := 9999) (b := s.2.1 4 t) hbt, z_min_q (a := s.2.1 4 f) (b := 9999 - s.2.1 4 t) (by omega) (by omega), z_min_q (a := sum) (b := min (s.2.1 4 f) (9999 - s.2.1 4 t)) (by omega) hm1, epd, n_sub hp1, c_put (j := f) sh8 (by decide) (by decide) (show f < 6 by omega), c_put (j := t) sh8 (by decide) (by decide) (show t < 6 by omega), ep8, n_add, Nat.zero_le, Nat.reduceLeDiff]
    exact hK _ ((FCp.up 8 f _ m).trans (FCp.up 8 t _ _)) l2
theorem RJ.pay {d f t sum : Nat} (l : RJ s tx n h m) (hf : f < s.1 0) (ht : t < s.1 0) (hs : sum ≤ 100) (hK : ∀ m', FMp 41 m m' → RJ (z_pay s f t sum) tx n h m' → K none (GG T L) m') : q_C 157 d [.ref 38, .int (nI f), .int (nI t), .int (nI sum)] (GG T L) m K := by
  have h6 := l.bz.1
  have hbf := (l.bz.2.2.2 f hf).2.2.2.2
  have hbt := (l.bz.2.2.2 t ht).2.2.2.2
  have hB := l.bz.pay (sum := sum) hf ht
  have e1 := n_eq (i := f) (j := t) (by omega) (by omega)
  have cf : (nI (3 * f + 2)).toNatClampNeg = 3 * f + 2 := n_cl (by omega)
  have ct : (nI (3 * t + 2)).toNatClampNeg = 3 * t + 2 := n_cl (by omega)
  have upid : ∀ (m0 : q_M) (p i : Nat) (w : Int32), m0 p i = w → q_up m0 p i w = m0 := by
    intro m0 p i w e
    funext k' i'
    by_cases q : k' = p ∧ i' = i
    · rw [q.1, q.2, q_up_eq, e]
    · unfold q_up; rw [if_neg q]
  have fin : ∀ v (x : Int32), v = z_pd s f t sum → q_R 157 73 d [some (.ref 38), some (.int (nI f)), some (.int (nI t)), some (.int (nI sum)), some (.int x)] [.int (nI v)] (GG T L) m K := by
    intro v x hv
    unfold z_pay at hK hB
    by_cases q : f = t
    · rw [if_pos q] at hK
      subst q
      have ep := l.mo.pu f hf
      have eu := upid m 41 (3 * f + 2) _ ep
      simp only [u157_73, u157_75, u157_76, u157_79, u157_80, u157_81, u157_82, u157_83, u157_84, u157_85, u157_86, u157_87, u157_88, u157_91, u157_92, u157_95, u157_97, u157_98, u157_99, u157_100, u157_103, u157_104, u157_105, u157_106, u157_107, u157_108, u157_109, u157_110, u157_111, u157_112, u157_115, u157_116, u157_119, u157_121, u157_122, u157_123, q_push_s, q_push_n, q_sm_0, q_sm_i, q_sm_r, q_sm_n, q_sm_l, q_c1_0, q_c1_i, q_c1_r, q_c1_n, Nat.zero_add, Nat.reduceAdd, Nat.reduceMul, Nat.reduceSub, Nat.reduceLeDiff, Nat.reduceLT, Nat.reduceEqDiff, true_and, and_true, not_false_eq_true, if_true, if_false, ite_true, ite_false, or_true, true_or, or_false, false_or, not_true_eq_false, eq_self, lq_0_1, lq_0_2, lq_0_3, lq_0_4, lq_0_5, lq_0_6, lq_1_0, lq_1_2, lq_1_3, lq_1_4, lq_1_5, lq_1_6, lq_2_0, lq_2_1, lq_2_3, lq_2_4, lq_2_5, lq_2_6, lq_3_0, lq_3_1, lq_3_2, lq_3_4, lq_3_5, lq_3_6, lq_4_0, lq_4_1, lq_4_2, lq_4_3, lq_4_5, lq_4_6, lq_5_0, lq_5_1, lq_5_2, lq_5_3, lq_5_4, lq_5_6, lq_6_0, lq_6_1, lq_6_2, lq_6_3, lq_6_4, lq_6_5, ll_0_0, ll_0_1, ll_0_2, ll_0_3, ll_0_4, ll_0_5, ll_0_6, ll_1_0, ll_1_1, ll_1_2, ll_1_3, ll_1_4, ll_1_5, ll_1_6, ll_2_0, ll_2_1, ll_2_2, ll_2_3, ll_2_4, ll_2_5, ll_2_6, ll_3_0, ll_3_1, ll_3_2, ll_3_3, ll_3_4, ll_3_5, ll_3_6, ll_4_0, ll_4_1, ll_4_2, ll_4_3, ll_4_4, ll_4_5, ll_4_6, ll_5_0, ll_5_1, ll_5_2, ll_5_3, ll_5_4, ll_5_5, ll_5_6, ll_6_0, ll_6_1, ll_6_2, ll_6_3, ll_6_4, ll_6_5, ll_6_6, le_0_0, le_0_1, le_0_2, le_0_3, le_0_4, le_0_5, le_0_6, le_1_0, le_1_1, le_1_2, le_1_3, le_1_4, le_1_5, le_1_6, le_2_0, le_2_1, le_2_2, le_2_3, le_2_4, le_2_5, le_2_6, le_3_0, le_3_1, le_3_2, le_3_3, le_3_4, le_3_5, le_3_6, le_4_0, le_4_1, le_4_2, le_4_3, le_4_4, le_4_5, le_4_6, le_5_0, le_5_1, le_5_2, le_5_3, le_5_4, le_5_5, le_5_6, le_6_0, le_6_1, le_6_2, le_6_3, le_6_4, le_6_5, le_6_6, gf38_3, n_mul, n_add, Nat.add_zero, Nat.sub_zero, n_sub (Nat.zero_le (s.2.1 4 f)), ia41 (i := 3 * f + 2) (by omega), is41 (i := 3 * f + 2) (by omega), cf, ep, eu]
      exact hK m (FMp.refl 41 m) l
    · rw [if_neg q] at hK hB
      have hp1 : z_pd s f t sum ≤ s.2.1 4 f := Nat.le_trans (Nat.min_le_right _ _) (Nat.min_le_left _ _)
      have hB1 := l.bz.sr (r := 4) (gu := f) (v := s.2.1 4 f - z_pd s f t sum) (fun e => absurd e (by decide)) (fun e => absurd e (by decide)) (fun _ => by omega) (by decide)
      have l1 := l.put1 (r := 2) (by decide) hB1
      have l2 := l1.put1 (r := 2) (by decide) hB
      have e41 : q_up m 41 (3 * f + 2) (nI (s.2.1 4 f - z_pd s f t sum)) 41 (3 * t + 2) = nI (s.2.1 4 t) := by rw [q_up_i _ _ (by omega)]; exact l.mo.pu t ht
      subst hv
      simp only [u157_73, u157_75, u157_76, u157_79, u157_80, u157_81, u157_82, u157_83, u157_84, u157_85, u157_86, u157_87, u157_88, u157_91, u157_92, u157_95, u157_97, u157_98, u157_99, u157_100, u157_103, u157_104, u157_105, u157_106, u157_107, u157_108, u157_109, u157_110, u157_111, u157_112, u157_115, u157_116, u157_119, u157_121, u157_122, u157_123, q_push_s, q_push_n, q_sm_0, q_sm_i, q_sm_r, q_sm_n, q_sm_l, q_c1_0, q_c1_i, q_c1_r, q_c1_n, Nat.zero_add, Nat.reduceAdd, Nat.reduceMul, Nat.reduceSub, Nat.reduceLeDiff, Nat.reduceLT, Nat.reduceEqDiff, true_and, and_true, not_false_eq_true, if_true, if_false, ite_true, ite_false, or_true, true_or, or_false, false_or, not_true_eq_false, gf38_3, e1, q, n_mul, n_add, n_sub hp1, ia41 (i := 3 * f + 2) (by omega), ia41 (i := 3 * t + 2) (by omega), is41 (i := 3 * f + 2) (by omega), is41 (i := 3 * t + 2) (by omega), cf, ct, l.mo.pu f hf, e41]
      exact hK _ ((FMp.up (p := 41) (by decide) (3 * f + 2) _ m).trans (FMp.up (p := 41) (by decide) (3 * t + 2) _ _)) l2
  have epd : z_pd s f t sum = min sum (min (s.2.1 4 f) (9999 - s.2.1 4 t)) := rfl
  have i1 := n_le (i := sum) (j := s.2.1 4 f) (by omega) (by omega)
  have i2 := n_le (i := sum) (j := 9999 - s.2.1 4 t) (by omega) (by omega)
  have i3 := n_le (i := s.2.1 4 f) (j := 9999 - s.2.1 4 t) (by omega) (by omega)
  by_cases q1 : sum ≤ s.2.1 4 f
  · by_cases q2 : sum ≤ 9999 - s.2.1 4 t
    · simp only [u157_0, u157_1, u157_3, u157_5, u157_6, u157_9, u157_10, u157_11, u157_12, u157_13, u157_14, u157_15, u157_18, u157_19, u157_22, u157_23, u157_24, u157_25, u157_26, u157_27, u157_28, u157_31, u157_33, u157_35, u157_37, u157_40, u157_41, u157_44, u157_45, u157_46, u157_47, u157_48, u157_49, u157_50, u157_51, u157_54, u157_57, u157_58, u157_61, u157_62, u157_63, u157_64, u157_65, u157_66, u157_67, u157_68, u157_71, e157, q_push_s, q_push_n, q_sm_0, q_sm_i, q_sm_r, q_sm_n, q_sm_l, q_c1_0, q_c1_i, q_c1_r, q_c1_n, Nat.zero_add, Nat.reduceAdd, Nat.reduceMul, Nat.reduceSub, Nat.reduceLeDiff, Nat.reduceLT, Nat.reduceEqDiff, true_and, and_true, not_false_eq_true, if_true, if_false, ite_true, ite_false, or_true, true_or, or_false, false_or, not_true_eq_false, gf38_3, n_mul, n_add, ia41 (i := 3 * f + 2) (by omega), ia41 (i := 3 * t + 2) (by omega), l.mo.pu f hf, l.mo.pu t ht, n_sub (a := 9999) (b := s.2.1 4 t) hbt, i1, i2, q1, q2]
      exact fin sum _ (by rw [epd]; omega)
    · simp only [u157_0, u157_1, u157_3, u157_5, u157_6, u157_9, u157_10, u157_11, u157_12, u157_13, u157_14, u157_15, u157_18, u157_19, u157_22, u157_23, u157_24, u157_25, u157_26, u157_27, u157_28, u157_31, u157_33, u157_35, u157_37, u157_40, u157_41, u157_44, u157_45, u157_46, u157_47, u157_48, u157_49, u157_50, u157_51, u157_54, u157_57, u157_58, u157_61, u157_62, u157_63, u157_64, u157_65, u157_66, u157_67, u157_68, u157_71, e157, q_push_s, q_push_n, q_sm_0, q_sm_i, q_sm_r, q_sm_n, q_sm_l, q_c1_0, q_c1_i, q_c1_r, q_c1_n, Nat.zero_add, Nat.reduceAdd, Nat.reduceMul, Nat.reduceSub, Nat.reduceLeDiff, Nat.reduceLT, Nat.reduceEqDiff, true_and, and_true, not_false_eq_true, if_true, if_false, ite_true, ite_false, or_true, true_or, or_false, false_or, not_true_eq_false, gf38_3, n_mul, n_add, ia41 (i := 3 * f + 2) (by omega), ia41 (i := 3 * t + 2) (by omega), l.mo.pu f hf, l.mo.pu t ht, n_sub (a := 9999) (b := s.2.1 4 t) hbt, i1, i2, q1, q2]
      exact fin (9999 - s.2.1 4 t) _ (by rw [epd]; omega)
  · by_cases q2 : s.2.1 4 f ≤ 9999 - s.2.1 4 t
    · simp only [u157_0, u157_1, u157_3, u157_5, u157_6, u157_9, u157_10, u157_11, u157_12, u157_13, u157_14, u157_15, u157_18, u157_19, u157_22, u157_23, u157_24, u157_25, u157_26, u157_27, u157_28, u157_31, u157_33, u157_35, u157_37, u157_40, u157_41, u157_44, u157_45, u157_46, u157_47, u157_48, u157_49, u157_50, u157_51, u157_54, u157_57, u157_58, u157_61, u157_62, u157_63, u157_64, u157_65, u157_66, u157_67, u157_68, u157_71, e157, q_push_s, q_push_n, q_sm_0, q_sm_i, q_sm_r, q_sm_n, q_sm_l, q_c1_0, q_c1_i, q_c1_r, q_c1_n, Nat.zero_add, Nat.reduceAdd, Nat.reduceMul, Nat.reduceSub, Nat.reduceLeDiff, Nat.reduceLT, Nat.reduceEqDiff, true_and, and_true, not_false_eq_true, if_true, if_false, ite_true, ite_false, or_true, true_or, or_false, false_or, not_true_eq_false, gf38_3, n_mul, n_add, ia41 (i := 3 * f + 2) (by omega), ia41 (i := 3 * t + 2) (by omega), l.mo.pu f hf, l.mo.pu t ht, n_sub (a := 9999) (b := s.2.1 4 t) hbt, i1, i3, q1, q2]
      exact fin (s.2.1 4 f) _ (by rw [epd]; omega)
    · simp only [u157_0, u157_1, u157_3, u157_5, u157_6, u157_9, u157_10, u157_11, u157_12, u157_13, u157_14, u157_15, u157_18, u157_19, u157_22, u157_23, u157_24, u157_25, u157_26, u157_27, u157_28, u157_31, u157_33, u157_35, u157_37, u157_40, u157_41, u157_44, u157_45, u157_46, u157_47, u157_48, u157_49, u157_50, u157_51, u157_54, u157_57, u157_58, u157_61, u157_62, u157_63, u157_64, u157_65, u157_66, u157_67, u157_68, u157_71, e157, q_push_s, q_push_n, q_sm_0, q_sm_i, q_sm_r, q_sm_n, q_sm_l, q_c1_0, q_c1_i, q_c1_r, q_c1_n, Nat.zero_add, Nat.reduceAdd, Nat.reduceMul, Nat.reduceSub, Nat.reduceLeDiff, Nat.reduceLT, Nat.reduceEqDiff, true_and, and_true, not_false_eq_true, if_true, if_false, ite_true, ite_false, or_true, true_or, or_false, false_or, not_true_eq_false, gf38_3, n_mul, n_add, ia41 (i := 3 * f + 2) (by omega), ia41 (i := 3 * t + 2) (by omega), l.mo.pu f hf, l.mo.pu t ht, n_sub (a := 9999) (b := s.2.1 4 t) hbt, i1, i3, q1, q2]
      exact fin (9999 - s.2.1 4 t) _ (by rw [epd]; omega)
end
