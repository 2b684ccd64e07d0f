/-! ===== judge, whose ===== -/
def z_ulp (tx : Nat → Nat → List Nat) (s : ZS) (h : ZH) (k g r : Nat) : Bool := decide (¬ nI (z_do tx s g (h.2.2 k (3 * r)).toInt.toNat (h.2.2 k (3 * r + 1)).toInt.toNat) = h.2.2 k (3 * r + 2))
theorem z_ulpT {tx : Nat → Nat → List Nat} {s : ZS} {h : ZH} {k g r : Nat} : z_ulp tx s h k g r = true ↔ ¬ nI (z_do tx s g (h.2.2 k (3 * r)).toInt.toNat (h.2.2 k (3 * r + 1)).toInt.toNat) = h.2.2 k (3 * r + 2) := decide_eq_true_iff
def z_ul (tx : Nat → Nat → List Nat) (s : ZS) (h : ZH) (k g : Nat) : Int32 := z_first (z_ulp tx s h k g) (h.2.1 k / 3) 0
theorem z_row_n {s : ZS} {h : ZH} {k r : Nat} (q : z_row s h k r) (h6 : s.1 0 ≤ 6) : (h.2.2 k (3 * r)).toInt.toNat < s.1 0 ∧ (h.2.2 k (3 * r + 1)).toInt.toNat < 4 ∧ h.2.2 k (3 * r) = nI (h.2.2 k (3 * r)).toInt.toNat ∧ h.2.2 k (3 * r + 1) = nI (h.2.2 k (3 * r + 1)).toInt.toNat := by
  obtain ⟨a, ha, ea⟩ := z_is_n q.1
  obtain ⟨b, hb, eb⟩ := z_is_n q.2
  rw [ea, eb, nI_toInt (by omega), nI_toInt (by omega)]
  exact ⟨ha, hb, rfl, rfl⟩
section
variable {T : List Nat} {L : Nat} {s : ZS} {tx : Nat → Nat → List Nat} {n : Nat} {h : ZH} {K : Option Value → q_G → q_M → Prop}
theorem l_fo {k gu : Nat} (hk : k < 4) (hgd : z_good s h k) (hg : gu < s.1 0) (d : Nat) : ∀ c r m x5, r + c = h.2.1 k / 3 → CJ T L s tx n h m → (∀ m', FC m m' → CJ T L s tx n h m' → K (some (.int (z_first (z_ulp tx s h k gu) c r))) (GG T L) m') →
    q_R 114 15 (d + 5) [some (.ref 0), some (.int (nI k)), some (.int (nI gu)), some (.ref (30 + 2 * k)), some (.int (nI (3 * r))), x5] [] (GG T L) m K
  | 0, r, m, x5, hc, l, hK => by
    obtain ⟨b3, b4, b6, b8⟩ := l.2.2.2.2.2.1 k hk
    have h3 := hgd.1
    simp only [u114_15, u114_17, u114_17n, u114_18, u114_21, u114_81, u114_82, q_push_s, q_push_n, q_sm_0, q_sm_i, q_sm_r, q_sm_n, q_sm_l, q_c1_0, q_c1_i, q_c1_r, q_c1_n, Nat.zero_add, Nat.reduceAdd, Nat.reduceMul, Nat.reduceSub, Nat.reduceLeDiff, Nat.reduceLT, Nat.reduceEqDiff, true_and, and_true, not_false_eq_true, if_true, if_false, ite_true, ite_false, or_true, true_or, or_false, false_or, not_true_eq_false, gfs1 hk, b6, n_lt (i := 3 * r) (j := h.2.1 k) (by omega) (by omega), (show ¬ 3 * r < h.2.1 k by omega)]
    exact hK m (FC.refl m) l
  | c + 1, r, m, x5, hc, l, hK => by
    obtain ⟨b3, b4, b6, b8⟩ := l.2.2.2.2.2.1 k hk
    have h3 := hgd.1
    have h6 := l.bz.1
    obtain ⟨r1, r2, r3, r4⟩ := z_row_n (hgd.2 r (by omega)) h6
    have hlt : 3 * r < h.2.1 k := by omega
    rw [u114_15]
    simp only [u114_17, u114_17n, u114_18, u114_21, u114_24, u114_25, u114_28, u114_29, u114_29n, u114_30, u114_33, u114_35, u114_38, u114_38n, u114_39, u114_42, u114_44, u114_45, u114_46, u114_49, q_push_s, q_push_n, q_sm_0, q_sm_i, q_sm_r, q_sm_n, q_sm_l, q_c1_0, q_c1_i, q_c1_r, q_c1_n, Nat.zero_add, Nat.reduceAdd, Nat.reduceMul, Nat.reduceSub, Nat.reduceLeDiff, Nat.reduceLT, Nat.reduceEqDiff, true_and, and_true, not_false_eq_true, if_true, if_false, ite_true, ite_false, or_true, true_or, or_false, false_or, not_true_eq_false, gf0_1, gfs1 hk, gfs2 hk, b6, n_lt (i := 3 * r) (j := h.2.1 k) (by omega) (by omega), hlt, n_add, c_at (j := 3 * r) (shs hk) (show 31 + 2 * k < 930 by omega) (by decide) (show 3 * r < 40 by omega), c_at (j := 3 * r + 1) (shs hk) (show 31 + 2 * k < 930 by omega) (by decide) (show 3 * r + 1 < 40 by omega), b8 (3 * r) (by omega), b8 (3 * r + 1) (by omega), io2, Nat.zero_le, Nat.reduceLeDiff]
    rw [r3, r4]
    refine l.doing hg r1 r2 (fun m1 f1 l1 => ?_)
    obtain ⟨b3, b4', b6', b8'⟩ := l1.2.2.2.2.2.1 k hk
    have e3 : 3 * r + 3 = 3 * (r + 1) := by omega
    have e4 : 3 * r / 3 = r := by omega
    have z3 : (nI 3 = 0) = False := eq_false (by decide)
    simp only [u114_52, u114_54, u114_56, u114_56n, u114_57, u114_60, u114_62, u114_63, u114_64, u114_67, u114_70, u114_72, u114_73, u114_74, u114_75, u114_78, q_push_s, q_push_n, q_sm_0, q_sm_i, q_sm_r, q_sm_n, q_sm_l, q_c1_0, q_c1_i, q_c1_r, q_c1_n, Nat.zero_add, Nat.reduceAdd, Nat.reduceMul, Nat.reduceSub, Nat.reduceLeDiff, Nat.reduceLT, Nat.reduceEqDiff, true_and, and_true, not_false_eq_true, if_true, if_false, ite_true, ite_false, or_true, true_or, or_false, false_or, not_true_eq_false, gfs2 hk, n_add, c_at (j := 3 * r + 2) (shs hk) (show 31 + 2 * k < 930 by omega) (by decide) (show 3 * r + 2 < 40 by omega), b8' (3 * r + 2) (by omega), Nat.zero_le, Nat.reduceLeDiff, e3, z3, n_div (a := 3 * r) (d := 3) (by omega) (by decide) (by decide), e4]
    unfold z_first at hK
    by_cases q : nI (z_do tx s gu (h.2.2 k (3 * r)).toInt.toNat (h.2.2 k (3 * r + 1)).toInt.toNat) = h.2.2 k (3 * r + 2)
    · rw [if_neg (fun e => z_ulpT.mp e q)] at hK
      rw [if_pos q]
      exact l_fo hk hgd hg d c (r + 1) m1 _ (by omega) l1 (fun m' f' l' => hK m' (f1.trans f') l')
    · rw [if_pos (z_ulpT.mpr q)] at hK
      rw [if_neg q]
      exact hK m1 f1 l1
theorem CJ.fo {m : q_M} {d k gu : Nat} (l : CJ T L s tx n h m) (hk : k < 4) (hgd : z_good s h k) (hg : gu < s.1 0) (hK : ∀ m', FC m m' → CJ T L s tx n h m' → K (some (.int (z_ul tx s h k gu))) (GG T L) m') : q_C 114 (d + 5) [.ref 0, .int (nI k), .int (nI gu)] (GG T L) m K := by
  have h950 : (30 + 2 * k = 950) = False := eq_false (by omega)
  simp only [u114_0, u114_1, u114_2, u114_5, u114_5n, u114_6, u114_6n, u114_7n, u114_7, u114_10, u114_11, u114_12, u114_13, e114, q_push_s, q_push_n, q_sm_0, q_sm_i, q_sm_r, q_sm_n, q_sm_l, q_c1_0, q_c1_i, q_c1_r, q_c1_n, Nat.zero_add, Nat.reduceAdd, Nat.reduceMul, Nat.reduceSub, Nat.reduceLeDiff, Nat.reduceLT, Nat.reduceEqDiff, true_and, and_true, not_false_eq_true, if_true, if_false, ite_true, ite_false, or_true, true_or, or_false, false_or, not_true_eq_false, io0, c_sheetAt hk, h950, Nat.zero_le, Nat.reduceLeDiff]
  exact l_fo hk hgd hg d (h.2.1 k / 3) 0 m _ (by omega) l hK
theorem l_ul {k gu : Nat} (hk : k < 4) (hgd : z_good s h k) (hg : gu < s.1 0) (d : Nat) : ∀ c r m x4, r + c = h.2.1 k / 3 → RJ s tx n h m → (∀ m', FM m m' → RJ s tx n h m' → K (some (.int (z_first (z_ulp tx s h k gu) c r))) (GG T L) m') →
    q_R 179 2 (d + 5) [some (.ref 38), some (.int (nI k)), some (.int (nI gu)), some (.int (nI r)), x4] [] (GG T L) m K
  | 0, r, m, x4, hc, l, hK => by
    obtain ⟨b3, b4, b6, b8⟩ := l.2.2.2.1 k hk
    have z3 : (nI 3 = 0) = False := eq_false (by decide)
    simp only [u179_2, u179_3, u179_4, u179_7, u179_8, u179_9, u179_10, u179_11, u179_65, u179_66, q_push_s, q_push_n, q_sm_0, q_sm_i, q_sm_r, q_sm_n, q_sm_l, q_c1_0, q_c1_i, q_c1_r, q_c1_n, Nat.zero_add, Nat.reduceAdd, Nat.reduceMul, Nat.reduceSub, Nat.reduceLeDiff, Nat.reduceLT, Nat.reduceEqDiff, true_and, and_true, not_false_eq_true, if_true, if_false, ite_true, ite_false, or_true, true_or, or_false, false_or, not_true_eq_false, gf38_18, ia48 hk, b6, z3, n_div (a := h.2.1 k) (d := 3) (by omega) (by decide) (by decide), n_lt (i := r) (j := h.2.1 k / 3) (by omega) (by omega), (show ¬ r < h.2.1 k / 3 by omega)]
    exact hK m (FM.refl m) l
  | c + 1, r, m, x4, hc, l, hK => by
    obtain ⟨b3, b4, b6, b8⟩ := l.2.2.2.1 k hk
    have h3 := hgd.1
    have h6 := l.bz.1
    obtain ⟨r1, r2, r3, r4⟩ := z_row_n (hgd.2 r (by omega)) h6
    have hlt : r < h.2.1 k / 3 := by omega
    have z3 : (nI 3 = 0) = False := eq_false (by decide)
    have e1 : 40 * k + 3 * r + 1 = 40 * k + (3 * r + 1) := by omega
    have e2 : 40 * k + 3 * r + 2 = 40 * k + (3 * r + 2) := by omega
    rw [u179_2]
    simp only [u179_3, u179_4, u179_7, u179_8, u179_9, u179_10, u179_11, u179_14, u179_16, u179_17, u179_18, u179_19, u179_20, u179_21, u179_22, u179_24, u179_25, u179_26, u179_27, u179_30, u179_32, u179_33, u179_34, u179_37, u179_39, u179_40, u179_41, u179_42, q_push_s, q_push_n, q_sm_0, q_sm_i, q_sm_r, q_sm_n, q_sm_l, q_c1_0, q_c1_i, q_c1_r, q_c1_n, Nat.zero_add, Nat.reduceAdd, Nat.reduceMul, Nat.reduceSub, Nat.reduceLeDiff, Nat.reduceLT, Nat.reduceEqDiff, true_and, and_true, not_false_eq_true, if_true, if_false, ite_true, ite_false, or_true, true_or, or_false, false_or, not_true_eq_false, gf38_18, gf38_19, ia48 hk, b6, z3, n_div (a := h.2.1 k) (d := 3) (by omega) (by decide) (by decide), n_lt (i := r) (j := h.2.1 k / 3) (by omega) (by omega), hlt, n_mul, n_add, e1, ia49 (i := 40 * k + 3 * r) (by omega), ia49 (i := 40 * k + (3 * r + 1)) (by omega), b8 (3 * r) (by omega), b8 (3 * r + 1) (by omega), io38, Nat.zero_le, Nat.reduceLeDiff]
    rw [r3, r4]
    refine l.doesAs hg r1 r2 (fun m1 f1 l1 => ?_)
    obtain ⟨b3, b4', b6', b8'⟩ := l1.2.2.2.1 k hk
    simp only [u179_45, u179_46, u179_49, u179_51, u179_52, u179_53, u179_54, u179_57, u179_58, u179_59, u179_62, q_push_s, q_push_n, q_sm_0, q_sm_i, q_sm_r, q_sm_n, q_sm_l, q_c1_0, q_c1_i, q_c1_r, q_c1_n, Nat.zero_add, Nat.reduceAdd, Nat.reduceMul, Nat.reduceSub, Nat.reduceLeDiff, Nat.reduceLT, Nat.reduceEqDiff, true_and, and_true, not_false_eq_true, if_true, if_false, ite_true, ite_false, or_true, true_or, or_false, false_or, not_true_eq_false, gf38_19, n_mul, n_add, e2, ia49 (i := 40 * k + (3 * r + 2)) (by omega), b8' (3 * r + 2) (by omega), Nat.zero_le, Nat.reduceLeDiff]
    unfold z_first at hK
    by_cases q : nI (z_do tx s gu (h.2.2 k (3 * r)).toInt.toNat (h.2.2 k (3 * r + 1)).toInt.toNat) = h.2.2 k (3 * r + 2)
    · rw [if_neg (fun e => z_ulpT.mp e q)] at hK
      rw [if_pos q]
      exact l_ul hk hgd hg d c (r + 1) m1 _ (by omega) l1 (fun m' f' l' => hK m' (f1.trans f') l')
    · rw [if_pos (z_ulpT.mpr q)] at hK
      rw [if_neg q]
      exact hK m1 f1 l1
theorem RJ.ul {m : q_M} {d k gu : Nat} (l : RJ s tx n h m) (hk : k < 4) (hgd : z_good s h k) (hg : gu < s.1 0) (hK : ∀ m', FM m m' → RJ s tx n h m' → K (some (.int (z_ul tx s h k gu))) (GG T L) m') : q_C 179 (d + 5) [.ref 38, .int (nI k), .int (nI gu)] (GG T L) m K := by
  simp only [u179_0, u179_1, e179, q_push_s, q_push_n, q_sm_0, q_sm_i, q_sm_r, q_sm_n, q_sm_l, q_c1_0, q_c1_i, q_c1_r, q_c1_n, Nat.zero_add, Nat.reduceAdd, Nat.reduceMul, Nat.reduceSub, Nat.reduceLeDiff, Nat.reduceLT, Nat.reduceEqDiff, true_and, and_true, not_false_eq_true, if_true, if_false, ite_true, ite_false, or_true, true_or, or_false, false_or, not_true_eq_false]
  exact l_ul hk hgd hg d (h.2.1 k / 3) 0 m _ (by omega) l hK
/-- bits of those of c from v on of which it is so, to others -/
def z_bt (p : Nat → Bool) : Nat → Nat → Int32 → Int32
  | 0, _, b => b
  | c + 1, v, b => z_bt p c (v + 1) (if p v then b ||| (nI 1 <<< (nI v &&& 31)) else b)
def z_ul0 (tx : Nat → Nat → List Nat) (s : ZS) (h : ZH) (k g : Nat) : Bool := decide (z_ul tx s h k g = (-1 : Int32))
theorem l_whose {k : Nat} (hk : k < 4) (hgd : z_good s h k) (x2 : Int32) (d : Nat) : ∀ c v m b, v + c = s.1 0 → CJ T L s tx n h m → (∀ m', FC m m' → CJ T L s tx n h m' → K (some (.int (z_bt (z_ul0 tx s h k) c v b))) (GG T L) m') →
    q_R 86 17 (d + 6) [some (.ref 0), some (.int (nI k)), some (.int x2), some (.int b), some (.int (nI v))] [] (GG T L) m K
  | 0, v, m, b, hc, l, hK => by
    have h6 := l.bz.1
    simp only [u86_17, u86_19, u86_20, u86_23, u86_26, u86_53, u86_54, q_push_s, q_push_n, q_sm_0, q_sm_i, q_sm_r, q_sm_n, q_sm_l, q_c1_0, q_c1_i, q_c1_r, q_c1_n, Nat.zero_add, Nat.reduceAdd, Nat.reduceMul, Nat.reduceSub, Nat.reduceLeDiff, Nat.reduceLT, Nat.reduceEqDiff, true_and, and_true, not_false_eq_true, if_true, if_false, ite_true, ite_false, or_true, true_or, or_false, false_or, not_true_eq_false, gf0_2, gf3_0, l.cl.n, n_lt (i := v) (j := s.1 0) (by omega) (by omega), (show ¬ v < s.1 0 by omega)]
    exact hK m (FC.refl m) l
  | c + 1, v, m, b, hc, l, hK => by
    have h6 := l.bz.1
    have hlt : v < s.1 0 := by omega
    rw [u86_17]
    simp only [u86_19, u86_20, u86_23, u86_26, u86_29, u86_30, u86_31, u86_33, q_push_s, q_push_n, q_sm_0, q_sm_i, q_sm_r, q_sm_n, q_sm_l, q_c1_0, q_c1_i, q_c1_r, q_c1_n, Nat.zero_add, Nat.reduceAdd, Nat.reduceMul, Nat.reduceSub, Nat.reduceLeDiff, Nat.reduceLT, Nat.reduceEqDiff, true_and, and_true, not_false_eq_true, if_true, if_false, ite_true, ite_false, or_true, true_or, or_false, false_or, not_true_eq_false, gf0_2, gf3_0, l.cl.n, n_lt (i := v) (j := s.1 0) (by omega) (by omega), hlt, io0, Nat.zero_le, Nat.reduceLeDiff]
    refine l.fo hk hgd hlt (fun m1 f1 l1 => ?_)
    simp only [u86_36, u86_37, u86_40, u86_41, u86_42, u86_44, u86_45, u86_46, u86_47, u86_50, q_push_s, q_push_n, q_sm_0, q_sm_i, q_sm_r, q_sm_n, q_sm_l, q_c1_0, q_c1_i, q_c1_r, q_c1_n, Nat.zero_add, Nat.reduceAdd, Nat.reduceMul, Nat.reduceSub, Nat.reduceLeDiff, Nat.reduceLT, Nat.reduceEqDiff, true_and, and_true, not_false_eq_true, if_true, if_false, ite_true, ite_false, or_true, true_or, or_false, false_or, not_true_eq_false, n_add]
    unfold z_bt at hK
    by_cases q : z_ul tx s h k v = (-1 : Int32)
    · rw [if_pos (show z_ul0 tx s h k v = true by unfold z_ul0; simp [q])] at hK
      rw [if_pos q]
      exact l_whose hk hgd x2 d c (v + 1) m1 _ (by omega) l1 (fun m' f' l' => hK m' (f1.trans f') l')
    · rw [if_neg (show ¬ z_ul0 tx s h k v = true by unfold z_ul0; simp [q])] at hK
      rw [if_neg q]
      exact l_whose hk hgd x2 d c (v + 1) m1 _ (by omega) l1 (fun m' f' l' => hK m' (f1.trans f') l')
theorem l_whose8 {k : Nat} (hk : k < 4) (hgd : z_good s h k) (x2 : Int32) (d : Nat) : ∀ c v m b, v + c = s.1 0 → RJ s tx n h m → (∀ m', FM m m' → RJ s tx n h m' → K (some (.int (z_bt (z_ul0 tx s h k) c v b))) (GG T L) m') →
    q_R 183 17 (d + 6) [some (.ref 38), some (.int (nI k)), some (.int x2), some (.int b), some (.int (nI v))] [] (GG T L) m K
  | 0, v, m, b, hc, l, hK => by
    have h6 := l.bz.1
    simp only [u183_17, u183_19, u183_20, u183_23, u183_54, u183_55, q_push_s, q_push_n, q_sm_0, q_sm_i, q_sm_r, q_sm_n, q_sm_l, q_c1_0, q_c1_i, q_c1_r, q_c1_n, Nat.zero_add, Nat.reduceAdd, Nat.reduceMul, Nat.reduceSub, Nat.reduceLeDiff, Nat.reduceLT, Nat.reduceEqDiff, true_and, and_true, not_false_eq_true, if_true, if_false, ite_true, ite_false, or_true, true_or, or_false, false_or, not_true_eq_false, gf38_0, l.mo.n, n_lt (i := v) (j := s.1 0) (by omega) (by omega), (show ¬ v < s.1 0 by omega)]
    exact hK m (FM.refl m) l
  | c + 1, v, m, b, hc, l, hK => by
    have h6 := l.bz.1
    have hlt : v < s.1 0 := by omega
    rw [u183_17]
    simp only [u183_19, u183_20, u183_23, u183_26, u183_27, u183_28, u183_29, u183_31, q_push_s, q_push_n, q_sm_0, q_sm_i, q_sm_r, q_sm_n, q_sm_l, q_c1_0, q_c1_i, q_c1_r, q_c1_n, Nat.zero_add, Nat.reduceAdd, Nat.reduceMul, Nat.reduceSub, Nat.reduceLeDiff, Nat.reduceLT, Nat.reduceEqDiff, true_and, and_true, not_false_eq_true, if_true, if_false, ite_true, ite_false, or_true, true_or, or_false, false_or, not_true_eq_false, gf38_0, l.mo.n, n_lt (i := v) (j := s.1 0) (by omega) (by omega), hlt, io38, Nat.zero_le, Nat.reduceLeDiff]
    refine l.ul hk hgd hlt (fun m1 f1 l1 => ?_)
    simp only [u183_34, u183_35, u183_38, u183_39, u183_41, u183_42, u183_45, u183_46, u183_47, u183_48, u183_51, q_push_s, q_push_n, q_sm_0, q_sm_i, q_sm_r, q_sm_n, q_sm_l, q_c1_0, q_c1_i, q_c1_r, q_c1_n, Nat.zero_add, Nat.reduceAdd, Nat.reduceMul, Nat.reduceSub, Nat.reduceLeDiff, Nat.reduceLT, Nat.reduceEqDiff, true_and, and_true, not_false_eq_true, if_true, if_false, ite_true, ite_false, or_true, true_or, or_false, false_or, not_true_eq_false, n_add, n_or0]
    unfold z_bt at hK
    by_cases q : z_ul tx s h k v = (-1 : Int32)
    · rw [if_pos (show z_ul0 tx s h k v = true by unfold z_ul0; simp [q])] at hK
      rw [if_pos q]
      exact l_whose8 hk hgd x2 d c (v + 1) m1 _ (by omega) l1 (fun m' f' l' => hK m' (f1.trans f') l')
    · rw [if_neg (show ¬ z_ul0 tx s h k v = true by unfold z_ul0; simp [q])] at hK
      rw [if_neg q]
      exact l_whose8 hk hgd x2 d c (v + 1) m1 _ (by omega) l1 (fun m' f' l' => hK m' (f1.trans f') l')
end
section
variable {T : List Nat} {L d : Nat} {xs : Nat → Int32} {s : ZS} {tx : Nat → Nat → List Nat} {n : Nat} {tp : Nat → Nat} {z : Nat} {h : ZH} {wd : Nat → Int32} {m : q_M} {K : Option Value → Option Value → q_G → q_M → Prop}
theorem p_judge (l : LJ T L xs s tx n tp z h wd m) (a b : Int32) (hK : ∀ r m', LJ T L xs s tx n tp z h wd m' → K (some (.int r)) (some (.int r)) (GG T L) m') :
    q_C 83 (d + 6) [.ref 0, .int a, .int b] (GG T L) m (fun v g m => q_C 180 (d + 6) [.ref 38, .int a, .int b] g m (fun v' g m => K v v' g m)) := by
  have lc := l.cj
  have lr := l.rj
  by_cases hr : z_rfv s h a = nI 0
  · by_cases hb : z_is b (s.1 0)
    · have hp := z_pick_1 hb (nI 0) (-5 : Int32)
      simp only [e83, u83_0, u83_1, u83_2, u83_5, u83_6, u83_7, u83_10, u83_11, u83_12, u83_13, u83_16, u83_17, u83_20, u83_23, u83_25, u83_26, u83_27, u83_28, u83_29, u83_32, e83, q_push_s, q_push_n, q_sm_0, q_sm_i, q_sm_r, q_sm_n, q_sm_l, q_c1_0, q_c1_i, q_c1_r, q_c1_n, Nat.zero_add, Nat.reduceAdd, Nat.reduceMul, Nat.reduceSub, Nat.reduceLeDiff, Nat.reduceLT, Nat.reduceEqDiff, true_and, and_true, not_false_eq_true, if_true, if_false, ite_true, ite_false, or_true, true_or, or_false, false_or, not_true_eq_false, gf0_2, io0, io3, lc.refusal, hr, lc.has, hb, z_b_z, Nat.zero_le, Nat.reduceLeDiff]
      obtain ⟨k, hk, rfl, hgd⟩ := z_rfv_0 hr
      obtain ⟨gu, hg, rfl⟩ := z_is_n hb
      refine lc.fo hk hgd hg (fun m1 f1 l1 => ?_)
      have lr1 := (l.fr f1.fr).rj
      simp only [e83, u83_0, u83_1, u83_2, u83_5, u83_6, u83_7, u83_10, u83_11, u83_12, u83_13, u83_16, u83_17, u83_20, u83_23, u83_25, u83_26, u83_27, u83_28, u83_29, u83_32, e180, u180_0, u180_1, u180_2, u180_3, u180_6, u180_7, u180_8, u180_11, u180_12, u180_13, u180_14, u180_17, u180_20, u180_21, e180, q_push_s, q_push_n, q_sm_0, q_sm_i, q_sm_r, q_sm_n, q_sm_l, q_c1_0, q_c1_i, q_c1_r, q_c1_n, Nat.zero_add, Nat.reduceAdd, Nat.reduceMul, Nat.reduceSub, Nat.reduceLeDiff, Nat.reduceLT, Nat.reduceEqDiff, true_and, and_true, not_false_eq_true, if_true, if_false, ite_true, ite_false, or_true, true_or, or_false, false_or, not_true_eq_false, io38, lr1.toldWrong, hr, hp, Nat.zero_le, Nat.reduceLeDiff]
      refine lr1.ul hk hgd hg (fun m2 f2 l2 => ?_)
      simp only [e180, u180_0, u180_1, u180_2, u180_3, u180_6, u180_7, u180_8, u180_11, u180_12, u180_13, u180_14, u180_17, u180_20, u180_21, q_push_s, q_push_n, q_sm_0, q_sm_i, q_sm_r, q_sm_n, q_sm_l, q_c1_0, q_c1_i, q_c1_r, q_c1_n, Nat.zero_add, Nat.reduceAdd, Nat.reduceMul, Nat.reduceSub, Nat.reduceLeDiff, Nat.reduceLT, Nat.reduceEqDiff, true_and, and_true, not_false_eq_true, if_true, if_false, ite_true, ite_false, or_true, true_or, or_false, false_or, not_true_eq_false]
      exact hK _ _ ((l.fr f1.fr).fr f2.fr)
    · have hp := z_pick_0 hb (nI 0) (-5 : Int32)
      have e5 : ((-5 : Int32) = nI 0) = False := eq_false (by decide)
      simp only [e83, u83_0, u83_1, u83_2, u83_5, u83_6, u83_7, u83_10, u83_11, u83_12, u83_13, u83_16, u83_17, u83_20, u83_23, u83_25, u83_26, u83_27, u83_28, u83_29, u83_32, e83, e180, u180_0, u180_1, u180_2, u180_3, u180_6, u180_7, u180_8, u180_11, u180_12, u180_13, u180_14, u180_17, u180_20, u180_21, e180, q_push_s, q_push_n, q_sm_0, q_sm_i, q_sm_r, q_sm_n, q_sm_l, q_c1_0, q_c1_i, q_c1_r, q_c1_n, Nat.zero_add, Nat.reduceAdd, Nat.reduceMul, Nat.reduceSub, Nat.reduceLeDiff, Nat.reduceLT, Nat.reduceEqDiff, true_and, and_true, not_false_eq_true, if_true, if_false, ite_true, ite_false, or_true, true_or, or_false, false_or, not_true_eq_false, gf0_2, io0, io3, io38, lc.refusal, lr.toldWrong, hr, z_pick_f, e5, lc.has, hb, z_b_z, Nat.zero_le, Nat.reduceLeDiff]
      exact hK _ _ l
  · simp only [e83, u83_0, u83_1, u83_2, u83_5, u83_6, u83_7, u83_10, u83_11, u83_12, u83_13, u83_16, u83_17, u83_20, u83_23, u83_25, u83_26, u83_27, u83_28, u83_29, u83_32, e83, e180, u180_0, u180_1, u180_2, u180_3, u180_6, u180_7, u180_8, u180_11, u180_12, u180_13, u180_14, u180_17, u180_20, u180_21, e180, q_push_s, q_push_n, q_sm_0, q_sm_i, q_sm_r, q_sm_n, q_sm_l, q_c1_0, q_c1_i, q_c1_r, q_c1_n, Nat.zero_add, Nat.reduceAdd, Nat.reduceMul, Nat.reduceSub, Nat.reduceLeDiff, Nat.reduceLT, Nat.reduceEqDiff, true_and, and_true, not_false_eq_true, if_true, if_false, ite_true, ite_false, or_true, true_or, or_false, false_or, not_true_eq_false, io0, io38, lc.refusal, lr.toldWrong, hr, Nat.zero_le, Nat.reduceLeDiff]
    exact hK _ _ l
theorem p_whose (l : LJ T L xs s tx n tp z h wd m) (a : Int32) (hK : ∀ r m', LJ T L xs s tx n tp z h wd m' → K (some (.int r)) (some (.int r)) (GG T L) m') :
    q_C 86 (d + 6) [.ref 0, .int a] (GG T L) m (fun v g m => q_C 183 (d + 6) [.ref 38, .int a] g m (fun v' g m => K v v' g m)) := by
  have lc := l.cj
  have lr := l.rj
  by_cases hr : z_rfv s h a = nI 0
  · simp only [u86_0, u86_1, u86_2, u86_5, u86_6, u86_7, u86_10, u86_11, u86_12, u86_13, u86_14, u86_15, e86, q_push_s, q_push_n, q_sm_0, q_sm_i, q_sm_r, q_sm_n, q_sm_l, q_c1_0, q_c1_i, q_c1_r, q_c1_n, Nat.zero_add, Nat.reduceAdd, Nat.reduceMul, Nat.reduceSub, Nat.reduceLeDiff, Nat.reduceLT, Nat.reduceEqDiff, true_and, and_true, not_false_eq_true, if_true, if_false, ite_true, ite_false, or_true, true_or, or_false, false_or, not_true_eq_false, io0, lc.refusal, hr, Nat.zero_le, Nat.reduceLeDiff]
    obtain ⟨k, hk, rfl, hgd⟩ := z_rfv_0 hr
    refine l_whose hk hgd _ d (s.1 0) 0 m _ (by omega) lc (fun m1 f1 l1 => ?_)
    have lr1 := (l.fr f1.fr).rj
    simp only [u183_0, u183_1, u183_2, u183_5, u183_6, u183_7, u183_10, u183_11, u183_12, u183_13, u183_14, u183_15, e183, q_push_s, q_push_n, q_sm_0, q_sm_i, q_sm_r, q_sm_n, q_sm_l, q_c1_0, q_c1_i, q_c1_r, q_c1_n, Nat.zero_add, Nat.reduceAdd, Nat.reduceMul, Nat.reduceSub, Nat.reduceLeDiff, Nat.reduceLT, Nat.reduceEqDiff, true_and, and_true, not_false_eq_true, if_true, if_false, ite_true, ite_false, or_true, true_or, or_false, false_or, not_true_eq_false, io38, lr1.sheetWrong, hr, Nat.zero_le, Nat.reduceLeDiff]
    refine l_whose8 hk hgd _ d (s.1 0) 0 m1 _ (by omega) lr1 (fun m2 f2 l2 => ?_)
    exact hK _ _ ((l.fr f1.fr).fr f2.fr)
  · simp only [u86_0, u86_1, u86_2, u86_5, u86_6, u86_7, u86_10, u86_11, e86, u183_0, u183_1, u183_2, u183_5, u183_6, u183_7, u183_10, u183_11, e183, q_push_s, q_push_n, q_sm_0, q_sm_i, q_sm_r, q_sm_n, q_sm_l, q_c1_0, q_c1_i, q_c1_r, q_c1_n, Nat.zero_add, Nat.reduceAdd, Nat.reduceMul, Nat.reduceSub, Nat.reduceLeDiff, Nat.reduceLT, Nat.reduceEqDiff, true_and, and_true, not_false_eq_true, if_true, if_false, ite_true, ite_false, or_true, true_or, or_false, false_or, not_true_eq_false, io0, io38, lc.refusal, lr.sheetWrong, hr, Nat.zero_le, Nat.reduceLeDiff]
    exact hK _ _ l
end
