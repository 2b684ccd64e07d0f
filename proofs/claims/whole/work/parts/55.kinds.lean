/-! ===== kinds ===== -/
theorem z_sr_sr (s : ZS) (r g x v : Nat) : z_sr (z_sr s r g x) r g v = z_sr s r g v := by
  unfold z_sr
  refine Prod.ext rfl (Prod.ext ?_ rfl)
  funext r' g'
  show (if r' = r ∧ g' = g then v else if r' = r ∧ g' = g then x else s.2.1 r' g') = (if r' = r ∧ g' = g then v else s.2.1 r' g')
  by_cases q : r' = r ∧ g' = g
  · rw [if_pos q, if_pos q]
  · rw [if_neg q, if_neg q, if_neg q]
theorem z_sr_id (s : ZS) (r g : Nat) : z_sr s r g (s.2.1 r g) = s := by
  unfold z_sr
  refine Prod.ext rfl (Prod.ext ?_ rfl)
  funext r' g'
  show (if r' = r ∧ g' = g then s.2.1 r g else s.2.1 r' g') = s.2.1 r' g'
  by_cases q : r' = r ∧ g' = g
  · rw [if_pos q, q.1, q.2]
  · rw [if_neg q]
theorem z_sr_v (s : ZS) (r g v : Nat) : (z_sr s r g v).2.1 r g = v := if_pos ⟨rfl, rfl⟩
theorem z_sr_o (s : ZS) {r r' : Nat} (g g' v : Nat) (h : r' ≠ r) : (z_sr s r g v).2.1 r' g' = s.2.1 r' g' := if_neg (fun e => h e.1)
theorem z_good_s {s s' : ZS} {h : ZH} {k : Nat} (e : s'.1 0 = s.1 0) (q : z_good s h k) : z_good s' h k := by
  unfold z_good z_row at q ⊢
  rw [e]
  exact q
theorem BZ.sr0 {s : ZS} (hB : BZ s) {r g v : Nat} (hr : r < 2) (hv : v < (if r = 0 then 6 else 10)) : BZ (z_sr s r g v) := by
  refine ⟨hB.1, hB.2.1, hB.2.2.1, fun g' hg' => ?_⟩
  have hb := hB.2.2.2 g' hg'
  have e : ∀ r', (z_sr s r g v).2.1 r' g' = if r' = r ∧ g' = g then v else s.2.1 r' g' := fun _ => rfl
  have e1 : (z_sr s r g v).1 0 = s.1 0 := rfl
  rw [e, e, e, e, e, e1]
  have hr' : r = 0 ∨ r = 1 := by omega
  rcases hr' with rfl | rfl
  · rw [if_pos rfl] at hv
    refine ⟨?_, ?_, ?_, ?_, ?_⟩ <;> split <;> first | omega | skip
  · rw [if_neg (by decide)] at hv
    refine ⟨?_, ?_, ?_, ?_, ?_⟩ <;> split <;> first | omega | skip
theorem IMo.sr0 {s : ZS} {m : q_M} {r gu v : Nat} (hM : IMo s m) (hr : r < 2) : IMo (z_sr s r gu v) (q_up m (39 + r) gu (nI v)) := by
  refine ⟨⟨?_, ?_, ?_⟩, fun g hg => ?_, fun g hg r' hr' => ?_, fun i hi => ?_⟩
  · rw [q_up_f _ _ _ (by omega)]; exact hM.n
  · rw [q_up_f _ _ _ (by omega)]; exact hM.nt
  · rw [q_up_f _ _ _ (by omega)]; exact hM.lw
  · show _ = nI (if 0 = r ∧ g = gu then v else s.2.1 0 g) ∧ _ = nI (if 1 = r ∧ g = gu then v else s.2.1 1 g)
    have hr' : r = 0 ∨ r = 1 := by omega
    rcases hr' with rfl | rfl
    · rw [q_up_f _ _ _ (show 40 ≠ 39 + 0 by decide), if_neg (show ¬ (1 = 0 ∧ g = gu) by omega)]
      refine ⟨?_, hM.mo g hg⟩
      by_cases q : g = gu
      · rw [if_pos ⟨rfl, q⟩, q]; exact q_up_eq _ _ _ _
      · rw [if_neg (fun e => q e.2), q_up_i _ _ q]; exact hM.k g hg
    · rw [q_up_f _ _ _ (show 39 ≠ 39 + 1 by decide), if_neg (show ¬ (0 = 1 ∧ g = gu) by omega)]
      refine ⟨hM.k g hg, ?_⟩
      by_cases q : g = gu
      · rw [if_pos ⟨rfl, q⟩, q]; exact q_up_eq _ _ _ _
      · rw [if_neg (fun e => q e.2), q_up_i _ _ q]; exact hM.mo g hg
  · show _ = nI (if 2 + r' = r ∧ g = gu then v else s.2.1 (2 + r') g)
    rw [q_up_f _ _ _ (by omega), if_neg (by omega)]
    exact hM.2.2.1 g hg r' hr'
  · rw [q_up_f _ _ _ (by omega)]; exact hM.of i hi
section
variable {T : List Nat} {L : Nat} {s : ZS} {tx : Nat → Nat → List Nat} {n : Nat} {h : ZH} {m m' : q_M} {K : Option Value → q_G → q_M → Prop}
/-- one number of a guest put -/
theorem CJ.put {r gu x v : Nat} (l : CJ T L (z_sr s r gu x) tx n h m) (hr : r < 5) (hB : BZ (z_sr s r gu v)) : CJ T L (z_sr s r gu v) tx n h (q_up m (4 + r) gu (nI v)) := by
  have e := z_sr_sr s r gu x v
  have hC := l.cl.sr (c := 3) (r := r) (gu := gu) (v := v) hr
  rw [e] at hC
  exact l.to hB l.1.2.2.1 hC (fun k h1 h2 => q_up_f _ _ _ (by omega))
theorem RJ.put {r gu x v : Nat} (l : RJ (z_sr s (2 + r) gu x) tx n h m) (hr : r < 3) (hB : BZ (z_sr s (2 + r) gu v)) : RJ (z_sr s (2 + r) gu v) tx n h (q_up m 41 (3 * gu + r) (nI v)) := by
  have e := z_sr_sr s (2 + r) gu x v
  have hC := l.mo.sr (r := r) (gu := gu) (v := v) hr
  rw [e] at hC
  exact l.to hB l.1.2.2.1 hC (fun k h1 h2 h3 => q_up_f _ _ _ (by omega)) (by rw [q_up_f _ _ _ (by decide)])
theorem RJ.put0 {r gu x v : Nat} (l : RJ (z_sr s r gu x) tx n h m) (hr : r < 2) (hB : BZ (z_sr s r gu v)) : RJ (z_sr s r gu v) tx n h (q_up m (39 + r) gu (nI v)) := by
  have e := z_sr_sr s r gu x v
  have hC := l.mo.sr0 (r := r) (gu := gu) (v := v) hr
  rw [e] at hC
  exact l.to hB l.1.2.2.1 hC (fun k h1 h2 h3 => q_up_f _ _ _ (by omega)) (by rw [q_up_f _ _ _ (by omega)])
/-- what may have changed while one number of the guests is tried -/
def FCp (p : Nat) (m m' : q_M) : Prop := ∀ k, ¬ (13 ≤ k ∧ k < 15) → k ≠ p → m' k = m k
def FMp (p : Nat) (m m' : q_M) : Prop := (∀ k, k ≠ 38 → ¬ (53 ≤ k ∧ k < 55) → k ≠ p → m' k = m k) ∧ ∀ f, f < 21 → m' 38 f = m 38 f
theorem FCp.refl (p : Nat) (m : q_M) : FCp p m m := fun _ _ _ => rfl
theorem FCp.trans {p : Nat} {a b c : q_M} (h : FCp p a b) (h' : FCp p b c) : FCp p a c := fun k hk hp => (h' k hk hp).trans (h k hk hp)
theorem FC.p {p : Nat} {a b : q_M} (h : FC a b) : FCp p a b := fun k hk _ => h k hk
theorem FCp.up (p i : Nat) (v : Int32) (m : q_M) : FCp p m (q_up m p i v) := fun k _ hp => q_up_f _ _ _ hp
theorem FMp.refl (p : Nat) (m : q_M) : FMp p m m := ⟨fun _ _ _ _ => rfl, fun _ _ => rfl⟩
theorem FMp.trans {p : Nat} {a b c : q_M} (h : FMp p a b) (h' : FMp p b c) : FMp p a c := ⟨fun k h1 h2 hp => (h'.1 k h1 h2 hp).trans (h.1 k h1 h2 hp), fun f hf => (h'.2 f hf).trans (h.2 f hf)⟩
theorem FM.p {p : Nat} {a b : q_M} (h : FM a b) : FMp p a b := ⟨fun k h1 h2 _ => h.1 k h1 h2, h.2⟩
theorem FMp.up {p : Nat} (hp : p ≠ 38) (i : Nat) (v : Int32) (m : q_M) : FMp p m (q_up m p i v) := ⟨fun k _ _ hq => q_up_f _ _ _ hq, fun f _ => by rw [q_up_f _ _ _ (Ne.symm hp)]⟩
theorem z_srz (s : ZS) (r gu v : Nat) : (z_sr s r gu v).1 0 = s.1 0 := rfl
def z_ulk (tx : Nat → Nat → List Nat) (s : ZS) (h : ZH) (k r g v : Nat) : Bool := z_ul0 tx (z_sr s r g v) h k g
theorem z_ulkT {tx : Nat → Nat → List Nat} {s : ZS} {h : ZH} {k r g v : Nat} : z_ulk tx s h k r g v = true ↔ z_ul tx (z_sr s r g v) h k g = (-1 : Int32) := decide_eq_true_iff
theorem l_kinds {k gu so : Nat} (hk : k < 4) (hgd : z_good s h k) (hg : gu < s.1 0) (h6 : s.1 0 ≤ 6) (hB : BZ s) (hso : so < 2) (x4 : Option Value) (x6 : Int32) (d : Nat) : ∀ c v m b x, v + c = (if so = 0 then 6 else 10) → CJ T L (z_sr s so gu x) tx n h m → (∀ m' x', FCp (4 + so) m m' → CJ T L (z_sr s so gu x') tx n h m' → q_R 84 127 (d + 6) [some (.ref 0), some (.int (nI k)), some (.int (nI gu)), some (.int (nI so)), x4, some (.ref (4 + so)), some (.int x6), some (.int (z_bt (z_ulk tx s h k so gu) c v b)), some (.int (nI (if so = 0 then 6 else 10)))] [] (GG T L) m' K) →
    q_R 84 78 (d + 6) [some (.ref 0), some (.int (nI k)), some (.int (nI gu)), some (.int (nI so)), x4, some (.ref (4 + so)), some (.int x6), some (.int b), some (.int (nI v))] [] (GG T L) m K
  | 0, v, m, b, x, hc, l, hK => by
    have hso' : so = 0 ∨ so = 1 := by omega
    rcases hso' with rfl | rfl
    · rw [if_pos rfl] at hc hK
      have hv : v = 6 := by omega
      subst hv
      simp only [u84_78, u84_80, u84_81, u84_84, u84_86, u84_89, u84_91, q_push_s, q_push_n, q_sm_0, q_sm_i, q_sm_r, q_sm_n, q_sm_l, q_c1_0, q_c1_i, q_c1_r, q_c1_n, Nat.zero_add, Nat.reduceAdd, Nat.reduceMul, Nat.reduceSub, Nat.reduceLeDiff, Nat.reduceLT, Nat.reduceEqDiff, true_and, and_true, not_false_eq_true, if_true, if_false, ite_true, ite_false, or_true, true_or, or_false, false_or, not_true_eq_false, eq_self, lq_0_1, lq_0_2, lq_0_3, lq_0_4, lq_0_5, lq_0_6, lq_1_0, lq_1_2, lq_1_3, lq_1_4, lq_1_5, lq_1_6, lq_2_0, lq_2_1, lq_2_3, lq_2_4, lq_2_5, lq_2_6, lq_3_0, lq_3_1, lq_3_2, lq_3_4, lq_3_5, lq_3_6, lq_4_0, lq_4_1, lq_4_2, lq_4_3, lq_4_5, lq_4_6, lq_5_0, lq_5_1, lq_5_2, lq_5_3, lq_5_4, lq_5_6, lq_6_0, lq_6_1, lq_6_2, lq_6_3, lq_6_4, lq_6_5, ll_0_0, ll_0_1, ll_0_2, ll_0_3, ll_0_4, ll_0_5, ll_0_6, ll_1_0, ll_1_1, ll_1_2, ll_1_3, ll_1_4, ll_1_5, ll_1_6, ll_2_0, ll_2_1, ll_2_2, ll_2_3, ll_2_4, ll_2_5, ll_2_6, ll_3_0, ll_3_1, ll_3_2, ll_3_3, ll_3_4, ll_3_5, ll_3_6, ll_4_0, ll_4_1, ll_4_2, ll_4_3, ll_4_4, ll_4_5, ll_4_6, ll_5_0, ll_5_1, ll_5_2, ll_5_3, ll_5_4, ll_5_5, ll_5_6, ll_6_0, ll_6_1, ll_6_2, ll_6_3, ll_6_4, ll_6_5, ll_6_6, le_0_0, le_0_1, le_0_2, le_0_3, le_0_4, le_0_5, le_0_6, le_1_0, le_1_1, le_1_2, le_1_3, le_1_4, le_1_5, le_1_6, le_2_0, le_2_1, le_2_2, le_2_3, le_2_4, le_2_5, le_2_6, le_3_0, le_3_1, le_3_2, le_3_3, le_3_4, le_3_5, le_3_6, le_4_0, le_4_1, le_4_2, le_4_3, le_4_4, le_4_5, le_4_6, le_5_0, le_5_1, le_5_2, le_5_3, le_5_4, le_5_5, le_5_6, le_6_0, le_6_1, le_6_2, le_6_3, le_6_4, le_6_5, le_6_6]
      exact hK m x (FCp.refl _ m) l
    · rw [if_neg (by decide)] at hc hK
      have hv : v = 10 := by omega
      subst hv
      simp only [u84_78, u84_80, u84_81, u84_84, u84_86, u84_89, u84_91, q_push_s, q_push_n, q_sm_0, q_sm_i, q_sm_r, q_sm_n, q_sm_l, q_c1_0, q_c1_i, q_c1_r, q_c1_n, Nat.zero_add, Nat.reduceAdd, Nat.reduceMul, Nat.reduceSub, Nat.reduceLeDiff, Nat.reduceLT, Nat.reduceEqDiff, true_and, and_true, not_false_eq_true, if_true, if_false, ite_true, ite_false, or_true, true_or, or_false, false_or, not_true_eq_false, eq_self, lq_0_1, lq_0_2, lq_0_3, lq_0_4, lq_0_5, lq_0_6, lq_1_0, lq_1_2, lq_1_3, lq_1_4, lq_1_5, lq_1_6, lq_2_0, lq_2_1, lq_2_3, lq_2_4, lq_2_5, lq_2_6, lq_3_0, lq_3_1, lq_3_2, lq_3_4, lq_3_5, lq_3_6, lq_4_0, lq_4_1, lq_4_2, lq_4_3, lq_4_5, lq_4_6, lq_5_0, lq_5_1, lq_5_2, lq_5_3, lq_5_4, lq_5_6, lq_6_0, lq_6_1, lq_6_2, lq_6_3, lq_6_4, lq_6_5, ll_0_0, ll_0_1, ll_0_2, ll_0_3, ll_0_4, ll_0_5, ll_0_6, ll_1_0, ll_1_1, ll_1_2, ll_1_3, ll_1_4, ll_1_5, ll_1_6, ll_2_0, ll_2_1, ll_2_2, ll_2_3, ll_2_4, ll_2_5, ll_2_6, ll_3_0, ll_3_1, ll_3_2, ll_3_3, ll_3_4, ll_3_5, ll_3_6, ll_4_0, ll_4_1, ll_4_2, ll_4_3, ll_4_4, ll_4_5, ll_4_6, ll_5_0, ll_5_1, ll_5_2, ll_5_3, ll_5_4, ll_5_5, ll_5_6, ll_6_0, ll_6_1, ll_6_2, ll_6_3, ll_6_4, ll_6_5, ll_6_6, le_0_0, le_0_1, le_0_2, le_0_3, le_0_4, le_0_5, le_0_6, le_1_0, le_1_1, le_1_2, le_1_3, le_1_4, le_1_5, le_1_6, le_2_0, le_2_1, le_2_2, le_2_3, le_2_4, le_2_5, le_2_6, le_3_0, le_3_1, le_3_2, le_3_3, le_3_4, le_3_5, le_3_6, le_4_0, le_4_1, le_4_2, le_4_3, le_4_4, le_4_5, le_4_6, le_5_0, le_5_1, le_5_2, le_5_3, le_5_4, le_5_5, le_5_6, le_6_0, le_6_1, le_6_2, le_6_3, le_6_4, le_6_5, le_6_6, n_lt (i := 10) (j := 10) (by decide) (by decide)]
      exact hK m x (FCp.refl _ m) l
  | c + 1, v, m, b, x, hc, l, hK => by
    have hso' : so = 0 ∨ so = 1 := by omega
    have hv : v < (if so = 0 then 6 else 10) := by omega
    have hBv := hB.sr0 (g := gu) hso hv
    have l2 := l.put (v := v) (by omega) hBv
    have rest : q_R 84 102 (d + 6) [some (.ref 0), some (.int (nI k)), some (.int (nI gu)), some (.int (nI so)), x4, some (.ref (4 + so)), some (.int x6), some (.int b), some (.int (nI v))] [] (GG T L) (q_up m (4 + so) gu (nI v)) K := by
      simp only [u84_102, u84_103, u84_104, u84_105, q_push_s, q_push_n, q_sm_0, q_sm_i, q_sm_r, q_sm_n, q_sm_l, q_c1_0, q_c1_i, q_c1_r, q_c1_n, Nat.zero_add, Nat.reduceAdd, Nat.reduceMul, Nat.reduceSub, Nat.reduceLeDiff, Nat.reduceLT, Nat.reduceEqDiff, true_and, and_true, not_false_eq_true, if_true, if_false, ite_true, ite_false, or_true, true_or, or_false, false_or, not_true_eq_false, io0, Nat.zero_le, Nat.reduceLeDiff]
      refine l2.fo hk (z_good_s (z_srz s so gu v) hgd) hg (fun m1 f1 l1 => ?_)
      have ft := (FCp.up (4 + so) gu (nI v) m).trans f1.p
      simp only [u84_108, u84_109, u84_112, u84_114, u84_115, u84_117, u84_118, u84_119, u84_121, u84_124, q_push_s, q_push_n, q_sm_0, q_sm_i, q_sm_r, q_sm_n, q_sm_l, q_c1_0, q_c1_i, q_c1_r, q_c1_n, Nat.zero_add, Nat.reduceAdd, Nat.reduceMul, Nat.reduceSub, Nat.reduceLeDiff, Nat.reduceLT, Nat.reduceEqDiff, true_and, and_true, not_false_eq_true, if_true, if_false, ite_true, ite_false, or_true, true_or, or_false, false_or, not_true_eq_false, n_add]
      unfold z_bt at hK
      by_cases q : z_ul tx (z_sr s so gu v) h k gu = (-1 : Int32)
      · rw [if_pos (z_ulkT.mpr q)] at hK
        rw [if_pos q]
        exact l_kinds hk hgd hg h6 hB hso x4 x6 d c (v + 1) m1 _ v (by omega) l1 (fun m' x' f' l' => hK m' x' (ft.trans f') l')
      · rw [if_neg (fun e => q (z_ulkT.mp e))] at hK
        rw [if_neg q]
        exact l_kinds hk hgd hg h6 hB hso x4 x6 d c (v + 1) m1 _ v (by omega) l1 (fun m' x' f' l' => hK m' x' (ft.trans f') l')
    rcases hso' with rfl | rfl
    · rw [if_pos rfl] at hv
      rw [u84_78]
      simp only [u84_80, u84_81, u84_84, u84_86, u84_89, u84_91, u84_94, u84_94n, u84_96, u84_97, u84_99, q_push_s, q_push_n, q_sm_0, q_sm_i, q_sm_r, q_sm_n, q_sm_l, q_c1_0, q_c1_i, q_c1_r, q_c1_n, Nat.zero_add, Nat.reduceAdd, Nat.reduceMul, Nat.reduceSub, Nat.reduceLeDiff, Nat.reduceLT, Nat.reduceEqDiff, true_and, and_true, not_false_eq_true, if_true, if_false, ite_true, ite_false, or_true, true_or, or_false, false_or, not_true_eq_false, eq_self, lq_0_1, lq_0_2, lq_0_3, lq_0_4, lq_0_5, lq_0_6, lq_1_0, lq_1_2, lq_1_3, lq_1_4, lq_1_5, lq_1_6, lq_2_0, lq_2_1, lq_2_3, lq_2_4, lq_2_5, lq_2_6, lq_3_0, lq_3_1, lq_3_2, lq_3_4, lq_3_5, lq_3_6, lq_4_0, lq_4_1, lq_4_2, lq_4_3, lq_4_5, lq_4_6, lq_5_0, lq_5_1, lq_5_2, lq_5_3, lq_5_4, lq_5_6, lq_6_0, lq_6_1, lq_6_2, lq_6_3, lq_6_4, lq_6_5, ll_0_0, ll_0_1, ll_0_2, ll_0_3, ll_0_4, ll_0_5, ll_0_6, ll_1_0, ll_1_1, ll_1_2, ll_1_3, ll_1_4, ll_1_5, ll_1_6, ll_2_0, ll_2_1, ll_2_2, ll_2_3, ll_2_4, ll_2_5, ll_2_6, ll_3_0, ll_3_1, ll_3_2, ll_3_3, ll_3_4, ll_3_5, ll_3_6, ll_4_0, ll_4_1, ll_4_2, ll_4_3, ll_4_4, ll_4_5, ll_4_6, ll_5_0, ll_5_1, ll_5_2, ll_5_3, ll_5_4, ll_5_5, ll_5_6, ll_6_0, ll_6_1, ll_6_2, ll_6_3, ll_6_4, ll_6_5, ll_6_6, le_0_0, le_0_1, le_0_2, le_0_3, le_0_4, le_0_5, le_0_6, le_1_0, le_1_1, le_1_2, le_1_3, le_1_4, le_1_5, le_1_6, le_2_0, le_2_1, le_2_2, le_2_3, le_2_4, le_2_5, le_2_6, le_3_0, le_3_1, le_3_2, le_3_3, le_3_4, le_3_5, le_3_6, le_4_0, le_4_1, le_4_2, le_4_3, le_4_4, le_4_5, le_4_6, le_5_0, le_5_1, le_5_2, le_5_3, le_5_4, le_5_5, le_5_6, le_6_0, le_6_1, le_6_2, le_6_3, le_6_4, le_6_5, le_6_6, n_lt (i := v) (j := 6) (by omega) (by decide), hv, c_put (j := gu) sh4 (by decide) (by decide) (show gu < 6 by omega)]
      exact rest
    · rw [if_neg (by decide)] at hv
      rw [u84_78]
      simp only [u84_80, u84_81, u84_84, u84_86, u84_89, u84_91, u84_94, u84_94n, u84_96, u84_97, u84_99, q_push_s, q_push_n, q_sm_0, q_sm_i, q_sm_r, q_sm_n, q_sm_l, q_c1_0, q_c1_i, q_c1_r, q_c1_n, Nat.zero_add, Nat.reduceAdd, Nat.reduceMul, Nat.reduceSub, Nat.reduceLeDiff, Nat.reduceLT, Nat.reduceEqDiff, true_and, and_true, not_false_eq_true, if_true, if_false, ite_true, ite_false, or_true, true_or, or_false, false_or, not_true_eq_false, eq_self, lq_0_1, lq_0_2, lq_0_3, lq_0_4, lq_0_5, lq_0_6, lq_1_0, lq_1_2, lq_1_3, lq_1_4, lq_1_5, lq_1_6, lq_2_0, lq_2_1, lq_2_3, lq_2_4, lq_2_5, lq_2_6, lq_3_0, lq_3_1, lq_3_2, lq_3_4, lq_3_5, lq_3_6, lq_4_0, lq_4_1, lq_4_2, lq_4_3, lq_4_5, lq_4_6, lq_5_0, lq_5_1, lq_5_2, lq_5_3, lq_5_4, lq_5_6, lq_6_0, lq_6_1, lq_6_2, lq_6_3, lq_6_4, lq_6_5, ll_0_0, ll_0_1, ll_0_2, ll_0_3, ll_0_4, ll_0_5, ll_0_6, ll_1_0, ll_1_1, ll_1_2, ll_1_3, ll_1_4, ll_1_5, ll_1_6, ll_2_0, ll_2_1, ll_2_2, ll_2_3, ll_2_4, ll_2_5, ll_2_6, ll_3_0, ll_3_1, ll_3_2, ll_3_3, ll_3_4, ll_3_5, ll_3_6, ll_4_0, ll_4_1, ll_4_2, ll_4_3, ll_4_4, ll_4_5, ll_4_6, ll_5_0, ll_5_1, ll_5_2, ll_5_3, ll_5_4, ll_5_5, ll_5_6, ll_6_0, ll_6_1, ll_6_2, ll_6_3, ll_6_4, ll_6_5, ll_6_6, le_0_0, le_0_1, le_0_2, le_0_3, le_0_4, le_0_5, le_0_6, le_1_0, le_1_1, le_1_2, le_1_3, le_1_4, le_1_5, le_1_6, le_2_0, le_2_1, le_2_2, le_2_3, le_2_4, le_2_5, le_2_6, le_3_0, le_3_1, le_3_2, le_3_3, le_3_4, le_3_5, le_3_6, le_4_0, le_4_1, le_4_2, le_4_3, le_4_4, le_4_5, le_4_6, le_5_0, le_5_1, le_5_2, le_5_3, le_5_4, le_5_5, le_5_6, le_6_0, le_6_1, le_6_2, le_6_3, le_6_4, le_6_5, le_6_6, n_lt (i := v) (j := 10) (by omega) (by decide), hv, c_put (j := gu) sh5 (by decide) (by decide) (show gu < 6 by omega)]
      exact rest
theorem l_kinds8 {k gu so : Nat} (hk : k < 4) (hgd : z_good s h k) (hg : gu < s.1 0) (h6 : s.1 0 ≤ 6) (hB : BZ s) (hso : so < 2) (x4 : Option Value) (d : Nat) : ∀ c v m b x, v + c = (if so = 0 then 6 else 10) → RJ (z_sr s so gu x) tx n h m → (∀ m' x', FMp (39 + so) m m' → RJ (z_sr s so gu x') tx n h m' → q_R 181 130 (d + 6) [some (.ref 38), some (.int (nI k)), some (.int (nI gu)), some (.int (nI so)), x4, some (.int (nI (s.2.1 0 gu))), some (.int (nI (s.2.1 1 gu))), some (.int (z_bt (z_ulk tx s h k so gu) c v b)), some (.int (nI (if so = 0 then 6 else 10)))] [] (GG T L) m' K) →
    q_R 181 50 (d + 6) [some (.ref 38), some (.int (nI k)), some (.int (nI gu)), some (.int (nI so)), x4, some (.int (nI (s.2.1 0 gu))), some (.int (nI (s.2.1 1 gu))), some (.int b), some (.int (nI v))] [] (GG T L) m K
  | 0, v, m, b, x, hc, l, hK => by
    have hso' : so = 0 ∨ so = 1 := by omega
    rcases hso' with rfl | rfl
    · rw [if_pos rfl] at hc hK
      have hv : v = 6 := by omega
      subst hv
      simp only [u181_50, u181_52, u181_53, u181_56, u181_58, u181_61, u181_63, q_push_s, q_push_n, q_sm_0, q_sm_i, q_sm_r, q_sm_n, q_sm_l, q_c1_0, q_c1_i, q_c1_r, q_c1_n, Nat.zero_add, Nat.reduceAdd, Nat.reduceMul, Nat.reduceSub, Nat.reduceLeDiff, Nat.reduceLT, Nat.reduceEqDiff, true_and, and_true, not_false_eq_true, if_true, if_false, ite_true, ite_false, or_true, true_or, or_false, false_or, not_true_eq_false, eq_self, lq_0_1, lq_0_2, lq_0_3, lq_0_4, lq_0_5, lq_0_6, lq_1_0, lq_1_2, lq_1_3, lq_1_4, lq_1_5, lq_1_6, lq_2_0, lq_2_1, lq_2_3, lq_2_4, lq_2_5, lq_2_6, lq_3_0, lq_3_1, lq_3_2, lq_3_4, lq_3_5, lq_3_6, lq_4_0, lq_4_1, lq_4_2, lq_4_3, lq_4_5, lq_4_6, lq_5_0, lq_5_1, lq_5_2, lq_5_3, lq_5_4, lq_5_6, lq_6_0, lq_6_1, lq_6_2, lq_6_3, lq_6_4, lq_6_5, ll_0_0, ll_0_1, ll_0_2, ll_0_3, ll_0_4, ll_0_5, ll_0_6, ll_1_0, ll_1_1, ll_1_2, ll_1_3, ll_1_4, ll_1_5, ll_1_6, ll_2_0, ll_2_1, ll_2_2, ll_2_3, ll_2_4, ll_2_5, ll_2_6, ll_3_0, ll_3_1, ll_3_2, ll_3_3, ll_3_4, ll_3_5, ll_3_6, ll_4_0, ll_4_1, ll_4_2, ll_4_3, ll_4_4, ll_4_5, ll_4_6, ll_5_0, ll_5_1, ll_5_2, ll_5_3, ll_5_4, ll_5_5, ll_5_6, ll_6_0, ll_6_1, ll_6_2, ll_6_3, ll_6_4, ll_6_5, ll_6_6, le_0_0, le_0_1, le_0_2, le_0_3, le_0_4, le_0_5, le_0_6, le_1_0, le_1_1, le_1_2, le_1_3, le_1_4, le_1_5, le_1_6, le_2_0, le_2_1, le_2_2, le_2_3, le_2_4, le_2_5, le_2_6, le_3_0, le_3_1, le_3_2, le_3_3, le_3_4, le_3_5, le_3_6, le_4_0, le_4_1, le_4_2, le_4_3, le_4_4, le_4_5, le_4_6, le_5_0, le_5_1, le_5_2, le_5_3, le_5_4, le_5_5, le_5_6, le_6_0, le_6_1, le_6_2, le_6_3, le_6_4, le_6_5, le_6_6]
      exact hK m x (FMp.refl _ m) l
    · rw [if_neg (by decide)] at hc hK
      have hv : v = 10 := by omega
      subst hv
      simp only [u181_50, u181_52, u181_53, u181_56, u181_58, u181_61, u181_63, q_push_s, q_push_n, q_sm_0, q_sm_i, q_sm_r, q_sm_n, q_sm_l, q_c1_0, q_c1_i, q_c1_r, q_c1_n, Nat.zero_add, Nat.reduceAdd, Nat.reduceMul, Nat.reduceSub, Nat.reduceLeDiff, Nat.reduceLT, Nat.reduceEqDiff, true_and, and_true, not_false_eq_true, if_true, if_false, ite_true, ite_false, or_true, true_or, or_false, false_or, not_true_eq_false, eq_self, lq_0_1, lq_0_2, lq_0_3, lq_0_4, lq_0_5, lq_0_6, lq_1_0, lq_1_2, lq_1_3, lq_1_4, lq_1_5, lq_1_6, lq_2_0, lq_2_1, lq_2_3, lq_2_4, lq_2_5, lq_2_6, lq_3_0, lq_3_1, lq_3_2, lq_3_4, lq_3_5, lq_3_6, lq_4_0, lq_4_1, lq_4_2, lq_4_3, lq_4_5, lq_4_6, lq_5_0, lq_5_1, lq_5_2, lq_5_3, lq_5_4, lq_5_6, lq_6_0, lq_6_1, lq_6_2, lq_6_3, lq_6_4, lq_6_5, ll_0_0, ll_0_1, ll_0_2, ll_0_3, ll_0_4, ll_0_5, ll_0_6, ll_1_0, ll_1_1, ll_1_2, ll_1_3, ll_1_4, ll_1_5, ll_1_6, ll_2_0, ll_2_1, ll_2_2, ll_2_3, ll_2_4, ll_2_5, ll_2_6, ll_3_0, ll_3_1, ll_3_2, ll_3_3, ll_3_4, ll_3_5, ll_3_6, ll_4_0, ll_4_1, ll_4_2, ll_4_3, ll_4_4, ll_4_5, ll_4_6, ll_5_0, ll_5_1, ll_5_2, ll_5_3, ll_5_4, ll_5_5, ll_5_6, ll_6_0, ll_6_1, ll_6_2, ll_6_3, ll_6_4, ll_6_5, ll_6_6, le_0_0, le_0_1, le_0_2, le_0_3, le_0_4, le_0_5, le_0_6, le_1_0, le_1_1, le_1_2, le_1_3, le_1_4, le_1_5, le_1_6, le_2_0, le_2_1, le_2_2, le_2_3, le_2_4, le_2_5, le_2_6, le_3_0, le_3_1, le_3_2, le_3_3, le_3_4, le_3_5, le_3_6, le_4_0, le_4_1, le_4_2, le_4_3, le_4_4, le_4_5, le_4_6, le_5_0, le_5_1, le_5_2, le_5_3, le_5_4, le_5_5, le_5_6, le_6_0, le_6_1, le_6_2, le_6_3, le_6_4, le_6_5, le_6_6, n_lt (i := 10) (j := 10) (by decide) (by decide)]
      exact hK m x (FMp.refl _ m) l
  | c + 1, v, m, b, x, hc, l, hK => by
    have hso' : so = 0 ∨ so = 1 := by omega
    have hv : v < (if so = 0 then 6 else 10) := by omega
    have hBv := hB.sr0 (g := gu) hso hv
    have l2 := l.put0 (v := v) hso hBv
    have cg : (nI gu).toNatClampNeg = gu := n_cl (by omega)
    have rest : q_R 181 101 (d + 6) [some (.ref 38), some (.int (nI k)), some (.int (nI gu)), some (.int (nI so)), x4, some (.int (nI (s.2.1 0 gu))), some (.int (nI (s.2.1 1 gu))), some (.int b), some (.int (nI v))] [] (GG T L) (q_up m (39 + so) gu (nI v)) K := by
      simp only [u181_101, u181_103, u181_104, u181_105, u181_106, q_push_s, q_push_n, q_sm_0, q_sm_i, q_sm_r, q_sm_n, q_sm_l, q_c1_0, q_c1_i, q_c1_r, q_c1_n, Nat.zero_add, Nat.reduceAdd, Nat.reduceMul, Nat.reduceSub, Nat.reduceLeDiff, Nat.reduceLT, Nat.reduceEqDiff, true_and, and_true, not_false_eq_true, if_true, if_false, ite_true, ite_false, or_true, true_or, or_false, false_or, not_true_eq_false, io38, Nat.zero_le, Nat.reduceLeDiff]
      refine l2.ul hk (z_good_s (z_srz s so gu v) hgd) hg (fun m1 f1 l1 => ?_)
      have ft := (FMp.up (p := 39 + so) (by omega) gu (nI v) m).trans f1.p
      simp only [u181_109, u181_110, u181_113, u181_114, u181_116, u181_117, u181_120, u181_121, u181_122, u181_124, u181_127, q_push_s, q_push_n, q_sm_0, q_sm_i, q_sm_r, q_sm_n, q_sm_l, q_c1_0, q_c1_i, q_c1_r, q_c1_n, Nat.zero_add, Nat.reduceAdd, Nat.reduceMul, Nat.reduceSub, Nat.reduceLeDiff, Nat.reduceLT, Nat.reduceEqDiff, true_and, and_true, not_false_eq_true, if_true, if_false, ite_true, ite_false, or_true, true_or, or_false, false_or, not_true_eq_false, n_add, n_or0]
      unfold z_bt at hK
      by_cases q : z_ul tx (z_sr s so gu v) h k gu = (-1 : Int32)
      · rw [if_pos (z_ulkT.mpr q)] at hK
        rw [if_pos q]
        exact l_kinds8 hk hgd hg h6 hB hso x4 d c (v + 1) m1 _ v (by omega) l1 (fun m' x' f' l' => hK m' x' (ft.trans f') l')
      · rw [if_neg (fun e => q (z_ulkT.mp e))] at hK
        rw [if_neg q]
        exact l_kinds8 hk hgd hg h6 hB hso x4 d c (v + 1) m1 _ v (by omega) l1 (fun m' x' f' l' => hK m' x' (ft.trans f') l')
    have upid : ∀ (m0 : q_M) (p : Nat) (w : Int32), m0 p gu = w → q_up m0 p gu w = m0 := by
      intro m0 p w e
      funext k' i'
      by_cases q : k' = p ∧ i' = gu
      · rw [q.1, q.2, q_up_eq, e]
      · unfold q_up; rw [if_neg q]
    rcases hso' with rfl | rfl
    · rw [if_pos rfl] at hv
      have e40 : q_up (q_up m 39 gu (nI v)) 40 gu (nI (s.2.1 1 gu)) = q_up m 39 gu (nI v) := upid _ _ _ (by rw [q_up_f _ _ _ (by decide)]; exact l.mo.mo gu hg)
      rw [u181_50]
      simp only [u181_52, u181_53, u181_56, u181_58, u181_61, u181_63, u181_66, u181_67, u181_70, u181_71, u181_72, u181_75, u181_77, u181_80, u181_82, u181_83, u181_84, u181_87, u181_88, u181_89, u181_90, u181_93, u181_95, u181_98, u181_100, q_push_s, q_push_n, q_sm_0, q_sm_i, q_sm_r, q_sm_n, q_sm_l, q_c1_0, q_c1_i, q_c1_r, q_c1_n, Nat.zero_add, Nat.reduceAdd, Nat.reduceMul, Nat.reduceSub, Nat.reduceLeDiff, Nat.reduceLT, Nat.reduceEqDiff, true_and, and_true, not_false_eq_true, if_true, if_false, ite_true, ite_false, or_true, true_or, or_false, false_or, not_true_eq_false, eq_self, lq_0_1, lq_0_2, lq_0_3, lq_0_4, lq_0_5, lq_0_6, lq_1_0, lq_1_2, lq_1_3, lq_1_4, lq_1_5, lq_1_6, lq_2_0, lq_2_1, lq_2_3, lq_2_4, lq_2_5, lq_2_6, lq_3_0, lq_3_1, lq_3_2, lq_3_4, lq_3_5, lq_3_6, lq_4_0, lq_4_1, lq_4_2, lq_4_3, lq_4_5, lq_4_6, lq_5_0, lq_5_1, lq_5_2, lq_5_3, lq_5_4, lq_5_6, lq_6_0, lq_6_1, lq_6_2, lq_6_3, lq_6_4, lq_6_5, ll_0_0, ll_0_1, ll_0_2, ll_0_3, ll_0_4, ll_0_5, ll_0_6, ll_1_0, ll_1_1, ll_1_2, ll_1_3, ll_1_4, ll_1_5, ll_1_6, ll_2_0, ll_2_1, ll_2_2, ll_2_3, ll_2_4, ll_2_5, ll_2_6, ll_3_0, ll_3_1, ll_3_2, ll_3_3, ll_3_4, ll_3_5, ll_3_6, ll_4_0, ll_4_1, ll_4_2, ll_4_3, ll_4_4, ll_4_5, ll_4_6, ll_5_0, ll_5_1, ll_5_2, ll_5_3, ll_5_4, ll_5_5, ll_5_6, ll_6_0, ll_6_1, ll_6_2, ll_6_3, ll_6_4, ll_6_5, ll_6_6, le_0_0, le_0_1, le_0_2, le_0_3, le_0_4, le_0_5, le_0_6, le_1_0, le_1_1, le_1_2, le_1_3, le_1_4, le_1_5, le_1_6, le_2_0, le_2_1, le_2_2, le_2_3, le_2_4, le_2_5, le_2_6, le_3_0, le_3_1, le_3_2, le_3_3, le_3_4, le_3_5, le_3_6, le_4_0, le_4_1, le_4_2, le_4_3, le_4_4, le_4_5, le_4_6, le_5_0, le_5_1, le_5_2, le_5_3, le_5_4, le_5_5, le_5_6, le_6_0, le_6_1, le_6_2, le_6_3, le_6_4, le_6_5, le_6_6, gf38_1, gf38_2, cg, n_lt (i := v) (j := 6) (by omega) (by decide), hv, is39 (i := gu) (by omega), is40 (i := gu) (by omega), e40]
      exact rest
    · rw [if_neg (by decide)] at hv
      have e39 : q_up m 39 gu (nI (s.2.1 0 gu)) = m := upid _ _ _ (l.mo.k gu hg)
      rw [u181_50]
      simp only [u181_52, u181_53, u181_56, u181_58, u181_61, u181_63, u181_66, u181_67, u181_70, u181_71, u181_72, u181_75, u181_77, u181_80, u181_82, u181_83, u181_84, u181_87, u181_88, u181_89, u181_90, u181_93, u181_95, u181_98, u181_100, q_push_s, q_push_n, q_sm_0, q_sm_i, q_sm_r, q_sm_n, q_sm_l, q_c1_0, q_c1_i, q_c1_r, q_c1_n, Nat.zero_add, Nat.reduceAdd, Nat.reduceMul, Nat.reduceSub, Nat.reduceLeDiff, Nat.reduceLT, Nat.reduceEqDiff, true_and, and_true, not_false_eq_true, if_true, if_false, ite_true, ite_false, or_true, true_or, or_false, false_or, not_true_eq_false, eq_self, lq_0_1, lq_0_2, lq_0_3, lq_0_4, lq_0_5, lq_0_6, lq_1_0, lq_1_2, lq_1_3, lq_1_4, lq_1_5, lq_1_6, lq_2_0, lq_2_1, lq_2_3, lq_2_4, lq_2_5, lq_2_6, lq_3_0, lq_3_1, lq_3_2, lq_3_4, lq_3_5, lq_3_6, lq_4_0, lq_4_1, lq_4_2, lq_4_3, lq_4_5, lq_4_6, lq_5_0, lq_5_1, lq_5_2, lq_5_3, lq_5_4, lq_5_6, lq_6_0, lq_6_1, lq_6_2, lq_6_3, lq_6_4, lq_6_5, ll_0_0, ll_0_1, ll_0_2, ll_0_3, ll_0_4, ll_0_5, ll_0_6, ll_1_0, ll_1_1, ll_1_2, ll_1_3, ll_1_4, ll_1_5, ll_1_6, ll_2_0, ll_2_1, ll_2_2, ll_2_3, ll_2_4, ll_2_5, ll_2_6, ll_3_0, ll_3_1, ll_3_2, ll_3_3, ll_3_4, ll_3_5, ll_3_6, ll_4_0, ll_4_1, ll_4_2, ll_4_3, ll_4_4, ll_4_5, ll_4_6, ll_5_0, ll_5_1, ll_5_2, ll_5_3, ll_5_4, ll_5_5, ll_5_6, ll_6_0, ll_6_1, ll_6_2, ll_6_3, ll_6_4, ll_6_5, ll_6_6, le_0_0, le_0_1, le_0_2, le_0_3, le_0_4, le_0_5, le_0_6, le_1_0, le_1_1, le_1_2, le_1_3, le_1_4, le_1_5, le_1_6, le_2_0, le_2_1, le_2_2, le_2_3, le_2_4, le_2_5, le_2_6, le_3_0, le_3_1, le_3_2, le_3_3, le_3_4, le_3_5, le_3_6, le_4_0, le_4_1, le_4_2, le_4_3, le_4_4, le_4_5, le_4_6, le_5_0, le_5_1, le_5_2, le_5_3, le_5_4, le_5_5, le_5_6, le_6_0, le_6_1, le_6_2, le_6_3, le_6_4, le_6_5, le_6_6, gf38_1, gf38_2, cg, n_lt (i := v) (j := 10) (by omega) (by decide), hv, is39 (i := gu) (by omega), is40 (i := gu) (by omega), e39]
      exact rest
end
section
variable {T : List Nat} {L d : Nat} {xs : Nat → Int32} {s : ZS} {tx : Nat → Nat → List Nat} {n : Nat} {tp : Nat → Nat} {z : Nat} {h : ZH} {wd : Nat → Int32} {m m1 m2 : q_M} {K : Option Value → Option Value → q_G → q_M → Prop}
/-- the class tried numbers at a place and put the first one back -/
theorem LJ.bc (l : LJ T L xs s tx n tp z h wd m) {p : Nat} (hp : 3 ≤ p ∧ p < 10) (f : FCp p m m1) (lc : CJ T L s tx n h m1) : LJ T L xs s tx n tp z h wd m1 :=
  l.st (FS.of (fun k h1 h2 h3 => f k (fun q => h1 (Or.inl ⟨q.1, by omega⟩)) (by omega))) l.bz l.iw.2.2.1 lc.cl (l.mo.fr (by rw [f 38 (by decide) (by omega)]) (by rw [f 38 (by decide) (by omega)]) (by rw [f 38 (by decide) (by omega)]) (fun k h1 h2 => f k (by omega) (by omega))) (Nat.le_refl _) (fun g _ => ⟨rfl, rfl⟩)
theorem LJ.bm (l : LJ T L xs s tx n tp z h wd m) {p : Nat} (hp : 39 ≤ p ∧ p < 43) (f : FMp p m m1) (lr : RJ s tx n h m1) : LJ T L xs s tx n tp z h wd m1 :=
  l.st ⟨fun k h1 h2 h3 h4 h5 => f.1 k h5 (fun q => h1 (Or.inr (Or.inr ⟨by omega, by omega⟩))) (by omega), by rw [f.1 26 (by decide) (by decide) (by omega)], fun f' hf _ _ _ => f.2 f' hf⟩ l.bz l.iw.2.2.1 (l.cl.fr (fun k h1 h2 => f.1 k (by omega) (by omega) (by omega))) lr.mo (Nat.le_refl _) (fun g _ => ⟨rfl, rfl⟩)
theorem p_kinds (l : LJ T L xs s tx n tp z h wd m) (a b c : Int32) (hK : ∀ r m', LJ T L xs s tx n tp z h wd m' → K (some (.int r)) (some (.int r)) (GG T L) m') :
    q_C 84 (d + 6) [.ref 0, .int a, .int b, .int c] (GG T L) m (fun v g m => q_C 181 (d + 6) [.ref 38, .int a, .int b, .int c] g m (fun v' g m => K v v' g m)) := by
  have lc := l.cj
  have lr := l.rj
  have h6 := l.bz.1
  by_cases hr : z_rfv s h a = nI 0
  · by_cases hb : z_is b (s.1 0)
    · by_cases hc : z_is c 2
      · obtain ⟨k, hk, rfl, hgd⟩ := z_rfv_0 hr
        obtain ⟨gu, hg, rfl⟩ := z_is_n hb
        obtain ⟨so, hso, rfl⟩ := z_is_n hc
        have g6 : gu < 6 := by omega
        have hso' : so = 0 ∨ so = 1 := by omega
        have l0 : CJ T L (z_sr s so gu (s.2.1 so gu)) tx n h m := by rw [z_sr_id]; exact lc
        have q0 := n_lt0 (j := so) (by omega)
        have q1 := n_le (i := so) (j := 1) (by omega) (by decide)
        have q2 : so ≤ 1 := by omega
        have hput : ∀ m1 x', CJ T L (z_sr s so gu x') tx n h m1 → CJ T L s tx n h (q_up m1 (4 + so) gu (nI (s.2.1 so gu))) := by
          intro m1 x' l1
          have := l1.put (v := s.2.1 so gu) (by omega) (by rw [z_sr_id]; exact l.bz)
          rw [z_sr_id] at this
          exact this
        have hput8 : ∀ m1 x', RJ (z_sr s so gu x') tx n h m1 → RJ s tx n h (q_up m1 (39 + so) gu (nI (s.2.1 so gu))) := by
          intro m1 x' l1
          have := l1.put0 (v := s.2.1 so gu) hso (by rw [z_sr_id]; exact l.bz)
          rw [z_sr_id] at this
          exact this
        have ref : ∀ m2 B, LJ T L xs s tx n tp z h wd m2 → B = z_bt (z_ulk tx s h k so gu) (if so = 0 then 6 else 10) 0 (nI 0) → q_C 181 (d + 6) [.ref 38, .int (nI k), .int (nI gu), .int (nI so)] (GG T L) m2 (fun v' g m => K (some (.int B)) v' g m) := by
          intro m2 B l2 hB
          have lr2 := l2.rj
          have cg : (nI gu).toNatClampNeg = gu := n_cl (by omega)
          simp only [u181_0, u181_1, u181_2, u181_3, u181_6, u181_8, u181_10, u181_13, u181_15, u181_16, u181_17, u181_18, u181_19, u181_22, u181_25, u181_27, u181_28, u181_29, u181_32, u181_33, u181_34, u181_36, u181_37, u181_40, u181_41, u181_42, u181_44, u181_45, u181_47, u181_48, e181, q_push_s, q_push_n, q_sm_0, q_sm_i, q_sm_r, q_sm_n, q_sm_l, q_c1_0, q_c1_i, q_c1_r, q_c1_n, Nat.zero_add, Nat.reduceAdd, Nat.reduceMul, Nat.reduceSub, Nat.reduceLeDiff, Nat.reduceLT, Nat.reduceEqDiff, true_and, and_true, not_false_eq_true, if_true, if_false, ite_true, ite_false, or_true, true_or, or_false, false_or, not_true_eq_false, io38, lr2.toldWrong, hr, hb, z_pick_t, c_in, and_self, q0, q1, q2, z_b_z, gf38_1, gf38_2, ia39 g6, ia40 g6, l2.mo.k gu hg, l2.mo.mo gu hg, Nat.zero_le, Nat.reduceLeDiff]
          have l02 : RJ (z_sr s so gu (s.2.1 so gu)) tx n h m2 := by rw [z_sr_id]; exact lr2
          refine l_kinds8 hk hgd hg h6 l.bz hso _ d (if so = 0 then 6 else 10) 0 m2 _ _ (by omega) l02 (fun m3 x' f3 l3 => ?_)
          have l4 := hput8 m3 x' l3
          have ft : FMp (39 + so) m2 (q_up m3 (39 + so) gu (nI (s.2.1 so gu))) := f3.trans (FMp.up (by omega) gu _ m3)
          have upid : ∀ (m0 : q_M) (p : Nat) (w : Int32), m0 p gu = w → q_up m0 p gu w = m0 := by
            intro m0 p w e
            funext k' i'
            by_cases q : k' = p ∧ i' = gu
            · rw [q.1, q.2, q_up_eq, e]
            · unfold q_up; rw [if_neg q]
          rcases hso' with rfl | rfl
          · have e40 : q_up (q_up m3 39 gu (nI (s.2.1 0 gu))) 40 gu (nI (s.2.1 1 gu)) = q_up m3 39 gu (nI (s.2.1 0 gu)) := upid _ _ _ (l4.mo.mo gu hg)
            simp only [u181_130, u181_131, u181_134, u181_135, u181_137, u181_138, u181_139, u181_142, u181_143, u181_145, u181_146, u181_148, q_push_s, q_push_n, q_sm_0, q_sm_i, q_sm_r, q_sm_n, q_sm_l, q_c1_0, q_c1_i, q_c1_r, q_c1_n, Nat.zero_add, Nat.reduceAdd, Nat.reduceMul, Nat.reduceSub, Nat.reduceLeDiff, Nat.reduceLT, Nat.reduceEqDiff, true_and, and_true, not_false_eq_true, if_true, if_false, ite_true, ite_false, or_true, true_or, or_false, false_or, not_true_eq_false, gf38_1, gf38_2, cg, is39 g6, is40 g6, e40]
            rw [if_pos rfl] at hB
            rw [← hB]
            exact hK _ _ (l2.bm (by decide) ft l4)
          · have e39 : q_up m3 39 gu (nI (s.2.1 0 gu)) = m3 := upid _ _ _ (by rw [l3.mo.k gu hg, z_sr_o s gu gu x' (by decide)])
            simp only [u181_130, u181_131, u181_134, u181_135, u181_137, u181_138, u181_139, u181_142, u181_143, u181_145, u181_146, u181_148, q_push_s, q_push_n, q_sm_0, q_sm_i, q_sm_r, q_sm_n, q_sm_l, q_c1_0, q_c1_i, q_c1_r, q_c1_n, Nat.zero_add, Nat.reduceAdd, Nat.reduceMul, Nat.reduceSub, Nat.reduceLeDiff, Nat.reduceLT, Nat.reduceEqDiff, true_and, and_true, not_false_eq_true, if_true, if_false, ite_true, ite_false, or_true, true_or, or_false, false_or, not_true_eq_false, gf38_1, gf38_2, cg, is39 g6, is40 g6, e39]
            rw [if_neg (by decide)] at hB
            rw [← hB]
            exact hK _ _ (l2.bm (by decide) ft l4)
        have tail : ∀ m1 x' B, FCp (4 + so) m m1 → CJ T L (z_sr s so gu x') tx n h m1 → B = z_bt (z_ulk tx s h k so gu) (if so = 0 then 6 else 10) 0 (nI 0) → q_C 181 (d + 6) [.ref 38, .int (nI k), .int (nI gu), .int (nI so)] (GG T L) (q_up m1 (4 + so) gu (nI (s.2.1 so gu))) (fun v' g m => K (some (.int B)) v' g m) := by
          intro m1 x' B f1 l1 hB
          exact ref _ B (l.bc (p := 4 + so) (by omega) (f1.trans (FCp.up _ _ _ _)) (hput m1 x' l1)) hB
        rcases hso' with rfl | rfl
        · simp only [u84_0, u84_1, u84_2, u84_5, u84_7, u84_9, u84_12, u84_14, u84_15, u84_16, u84_19, u84_20, u84_23, u84_26, u84_28, u84_29, u84_30, u84_33, u84_34, u84_35, u84_38, u84_40, u84_41, u84_42, u84_45, u84_46, u84_49, u84_52, u84_55, u84_56, u84_59, u84_62, u84_62n, u84_64, u84_64n, u84_66, u84_67, u84_70, u84_72, u84_73, u84_75, u84_76, e84, q_push_s, q_push_n, q_sm_0, q_sm_i, q_sm_r, q_sm_n, q_sm_l, q_c1_0, q_c1_i, q_c1_r, q_c1_n, Nat.zero_add, Nat.reduceAdd, Nat.reduceMul, Nat.reduceSub, Nat.reduceLeDiff, Nat.reduceLT, Nat.reduceEqDiff, true_and, and_true, not_false_eq_true, if_true, if_false, ite_true, ite_false, or_true, true_or, or_false, false_or, not_true_eq_false, eq_self, lq_0_1, lq_0_2, lq_0_3, lq_0_4, lq_0_5, lq_0_6, lq_1_0, lq_1_2, lq_1_3, lq_1_4, lq_1_5, lq_1_6, lq_2_0, lq_2_1, lq_2_3, lq_2_4, lq_2_5, lq_2_6, lq_3_0, lq_3_1, lq_3_2, lq_3_4, lq_3_5, lq_3_6, lq_4_0, lq_4_1, lq_4_2, lq_4_3, lq_4_5, lq_4_6, lq_5_0, lq_5_1, lq_5_2, lq_5_3, lq_5_4, lq_5_6, lq_6_0, lq_6_1, lq_6_2, lq_6_3, lq_6_4, lq_6_5, ll_0_0, ll_0_1, ll_0_2, ll_0_3, ll_0_4, ll_0_5, ll_0_6, ll_1_0, ll_1_1, ll_1_2, ll_1_3, ll_1_4, ll_1_5, ll_1_6, ll_2_0, ll_2_1, ll_2_2, ll_2_3, ll_2_4, ll_2_5, ll_2_6, ll_3_0, ll_3_1, ll_3_2, ll_3_3, ll_3_4, ll_3_5, ll_3_6, ll_4_0, ll_4_1, ll_4_2, ll_4_3, ll_4_4, ll_4_5, ll_4_6, ll_5_0, ll_5_1, ll_5_2, ll_5_3, ll_5_4, ll_5_5, ll_5_6, ll_6_0, ll_6_1, ll_6_2, ll_6_3, ll_6_4, ll_6_5, ll_6_6, le_0_0, le_0_1, le_0_2, le_0_3, le_0_4, le_0_5, le_0_6, le_1_0, le_1_1, le_1_2, le_1_3, le_1_4, le_1_5, le_1_6, le_2_0, le_2_1, le_2_2, le_2_3, le_2_4, le_2_5, le_2_6, le_3_0, le_3_1, le_3_2, le_3_3, le_3_4, le_3_5, le_3_6, le_4_0, le_4_1, le_4_2, le_4_3, le_4_4, le_4_5, le_4_6, le_5_0, le_5_1, le_5_2, le_5_3, le_5_4, le_5_5, le_5_6, le_6_0, le_6_1, le_6_2, le_6_3, le_6_4, le_6_5, le_6_6, gf0_2, gf3_3, io0, io3, lc.refusal, hr, lc.has, hb, z_b_z, c_at (j := gu) sh4 (by decide) (by decide) g6, l.cl.k gu hg, Nat.zero_le, Nat.reduceLeDiff]
          refine l_kinds hk hgd hg h6 l.bz hso _ _ d 6 0 m _ _ (by rw [if_pos rfl]) l0 (fun m1 x' f1 l1 => ?_)
          simp only [u84_127, u84_127n, u84_129, u84_130, u84_132, u84_135, u84_137, q_push_s, q_push_n, q_sm_0, q_sm_i, q_sm_r, q_sm_n, q_sm_l, q_c1_0, q_c1_i, q_c1_r, q_c1_n, Nat.zero_add, Nat.reduceAdd, Nat.reduceMul, Nat.reduceSub, Nat.reduceLeDiff, Nat.reduceLT, Nat.reduceEqDiff, true_and, and_true, not_false_eq_true, if_true, if_false, ite_true, ite_false, or_true, true_or, or_false, false_or, not_true_eq_false, c_put (j := gu) sh4 (by decide) (by decide) g6, Nat.zero_le, Nat.reduceLeDiff]
          exact tail m1 x' _ f1 l1 rfl
        · simp only [u84_0, u84_1, u84_2, u84_5, u84_7, u84_9, u84_12, u84_14, u84_15, u84_16, u84_19, u84_20, u84_23, u84_26, u84_28, u84_29, u84_30, u84_33, u84_34, u84_35, u84_38, u84_40, u84_41, u84_42, u84_45, u84_46, u84_49, u84_52, u84_55, u84_56, u84_59, u84_62, u84_62n, u84_64, u84_64n, u84_66, u84_67, u84_70, u84_72, u84_73, u84_75, u84_76, e84, q_push_s, q_push_n, q_sm_0, q_sm_i, q_sm_r, q_sm_n, q_sm_l, q_c1_0, q_c1_i, q_c1_r, q_c1_n, Nat.zero_add, Nat.reduceAdd, Nat.reduceMul, Nat.reduceSub, Nat.reduceLeDiff, Nat.reduceLT, Nat.reduceEqDiff, true_and, and_true, not_false_eq_true, if_true, if_false, ite_true, ite_false, or_true, true_or, or_false, false_or, not_true_eq_false, eq_self, lq_0_1, lq_0_2, lq_0_3, lq_0_4, lq_0_5, lq_0_6, lq_1_0, lq_1_2, lq_1_3, lq_1_4, lq_1_5, lq_1_6, lq_2_0, lq_2_1, lq_2_3, lq_2_4, lq_2_5, lq_2_6, lq_3_0, lq_3_1, lq_3_2, lq_3_4, lq_3_5, lq_3_6, lq_4_0, lq_4_1, lq_4_2, lq_4_3, lq_4_5, lq_4_6, lq_5_0, lq_5_1, lq_5_2, lq_5_3, lq_5_4, lq_5_6, lq_6_0, lq_6_1, lq_6_2, lq_6_3, lq_6_4, lq_6_5, ll_0_0, ll_0_1, ll_0_2, ll_0_3, ll_0_4, ll_0_5, ll_0_6, ll_1_0, ll_1_1, ll_1_2, ll_1_3, ll_1_4, ll_1_5, ll_1_6, ll_2_0, ll_2_1, ll_2_2, ll_2_3, ll_2_4, ll_2_5, ll_2_6, ll_3_0, ll_3_1, ll_3_2, ll_3_3, ll_3_4, ll_3_5, ll_3_6, ll_4_0, ll_4_1, ll_4_2, ll_4_3, ll_4_4, ll_4_5, ll_4_6, ll_5_0, ll_5_1, ll_5_2, ll_5_3, ll_5_4, ll_5_5, ll_5_6, ll_6_0, ll_6_1, ll_6_2, ll_6_3, ll_6_4, ll_6_5, ll_6_6, le_0_0, le_0_1, le_0_2, le_0_3, le_0_4, le_0_5, le_0_6, le_1_0, le_1_1, le_1_2, le_1_3, le_1_4, le_1_5, le_1_6, le_2_0, le_2_1, le_2_2, le_2_3, le_2_4, le_2_5, le_2_6, le_3_0, le_3_1, le_3_2, le_3_3, le_3_4, le_3_5, le_3_6, le_4_0, le_4_1, le_4_2, le_4_3, le_4_4, le_4_5, le_4_6, le_5_0, le_5_1, le_5_2, le_5_3, le_5_4, le_5_5, le_5_6, le_6_0, le_6_1, le_6_2, le_6_3, le_6_4, le_6_5, le_6_6, gf0_2, gf3_4, io0, io3, lc.refusal, hr, lc.has, hb, z_b_z, c_at (j := gu) sh5 (by decide) (by decide) g6, l.cl.mo gu hg, Nat.zero_le, Nat.reduceLeDiff]
          refine l_kinds hk hgd hg h6 l.bz hso _ _ d 10 0 m _ _ (by rw [if_neg (by decide)]) l0 (fun m1 x' f1 l1 => ?_)
          simp only [u84_127, u84_127n, u84_129, u84_130, u84_132, u84_135, u84_137, q_push_s, q_push_n, q_sm_0, q_sm_i, q_sm_r, q_sm_n, q_sm_l, q_c1_0, q_c1_i, q_c1_r, q_c1_n, Nat.zero_add, Nat.reduceAdd, Nat.reduceMul, Nat.reduceSub, Nat.reduceLeDiff, Nat.reduceLT, Nat.reduceEqDiff, true_and, and_true, not_false_eq_true, if_true, if_false, ite_true, ite_false, or_true, true_or, or_false, false_or, not_true_eq_false, c_put (j := gu) sh5 (by decide) (by decide) g6, Nat.zero_le, Nat.reduceLeDiff]
          exact tail m1 x' _ f1 l1 rfl
      · rcases z_is_f (n := 1) (by decide) hc with q | ⟨q1, q2⟩
        · simp only [u84_0, u84_1, u84_2, u84_5, u84_7, u84_9, u84_12, u84_14, u84_15, u84_16, u84_19, u84_20, u84_23, u84_26, u84_28, u84_29, u84_30, u84_33, u84_34, u84_35, u84_38, u84_40, e84, u181_0, u181_1, u181_2, u181_3, u181_6, u181_8, u181_10, u181_13, u181_15, u181_16, u181_17, u181_18, u181_19, u181_22, u181_25, u181_27, e181, q_push_s, q_push_n, q_sm_0, q_sm_i, q_sm_r, q_sm_n, q_sm_l, q_c1_0, q_c1_i, q_c1_r, q_c1_n, Nat.zero_add, Nat.reduceAdd, Nat.reduceMul, Nat.reduceSub, Nat.reduceLeDiff, Nat.reduceLT, Nat.reduceEqDiff, true_and, and_true, not_false_eq_true, if_true, if_false, ite_true, ite_false, or_true, true_or, or_false, false_or, not_true_eq_false, gf0_2, io0, io3, io38, lc.refusal, lr.toldWrong, hr, lc.has, hb, z_pick_t, z_b_z, q, c_in, false_and, Nat.zero_le, Nat.reduceLeDiff]
          exact hK _ _ l
        · simp only [u84_0, u84_1, u84_2, u84_5, u84_7, u84_9, u84_12, u84_14, u84_15, u84_16, u84_19, u84_20, u84_23, u84_26, u84_28, u84_29, u84_30, u84_33, u84_34, u84_35, u84_38, u84_40, e84, u181_0, u181_1, u181_2, u181_3, u181_6, u181_8, u181_10, u181_13, u181_15, u181_16, u181_17, u181_18, u181_19, u181_22, u181_25, u181_27, e181, q_push_s, q_push_n, q_sm_0, q_sm_i, q_sm_r, q_sm_n, q_sm_l, q_c1_0, q_c1_i, q_c1_r, q_c1_n, Nat.zero_add, Nat.reduceAdd, Nat.reduceMul, Nat.reduceSub, Nat.reduceLeDiff, Nat.reduceLT, Nat.reduceEqDiff, true_and, and_true, not_false_eq_true, if_true, if_false, ite_true, ite_false, or_true, true_or, or_false, false_or, not_true_eq_false, gf0_2, io0, io3, io38, lc.refusal, lr.toldWrong, hr, lc.has, hb, z_pick_t, z_b_z, q1, q2, c_in, and_false, Nat.zero_le, Nat.reduceLeDiff]
          exact hK _ _ l
    · have e5 : ((-5 : Int32) = nI 0) = False := eq_false (by decide)
      simp only [u84_0, u84_1, u84_2, u84_5, u84_7, u84_9, u84_12, u84_14, u84_15, u84_16, u84_19, u84_20, u84_23, u84_26, u84_28, e84, u181_0, u181_1, u181_2, u181_3, u181_6, u181_8, u181_10, u181_13, u181_15, e181, q_push_s, q_push_n, q_sm_0, q_sm_i, q_sm_r, q_sm_n, q_sm_l, q_c1_0, q_c1_i, q_c1_r, q_c1_n, Nat.zero_add, Nat.reduceAdd, Nat.reduceMul, Nat.reduceSub, Nat.reduceLeDiff, Nat.reduceLT, Nat.reduceEqDiff, true_and, and_true, not_false_eq_true, if_true, if_false, ite_true, ite_false, or_true, true_or, or_false, false_or, not_true_eq_false, gf0_2, io0, io3, io38, lc.refusal, lr.toldWrong, hr, z_pick_f, e5, lc.has, hb, z_b_z, Nat.zero_le, Nat.reduceLeDiff]
      exact hK _ _ l
  · simp only [u84_0, u84_1, u84_2, u84_5, u84_7, u84_9, u84_12, u84_14, e84, u181_0, u181_1, u181_2, u181_3, u181_6, u181_8, u181_10, u181_13, u181_15, e181, q_push_s, q_push_n, q_sm_0, q_sm_i, q_sm_r, q_sm_n, q_sm_l, q_c1_0, q_c1_i, q_c1_r, q_c1_n, Nat.zero_add, Nat.reduceAdd, Nat.reduceMul, Nat.reduceSub, Nat.reduceLeDiff, Nat.reduceLT, Nat.reduceEqDiff, true_and, and_true, not_false_eq_true, if_true, if_false, ite_true, ite_false, or_true, true_or, or_false, false_or, not_true_eq_false, io0, io38, lc.refusal, lr.toldWrong, hr, Nat.zero_le, Nat.reduceLeDiff]
    exact hK _ _ l
end
