/-! ===== guest ===== -/
def z_add (s : ZS) (k mo ma : Nat) : ZS := (fun f => if f = 0 then s.1 0 + 1 else s.1 f, fun r g => if g = s.1 0 then (if r = 0 then k else if r = 1 then mo else if r = 2 then ma else if r = 3 then s.1 0 else 100) else s.2.1 r g, fun i => if i / 6 = s.1 0 ∨ i % 6 = s.1 0 then nI 0 else s.2.2 i)
def z_gs (s : ZS) (a b : Int32) : ZS := if 0 ≤ a.toInt ∧ a.toInt < 60 ∧ 0 ≤ b.toInt ∧ b.toInt < 256 ∧ s.1 0 < 6 then z_add s (a.toInt.toNat / 10) (a.toInt.toNat % 10) b.toInt.toNat else s
def z_gr (s : ZS) (a b : Int32) : Int32 := if 0 ≤ a.toInt ∧ a.toInt < 60 ∧ 0 ≤ b.toInt ∧ b.toInt < 256 then (if s.1 0 < 6 then nI (s.1 0) else (-4 : Int32)) else (-2 : Int32)
theorem BZ.add {s : ZS} (hB : BZ s) {k mo ma : Nat} (hn : s.1 0 < 6) (hk : k < 6) (hmo : mo < 10) (hma : ma < 256) : BZ (z_add s k mo ma) := by
  have e0 : (z_add s k mo ma).1 0 = s.1 0 + 1 := rfl
  have hbo : BO (z_add s k mo ma) := by
    intro i hi hb
    rw [e0] at hb
    show (if i / 6 = s.1 0 ∨ i % 6 = s.1 0 then nI 0 else s.2.2 i) = nI 0
    split
    · rfl
    · exact hB.bo i hi (by omega)
  refine ⟨by rw [e0]; omega, ⟨hB.2.1.1, hbo⟩, hB.2.2.1, fun g hg => ?_⟩
  rw [e0] at hg ⊢
  by_cases q : g = s.1 0
  · have e : ∀ r, (z_add s k mo ma).2.1 r g = if r = 0 then k else if r = 1 then mo else if r = 2 then ma else if r = 3 then s.1 0 else 100 := fun r => if_pos q
    simp only [e, if_true, Nat.reduceEqDiff, if_false]
    omega
  · have e : ∀ r, (z_add s k mo ma).2.1 r g = s.2.1 r g := fun r => if_neg q
    have hb := hB.2.2.2 g (by omega)
    rw [e, e, e, e, e]
    omega
theorem BZ.gs {s : ZS} (hB : BZ s) (a b : Int32) : BZ (z_gs s a b) := by
  unfold z_gs
  split
  · next q => exact hB.add q.2.2.2.2 (by omega) (by omega) (by omega)
  · exact hB
theorem z_gs_le (s : ZS) (a b : Int32) : s.1 0 ≤ (z_gs s a b).1 0 ∧ (z_gs s a b).1 2 = s.1 2 ∧ ∀ g, g < s.1 0 → (z_gs s a b).2.1 0 g = s.2.1 0 g ∧ (z_gs s a b).2.1 1 g = s.2.1 1 g := by
  unfold z_gs
  split
  · refine ⟨Nat.le_succ _, rfl, fun g hg => ?_⟩
    have e : ∀ k mo ma r, (z_add s k mo ma).2.1 r g = s.2.1 r g := fun k mo ma r => if_neg (by omega)
    exact ⟨e _ _ _ 0, e _ _ _ 1⟩
  · exact ⟨Nat.le_refl _, rfl, fun g hg => ⟨rfl, rfl⟩⟩
section
variable {T : List Nat} {L : Nat} {s : ZS} {m : q_M} {K : Option Value → q_G → q_M → Prop}
/-- what the class's guest may change -/
def FG (m m' : q_M) : Prop := ∀ k, ¬ (3 ≤ k ∧ k < 10) → m' k = m k
theorem c_guest {d : Nat} (hC : ICl 3 s m) (hB : BZ s) (a b : Int32) (hK : ∀ m', FG m m' → ICl 3 (z_gs s a b) m' → K (some (.int (z_gr s a b))) (GG T L) m') : q_C 65 (d + 3) [.ref 0, .int a, .int b] (GG T L) m K := by
  have h6 := hB.1
  by_cases ha : z_is a 60
  · have ha' := ha
    obtain ⟨k, hk, rfl⟩ := z_is_n ha
    have a0 := n_lt0 (j := k) (by omega)
    have a1 : (nI k < nI 60) = True := eq_true (nI_lt hk (by decide))
    by_cases hb : z_is b 256
    · have hb' := hb
      obtain ⟨v, hv, rfl⟩ := z_is_n hb
      have b0 := n_lt0 (j := v) (by omega)
      have b1 : (nI v < nI 256) = True := eq_true (nI_lt hv (by decide))
      have ek : (nI k).toInt = (k : Int) := nI_toInt (by omega)
      have ev : (nI v).toInt = (v : Int) := nI_toInt (by omega)
      have n0 := hC.n
      have e6 := n_lt (i := s.1 0) (j := 6) (by omega) (by decide)
      have hdv := n_div (a := k) (d := 10) (by omega) (by decide) (by decide)
      have hrm := n_rem (a := k) (d := 10) (by omega) (by decide) (by decide)
      unfold z_gs z_gr at hK
      rw [ek, ev] at hK
      by_cases hn : s.1 0 < 6
      · rw [if_pos (by omega), if_pos (by omega), if_pos hn] at hK
        simp only [u65_0, u65_1, u65_4, u65_5, u65_7, u65_10, u65_11, u65_14, u65_15, u65_18, u65_21, u65_23, u65_24, u65_25, u65_28, u65_31, u65_33, u65_36, u65_38, u65_39, u65_40, u65_43, u65_44, u65_46, u65_47, u65_48, u65_50, u65_51, u65_52, e65, e4, e4, u4_0, u4_1, u4_4, u4_6, u4_7, u4_10, u4_12, u4_13, u4_16, u4_17, u4_20, u4_22, u4_23, u4_26, u4_27, u4_30, u4_32, u4_33, u4_36, u4_37, u4_40, u4_42, u4_44, u4_47, u4_48, u4_51, u4_53, u4_55, u4_58, u4_59, u4_59r, u4_60, u4_63, u4_64, u4_65, u4_68, u4_70, q_push_s, q_push_n, q_sm_0, q_sm_i, q_sm_r, q_sm_n, q_sm_l, q_c1_0, q_c1_i, q_c1_r, q_c1_n, Nat.zero_add, Nat.reduceAdd, Nat.reduceMul, Nat.reduceSub, Nat.reduceLeDiff, Nat.reduceLT, Nat.reduceEqDiff, true_and, and_true, not_false_eq_true, if_true, if_false, ite_true, ite_false, or_true, true_or, or_false, false_or, not_true_eq_false, gf0_2, gf3_0, gf3_3, gf3_4, gf3_5, gf3_6, gf3_7, pf3_0, io3, a0, a1, b0, b1, n0, e6, hn, z10, hdv, hrm, Nat.zero_le, Nat.reduceLeDiff, q_up_f, ne_eq, Nat.reduceEqDiff, n_add, c_put (j := s.1 0) sh4 (by decide) (by decide) hn, c_put (j := s.1 0) sh5 (by decide) (by decide) hn, c_put (j := s.1 0) sh6 (by decide) (by decide) hn, c_put (j := s.1 0) sh7 (by decide) (by decide) hn, c_put (j := s.1 0) sh8 (by decide) (by decide) hn]
        simp only [u65_55, q_push_s, q_push_n, q_sm_0, q_sm_i, q_sm_r, q_sm_n, q_sm_l, q_c1_0, q_c1_i, q_c1_r, q_c1_n, Nat.zero_add, Nat.reduceAdd, Nat.reduceMul, Nat.reduceSub, Nat.reduceLeDiff, Nat.reduceLT, Nat.reduceEqDiff, true_and, and_true, not_false_eq_true, if_true, if_false, ite_true, ite_false, or_true, true_or, or_false, false_or, not_true_eq_false]
        refine hK _ (fun p hp => ?_) ⟨fun f hf => ?_, fun r hr g hg => ?_, fun i hi => ?_⟩
        · rw [q_up_f _ _ _ (by omega), q_up_f _ _ _ (by omega), q_up_f _ _ _ (by omega), q_up_f _ _ _ (by omega), q_up_f _ _ _ (by omega), q_up_f _ _ _ (by omega)]
        · show _ = nI (if f = 0 then s.1 0 + 1 else s.1 f)
          by_cases q : f = 0
          · rw [if_pos q, q, q_up_eq]
          · rw [if_neg q, q_up_i _ _ q, q_up_f _ _ _ (by decide), q_up_f _ _ _ (by decide), q_up_f _ _ _ (by decide), q_up_f _ _ _ (by decide), q_up_f _ _ _ (by decide)]
            exact hC.1 f hf
        · have hg' : g < s.1 0 + 1 := hg
          show _ = nI (if g = s.1 0 then (if r = 0 then k / 10 else if r = 1 then k % 10 else if r = 2 then v else if r = 3 then s.1 0 else 100) else s.2.1 r g)
          rw [q_up_f _ _ _ (by omega)]
          have hr' : r = 0 ∨ r = 1 ∨ r = 2 ∨ r = 3 ∨ r = 4 := by omega
          by_cases q : g = s.1 0
          · rw [if_pos q, q]
            rcases hr' with rfl | rfl | rfl | rfl | rfl <;> simp [q_up]
          · rw [if_neg q, ← hC.2.1 r hr g (by omega)]
            rcases hr' with rfl | rfl | rfl | rfl | rfl <;> simp [q_up, q]
        · show _ = (if i / 6 = s.1 0 ∨ i % 6 = s.1 0 then nI 0 else s.2.2 i)
          rw [q_up_f _ _ _ (by decide), q_up_f _ _ _ (by decide), q_up_f _ _ _ (by decide), q_up_f _ _ _ (by decide), q_up_f _ _ _ (by decide), q_up_f _ _ _ (by decide)]
          by_cases q : i / 6 = s.1 0 ∨ i % 6 = s.1 0
          · rw [if_pos q, hC.2.2 i hi]
            exact hB.bo i hi (by omega)
          · rw [if_neg q]
            exact hC.2.2 i hi
      · rw [if_neg (by omega), if_pos (by omega), if_neg hn] at hK
        simp only [e65, u65_0, u65_1, u65_4, u65_5, u65_7, u65_10, u65_11, u65_14, u65_15, u65_18, u65_21, u65_23, u65_24, u65_25, u65_28, u65_31, u65_33, u65_36, u65_38, u65_39, u65_40, u65_43, u65_44, u65_46, u65_47, u65_48, u65_50, u65_51, u65_52, u65_55, q_push_s, q_push_n, q_sm_0, q_sm_i, q_sm_r, q_sm_n, q_sm_l, q_c1_0, q_c1_i, q_c1_r, q_c1_n, Nat.zero_add, Nat.reduceAdd, Nat.reduceMul, Nat.reduceSub, Nat.reduceLeDiff, Nat.reduceLT, Nat.reduceEqDiff, true_and, and_true, not_false_eq_true, if_true, if_false, ite_true, ite_false, or_true, true_or, or_false, false_or, not_true_eq_false, gf0_2, gf3_0, a0, a1, b0, b1, n0, e6, hn]
        exact hK m (fun _ _ => rfl) hC
    · unfold z_gs z_gr at hK
      rw [if_neg (fun q => hb ⟨q.2.2.1, q.2.2.2.1⟩), if_neg (fun q => hb ⟨q.2.2.1, q.2.2.2⟩)] at hK
      rcases z_nin (n := 256) (by decide) hb with q | ⟨q1, q2⟩
      · simp only [e65, u65_0, u65_1, u65_4, u65_5, u65_7, u65_10, u65_11, u65_14, u65_15, u65_18, u65_21, u65_23, u65_24, u65_25, u65_28, u65_31, u65_33, u65_36, u65_38, u65_39, u65_40, u65_43, u65_44, u65_46, u65_47, u65_48, u65_50, u65_51, u65_52, u65_55, q_push_s, q_push_n, q_sm_0, q_sm_i, q_sm_r, q_sm_n, q_sm_l, q_c1_0, q_c1_i, q_c1_r, q_c1_n, Nat.zero_add, Nat.reduceAdd, Nat.reduceMul, Nat.reduceSub, Nat.reduceLeDiff, Nat.reduceLT, Nat.reduceEqDiff, true_and, and_true, not_false_eq_true, if_true, if_false, ite_true, ite_false, or_true, true_or, or_false, false_or, not_true_eq_false, a0, a1, q]; exact hK m (fun _ _ => rfl) hC
      · simp only [e65, u65_0, u65_1, u65_4, u65_5, u65_7, u65_10, u65_11, u65_14, u65_15, u65_18, u65_21, u65_23, u65_24, u65_25, u65_28, u65_31, u65_33, u65_36, u65_38, u65_39, u65_40, u65_43, u65_44, u65_46, u65_47, u65_48, u65_50, u65_51, u65_52, u65_55, q_push_s, q_push_n, q_sm_0, q_sm_i, q_sm_r, q_sm_n, q_sm_l, q_c1_0, q_c1_i, q_c1_r, q_c1_n, Nat.zero_add, Nat.reduceAdd, Nat.reduceMul, Nat.reduceSub, Nat.reduceLeDiff, Nat.reduceLT, Nat.reduceEqDiff, true_and, and_true, not_false_eq_true, if_true, if_false, ite_true, ite_false, or_true, true_or, or_false, false_or, not_true_eq_false, a0, a1, q1, q2]; exact hK m (fun _ _ => rfl) hC
  · unfold z_gs z_gr at hK
    rw [if_neg (fun q => ha ⟨q.1, q.2.1⟩), if_neg (fun q => ha ⟨q.1, q.2.1⟩)] at hK
    rcases z_nin (n := 60) (by decide) ha with q | ⟨q1, q2⟩
    · simp only [e65, u65_0, u65_1, u65_4, u65_5, u65_7, u65_10, u65_11, u65_14, u65_15, u65_18, u65_21, u65_23, u65_24, u65_25, u65_28, u65_31, u65_33, u65_36, u65_38, u65_39, u65_40, u65_43, u65_44, u65_46, u65_47, u65_48, u65_50, u65_51, u65_52, u65_55, q_push_s, q_push_n, q_sm_0, q_sm_i, q_sm_r, q_sm_n, q_sm_l, q_c1_0, q_c1_i, q_c1_r, q_c1_n, Nat.zero_add, Nat.reduceAdd, Nat.reduceMul, Nat.reduceSub, Nat.reduceLeDiff, Nat.reduceLT, Nat.reduceEqDiff, true_and, and_true, not_false_eq_true, if_true, if_false, ite_true, ite_false, or_true, true_or, or_false, false_or, not_true_eq_false, q]; exact hK m (fun _ _ => rfl) hC
    · simp only [e65, u65_0, u65_1, u65_4, u65_5, u65_7, u65_10, u65_11, u65_14, u65_15, u65_18, u65_21, u65_23, u65_24, u65_25, u65_28, u65_31, u65_33, u65_36, u65_38, u65_39, u65_40, u65_43, u65_44, u65_46, u65_47, u65_48, u65_50, u65_51, u65_52, u65_55, q_push_s, q_push_n, q_sm_0, q_sm_i, q_sm_r, q_sm_n, q_sm_l, q_c1_0, q_c1_i, q_c1_r, q_c1_n, Nat.zero_add, Nat.reduceAdd, Nat.reduceMul, Nat.reduceSub, Nat.reduceLeDiff, Nat.reduceLT, Nat.reduceEqDiff, true_and, and_true, not_false_eq_true, if_true, if_false, ite_true, ite_false, or_true, true_or, or_false, false_or, not_true_eq_false, q1, q2]; exact hK m (fun _ _ => rfl) hC
theorem l_guest8 {gu : Nat} (hg : gu < 6) (x1 : Option Value) (x2 : Int32) (d : Nat) : ∀ k i m, i + k = 6 → m 38 0 = nI gu → (∀ m', (∀ p, p ≠ 42 → m' p = m p) → (∀ x, x < 36 → m' 42 x = if (x / 6 = gu ∧ i ≤ x % 6) ∨ (x % 6 = gu ∧ i ≤ x / 6) then nI 0 else m 42 x) → q_R 143 150 (d + 1) [some (.ref 38), x1, some (.int x2), some (.int (nI 6))] [] (GG T L) m' K) →
    q_R 143 108 (d + 1) [some (.ref 38), x1, some (.int x2), some (.int (nI i))] [] (GG T L) m K
  | 0, i, m, hi, h0, hK => by
    have h6 : i = 6 := by omega
    subst h6
    simp only [u143_108, u143_109, u143_111, q_push_s, q_push_n, q_sm_0, q_sm_i, q_sm_r, q_sm_n, q_sm_l, q_c1_0, q_c1_i, q_c1_r, q_c1_n, Nat.zero_add, Nat.reduceAdd, Nat.reduceMul, Nat.reduceSub, Nat.reduceLeDiff, Nat.reduceLT, Nat.reduceEqDiff, true_and, and_true, not_false_eq_true, if_true, if_false, ite_true, ite_false, or_true, true_or, or_false, false_or, not_true_eq_false, eq_self, lq_0_1, lq_0_2, lq_0_3, lq_0_4, lq_0_5, lq_0_6, lq_1_0, lq_1_2, lq_1_3, lq_1_4, lq_1_5, lq_1_6, lq_2_0, lq_2_1, lq_2_3, lq_2_4, lq_2_5, lq_2_6, lq_3_0, lq_3_1, lq_3_2, lq_3_4, lq_3_5, lq_3_6, lq_4_0, lq_4_1, lq_4_2, lq_4_3, lq_4_5, lq_4_6, lq_5_0, lq_5_1, lq_5_2, lq_5_3, lq_5_4, lq_5_6, lq_6_0, lq_6_1, lq_6_2, lq_6_3, lq_6_4, lq_6_5, ll_0_0, ll_0_1, ll_0_2, ll_0_3, ll_0_4, ll_0_5, ll_0_6, ll_1_0, ll_1_1, ll_1_2, ll_1_3, ll_1_4, ll_1_5, ll_1_6, ll_2_0, ll_2_1, ll_2_2, ll_2_3, ll_2_4, ll_2_5, ll_2_6, ll_3_0, ll_3_1, ll_3_2, ll_3_3, ll_3_4, ll_3_5, ll_3_6, ll_4_0, ll_4_1, ll_4_2, ll_4_3, ll_4_4, ll_4_5, ll_4_6, ll_5_0, ll_5_1, ll_5_2, ll_5_3, ll_5_4, ll_5_5, ll_5_6, ll_6_0, ll_6_1, ll_6_2, ll_6_3, ll_6_4, ll_6_5, ll_6_6, le_0_0, le_0_1, le_0_2, le_0_3, le_0_4, le_0_5, le_0_6, le_1_0, le_1_1, le_1_2, le_1_3, le_1_4, le_1_5, le_1_6, le_2_0, le_2_1, le_2_2, le_2_3, le_2_4, le_2_5, le_2_6, le_3_0, le_3_1, le_3_2, le_3_3, le_3_4, le_3_5, le_3_6, le_4_0, le_4_1, le_4_2, le_4_3, le_4_4, le_4_5, le_4_6, le_5_0, le_5_1, le_5_2, le_5_3, le_5_4, le_5_5, le_5_6, le_6_0, le_6_1, le_6_2, le_6_3, le_6_4, le_6_5, le_6_6]
    refine hK m (fun _ _ => rfl) (fun x hx => ?_)
    rw [if_neg (by omega)]
  | k + 1, i, m, hi, h0, hK => by
    have h6 : i < 6 := by omega
    have c1 : (nI (6 * gu + i)).toNatClampNeg = 6 * gu + i := n_cl (by omega)
    have c2 : (nI (6 * i + gu)).toNatClampNeg = 6 * i + gu := n_cl (by omega)
    rw [u143_108]
    simp only [u143_109, u143_111, u143_114, u143_115, u143_118, u143_120, u143_121, u143_124, u143_125, u143_126, u143_127, u143_128, u143_129, u143_130, u143_133, u143_135, u143_136, u143_137, u143_138, u143_141, u143_142, u143_143, u143_144, u143_147, q_push_s, q_push_n, q_sm_0, q_sm_i, q_sm_r, q_sm_n, q_sm_l, q_c1_0, q_c1_i, q_c1_r, q_c1_n, Nat.zero_add, Nat.reduceAdd, Nat.reduceMul, Nat.reduceSub, Nat.reduceLeDiff, Nat.reduceLT, Nat.reduceEqDiff, true_and, and_true, not_false_eq_true, if_true, if_false, ite_true, ite_false, or_true, true_or, or_false, false_or, not_true_eq_false, n_lt (i := i) (j := 6) (by omega) (by decide), h6, gf38_4, gf38_0, h0, q_up_f, ne_eq, Nat.reduceEqDiff, n_mul, n_add, is42 (i := 6 * gu + i) (by omega), is42 (i := 6 * i + gu) (by omega), c1, c2]
    refine l_guest8 hg x1 x2 d k (i + 1) _ (by omega) ?_ (fun m' h1 h2 => hK m' (fun p hp => ?_) (fun x hx => ?_))
    · rw [q_up_f _ _ _ (by decide), q_up_f _ _ _ (by decide)]; exact h0
    · rw [h1 p hp, q_up_f _ _ _ hp, q_up_f _ _ _ hp]
    rw [h2 x hx]
    by_cases q : (x / 6 = gu ∧ i ≤ x % 6) ∨ (x % 6 = gu ∧ i ≤ x / 6)
    · rw [if_pos q]
      by_cases q2 : (x / 6 = gu ∧ i + 1 ≤ x % 6) ∨ (x % 6 = gu ∧ i + 1 ≤ x / 6)
      · rw [if_pos q2]
      · rw [if_neg q2]
        by_cases q3 : x = 6 * i + gu
        · rw [q3, q_up_eq]
        · rw [q_up_i _ _ q3]
          have q4 : x = 6 * gu + i := by omega
          rw [q4, q_up_eq]
    · rw [if_neg q, if_neg (by omega), q_up_i _ _ (by omega), q_up_i _ _ (by omega)]
def FG8 (m m' : q_M) : Prop := (∀ k, k ≠ 38 → ¬ (39 ≤ k ∧ k < 43) → m' k = m k) ∧ ∀ f, f ≠ 0 → m' 38 f = m 38 f
theorem c_guest8 {d : Nat} (hM : IMo s m) (hB : BZ s) (a b : Int32) (hK : ∀ m', FG8 m m' → IMo (z_gs s a b) m' → K (some (.int (z_gr s a b))) (GG T L) m') : q_C 143 (d + 3) [.ref 38, .int a, .int b] (GG T L) m K := by
  have h6 := hB.1
  by_cases ha : z_is a 60
  · have ha' := ha
    obtain ⟨k, hk, rfl⟩ := z_is_n ha
    have a0 := n_lt0 (j := k) (by omega)
    have a1 : (nI k ≤ nI 59) = True := eq_true (nI_le (by omega) (by decide))
    by_cases hb : z_is b 256
    · have hb' := hb
      obtain ⟨v, hv, rfl⟩ := z_is_n hb
      have b0 := n_lt0 (j := v) (by omega)
      have b1 : (nI v ≤ nI 255) = True := eq_true (nI_le (by omega) (by decide))
      have ek : (nI k).toInt = (k : Int) := nI_toInt (by omega)
      have ev : (nI v).toInt = (v : Int) := nI_toInt (by omega)
      have n0 := hM.n
      have e6 := n_eq (i := s.1 0) (j := 6) (by omega) (by decide)
      have hdv := n_div (a := k) (d := 10) (by omega) (by decide) (by decide)
      have hrm := n_rem (a := k) (d := 10) (by omega) (by decide) (by decide)
      have hrm2 : nI k - nI (k / 10 * 10) = nI (k % 10) := by rw [← n_mul, hrm]
      unfold z_gs z_gr at hK
      rw [ek, ev] at hK
      by_cases hn : s.1 0 < 6
      · rw [if_pos (by omega), if_pos (by omega), if_pos hn] at hK
        have hn' : ¬ s.1 0 = 6 := by omega
        have c0 : (nI (s.1 0)).toNatClampNeg = s.1 0 := n_cl (by omega)
        have c1 : (nI (3 * s.1 0)).toNatClampNeg = 3 * s.1 0 := n_cl (by omega)
        have c2 : (nI (3 * s.1 0 + 1)).toNatClampNeg = 3 * s.1 0 + 1 := n_cl (by omega)
        have c3 : (nI (3 * s.1 0 + 2)).toNatClampNeg = 3 * s.1 0 + 2 := n_cl (by omega)
        simp only [u143_0, u143_1, u143_2, u143_4, u143_7, u143_10, u143_11, u143_12, u143_15, u143_18, u143_21, u143_23, u143_24, u143_25, u143_28, u143_30, u143_33, u143_35, u143_36, u143_37, u143_40, u143_41, u143_44, u143_45, u143_47, u143_48, u143_49, u143_50, u143_53, u143_54, u143_57, u143_58, u143_60, u143_61, u143_62, u143_63, u143_66, u143_67, u143_68, u143_71, u143_72, u143_73, u143_74, u143_75, u143_78, u143_79, u143_80, u143_83, u143_84, u143_85, u143_86, u143_87, u143_90, u143_91, u143_92, u143_95, u143_96, u143_97, u143_100, u143_101, u143_102, u143_103, u143_105, u143_106, u143_107, e143, q_push_s, q_push_n, q_sm_0, q_sm_i, q_sm_r, q_sm_n, q_sm_l, q_c1_0, q_c1_i, q_c1_r, q_c1_n, Nat.zero_add, Nat.reduceAdd, Nat.reduceMul, Nat.reduceSub, Nat.reduceLeDiff, Nat.reduceLT, Nat.reduceEqDiff, true_and, and_true, not_false_eq_true, if_true, if_false, ite_true, ite_false, or_true, true_or, or_false, false_or, not_true_eq_false, gf38_0, gf38_1, gf38_2, gf38_3, c_in, and_self, a0, a1, b0, b1, z_b_z, n0, e6, hn', z10, hdv, hrm, hrm2, q_up_f, ne_eq, Nat.reduceEqDiff, n_mul, n_add, is39 (i := s.1 0) hn, is40 (i := s.1 0) hn, is41 (i := 3 * s.1 0) (by omega), is41 (i := 3 * s.1 0 + 1) (by omega), is41 (i := 3 * s.1 0 + 2) (by omega), c0, c1, c2, c3, Nat.zero_le, Nat.reduceLeDiff]
        refine l_guest8 hn _ _ _ 6 0 _ rfl (by simp only [q_up_f, ne_eq, Nat.reduceEqDiff, not_false_eq_true]; exact n0) (fun m' f1 f2 => ?_)
        have f3 : m' 38 = m 38 := by rw [f1 38 (by decide)]; simp only [q_up_f, ne_eq, Nat.reduceEqDiff, not_false_eq_true]
        simp only [u143_150, u143_151, u143_151r, u143_152, u143_155, u143_156, u143_157, u143_160, u143_161, u143_164, u143_165, u143_166, q_push_s, q_push_n, q_sm_0, q_sm_i, q_sm_r, q_sm_n, q_sm_l, q_c1_0, q_c1_i, q_c1_r, q_c1_n, Nat.zero_add, Nat.reduceAdd, Nat.reduceMul, Nat.reduceSub, Nat.reduceLeDiff, Nat.reduceLT, Nat.reduceEqDiff, true_and, and_true, not_false_eq_true, if_true, if_false, ite_true, ite_false, or_true, true_or, or_false, false_or, not_true_eq_false, gf38_0, pf38_0, f3, n0, n_add, q_up_eq, n_sub (a := s.1 0 + 1) (b := 1) (by omega), Nat.add_sub_cancel]
        refine hK _ ⟨fun p hp hp2 => ?_, fun f hf => ?_⟩ ⟨⟨?_, ?_, ?_⟩, fun g hg => ?_, fun g hg r hr => ?_, fun i hi => ?_⟩
        · rw [q_up_f _ _ _ hp, f1 p (by omega), q_up_f _ _ _ (by omega), q_up_f _ _ _ (by omega), q_up_f _ _ _ (by omega), q_up_f _ _ _ (by omega), q_up_f _ _ _ (by omega)]
        · rw [q_up_i _ _ hf, f3]
        · exact q_up_eq _ _ _ _
        · rw [q_up_i _ _ (by decide), f3]; exact hM.nt
        · rw [q_up_i _ _ (by decide), f3]; exact hM.lw
        · have hg' : g < s.1 0 + 1 := hg
          show _ = nI (if g = s.1 0 then (if 0 = 0 then k / 10 else _) else s.2.1 0 g) ∧ _ = nI (if g = s.1 0 then (if 1 = 0 then k / 10 else if 1 = 1 then k % 10 else _) else s.2.1 1 g)
          rw [q_up_f _ _ _ (by decide), q_up_f _ _ _ (by decide), f1 39 (by decide), f1 40 (by decide)]
          by_cases q : g = s.1 0
          · rw [if_pos q, if_pos q, q]
            simp [q_up]
          · rw [if_neg q, if_neg q, ← hM.k g (by omega), ← hM.mo g (by omega)]
            simp [q_up, q]
        · have hg' : g < s.1 0 + 1 := hg
          show _ = nI (if g = s.1 0 then (if 2 + r = 0 then k / 10 else if 2 + r = 1 then k % 10 else if 2 + r = 2 then v else if 2 + r = 3 then s.1 0 else 100) else s.2.1 (2 + r) g)
          rw [q_up_f _ _ _ (by decide), f1 41 (by decide)]
          have hr' : r = 0 ∨ r = 1 ∨ r = 2 := by omega
          by_cases q : g = s.1 0
          · rw [if_pos q, q]
            rcases hr' with rfl | rfl | rfl <;> simp [q_up]
          · rw [if_neg q, ← hM.2.2.1 g (by omega) r hr]
            rw [q_up_i _ _ (by omega), q_up_i _ _ (by omega), q_up_i _ _ (by omega), q_up_f _ _ _ (by decide), q_up_f _ _ _ (by decide)]
        · show _ = (if i / 6 = s.1 0 ∨ i % 6 = s.1 0 then nI 0 else s.2.2 i)
          rw [q_up_f _ _ _ (by decide)]
          have f9 := f2 i hi
          rw [f9]
          by_cases q : i / 6 = s.1 0 ∨ i % 6 = s.1 0
          · rw [if_pos q, if_pos (by omega)]
          · rw [if_neg q, if_neg (by omega)]
            simp only [q_up_f, ne_eq, Nat.reduceEqDiff, not_false_eq_true]
            exact hM.of i hi
      · rw [if_neg (by omega), if_pos (by omega), if_neg hn] at hK
        have hn' : s.1 0 = 6 := by omega
        simp only [u143_0, u143_1, u143_2, u143_4, u143_7, u143_10, u143_11, u143_12, u143_15, u143_18, u143_21, u143_23, u143_24, u143_25, u143_28, u143_30, u143_33, u143_35, e143, q_push_s, q_push_n, q_sm_0, q_sm_i, q_sm_r, q_sm_n, q_sm_l, q_c1_0, q_c1_i, q_c1_r, q_c1_n, Nat.zero_add, Nat.reduceAdd, Nat.reduceMul, Nat.reduceSub, Nat.reduceLeDiff, Nat.reduceLT, Nat.reduceEqDiff, true_and, and_true, not_false_eq_true, if_true, if_false, ite_true, ite_false, or_true, true_or, or_false, false_or, not_true_eq_false, gf38_0, c_in, and_self, a0, a1, b0, b1, z_b_z, n0, e6, hn', Nat.zero_le, Nat.reduceLeDiff]
        exact hK m ⟨fun _ _ _ => rfl, fun _ _ => rfl⟩ hM
    · unfold z_gs z_gr at hK
      rw [if_neg (fun q => hb ⟨q.2.2.1, q.2.2.2.1⟩), if_neg (fun q => hb ⟨q.2.2.1, q.2.2.2⟩)] at hK
      rcases z_is_f (n := 255) (by decide) hb with q | ⟨q1, q2⟩
      · simp only [u143_0, u143_1, u143_2, u143_4, u143_7, u143_10, u143_11, u143_12, u143_15, u143_18, u143_21, u143_23, u143_24, u143_25, u143_28, u143_30, u143_33, u143_35, e143, q_push_s, q_push_n, q_sm_0, q_sm_i, q_sm_r, q_sm_n, q_sm_l, q_c1_0, q_c1_i, q_c1_r, q_c1_n, Nat.zero_add, Nat.reduceAdd, Nat.reduceMul, Nat.reduceSub, Nat.reduceLeDiff, Nat.reduceLT, Nat.reduceEqDiff, true_and, and_true, not_false_eq_true, if_true, if_false, ite_true, ite_false, or_true, true_or, or_false, false_or, not_true_eq_false, c_in, and_self, a0, a1, q, z_b_z, false_and, Nat.zero_le, Nat.reduceLeDiff]; exact hK m ⟨fun _ _ _ => rfl, fun _ _ => rfl⟩ hM
      · simp only [u143_0, u143_1, u143_2, u143_4, u143_7, u143_10, u143_11, u143_12, u143_15, u143_18, u143_21, u143_23, u143_24, u143_25, u143_28, u143_30, u143_33, u143_35, e143, q_push_s, q_push_n, q_sm_0, q_sm_i, q_sm_r, q_sm_n, q_sm_l, q_c1_0, q_c1_i, q_c1_r, q_c1_n, Nat.zero_add, Nat.reduceAdd, Nat.reduceMul, Nat.reduceSub, Nat.reduceLeDiff, Nat.reduceLT, Nat.reduceEqDiff, true_and, and_true, not_false_eq_true, if_true, if_false, ite_true, ite_false, or_true, true_or, or_false, false_or, not_true_eq_false, c_in, and_self, a0, a1, q1, q2, z_b_z, and_false, Nat.zero_le, Nat.reduceLeDiff]; exact hK m ⟨fun _ _ _ => rfl, fun _ _ => rfl⟩ hM
  · unfold z_gs z_gr at hK
    rw [if_neg (fun q => ha ⟨q.1, q.2.1⟩), if_neg (fun q => ha ⟨q.1, q.2.1⟩)] at hK
    rcases z_is_f (n := 59) (by decide) ha with q | ⟨q1, q2⟩
    · simp only [u143_0, u143_1, u143_2, u143_4, u143_7, u143_10, u143_11, u143_12, u143_15, u143_18, u143_21, u143_23, u143_24, u143_25, u143_28, u143_30, u143_33, u143_35, e143, q_push_s, q_push_n, q_sm_0, q_sm_i, q_sm_r, q_sm_n, q_sm_l, q_c1_0, q_c1_i, q_c1_r, q_c1_n, Nat.zero_add, Nat.reduceAdd, Nat.reduceMul, Nat.reduceSub, Nat.reduceLeDiff, Nat.reduceLT, Nat.reduceEqDiff, true_and, and_true, not_false_eq_true, if_true, if_false, ite_true, ite_false, or_true, true_or, or_false, false_or, not_true_eq_false, c_in, q, z_b_z, false_and, Nat.zero_le, Nat.reduceLeDiff]; exact hK m ⟨fun _ _ _ => rfl, fun _ _ => rfl⟩ hM
    · simp only [u143_0, u143_1, u143_2, u143_4, u143_7, u143_10, u143_11, u143_12, u143_15, u143_18, u143_21, u143_23, u143_24, u143_25, u143_28, u143_30, u143_33, u143_35, e143, q_push_s, q_push_n, q_sm_0, q_sm_i, q_sm_r, q_sm_n, q_sm_l, q_c1_0, q_c1_i, q_c1_r, q_c1_n, Nat.zero_add, Nat.reduceAdd, Nat.reduceMul, Nat.reduceSub, Nat.reduceLeDiff, Nat.reduceLT, Nat.reduceEqDiff, true_and, and_true, not_false_eq_true, if_true, if_false, ite_true, ite_false, or_true, true_or, or_false, false_or, not_true_eq_false, c_in, q1, q2, z_b_z, and_false, Nat.zero_le, Nat.reduceLeDiff]; exact hK m ⟨fun _ _ _ => rfl, fun _ _ => rfl⟩ hM
end
section
variable {T : List Nat} {L d : Nat} {xs : Nat → Int32} {s s' : ZS} {tx : Nat → Nat → List Nat} {n : Nat} {tp : Nat → Nat} {z : Nat} {h : ZH} {wd : Nat → Int32} {m m1 m2 : q_M} {K : Option Value → Option Value → q_G → q_M → Prop}
/-- both guests' changes, one behind the other -/
theorem LJ.gg (l : LJ T L xs s tx n tp z h wd m) (f1 : FG m m1) (f2 : FG8 m1 m2) (hB : BZ s') (hl : s'.1 2 = s.1 2) (hs : s.1 0 ≤ s'.1 0) (hk : ∀ g, g < s.1 0 → s'.2.1 0 g = s.2.1 0 g ∧ s'.2.1 1 g = s.2.1 1 g) (hC : ICl 3 s' m1) (hM : IMo s' m2) : LJ T L xs s' tx n tp z h wd m2 := by
  have fk : ∀ k, k ≠ 38 → ¬ (39 ≤ k ∧ k < 43) → ¬ (3 ≤ k ∧ k < 10) → m2 k = m k := fun k h1 h2 h3 => (f2.1 k h1 h2).trans (f1 k h3)
  have f38 : ∀ f, f ≠ 0 → m2 38 f = m 38 f := fun f hf => (f2.2 f hf).trans (by rw [f1 38 (by decide)])
  refine l.gen (fun k q => fk k (by omega) (by omega) (by omega)) (by rw [fk 2 (by decide) (by decide) (by decide)]) (f38 10 (by decide)) hB (by rw [hl]; exact l.iw.2.2.1) (hC.fr (fun k h1 h2 => f2.1 k (by omega) (by omega))) hM ?_ ?_ ?_
  · exact l.tpe.fr (by rw [fk 26 (by decide) (by decide) (by decide)]) (f38 7 (by decide)) (fk 27 (by decide) (by decide) (by decide)) (fk 43 (by decide) (by decide) (by decide))
  · exact l.im.fr hs hk (by rw [fk 0 (by decide) (by decide) (by decide)]) (fun f h1 h2 => f38 f (by omega)) (fun k h1 h2 => fk k (by omega) (by omega) (by omega)) (fk 46 (by decide) (by decide) (by decide))
  · exact l.sh.fr (fun k h1 h2 => fk k (by omega) (by omega) (by omega)) (fk 47 (by decide) (by decide) (by decide)) (fk 48 (by decide) (by decide) (by decide)) (fk 49 (by decide) (by decide) (by decide))
theorem p_guest (l : LJ T L xs s tx n tp z h wd m) (a b : Int32) (hK : ∀ r s' m', LJ T L xs s' tx n tp z h wd m' → K (some (.int r)) (some (.int r)) (GG T L) m') :
    q_C 65 (d + 3) [.ref 0, .int a, .int b] (GG T L) m (fun v g m => q_C 143 (d + 3) [.ref 38, .int a, .int b] g m (fun v' g m => K v v' g m)) := by
  refine c_guest l.cl l.bz a b (fun m1 f1 hC => ?_)
  refine c_guest8 (s := s) (l.mo.fr (by rw [f1 38 (by decide)]) (by rw [f1 38 (by decide)]) (by rw [f1 38 (by decide)]) (fun k h1 h2 => f1 k (by omega))) l.bz a b (fun m2 f2 hM => ?_)
  obtain ⟨q1, q2, q3⟩ := z_gs_le s a b
  exact hK _ _ _ (l.gg f1 f2 (l.bz.gs a b) q2 q1 q3 hC hM)
end
