/-! ===== ring ===== -/
section
variable {T : List Nat} {L : Nat} {xs : Nat → Int32} {s : ZS} {tx : Nat → Nat → List Nat} {n : Nat} {tp : Nat → Nat} {z : Nat} {h : ZH} {wd : Nat → Int32} {m : q_M}
def z_rg (s : ZS) (g : Nat) (k : Nat) : Bool := decide (z_ch s k g = g)
theorem l_ring7 {K : Option Value → q_G → q_M → Prop} (l : LJ T L xs s tx n tp z h wd m) {gu : Nat} (hg : gu < s.1 0) (d : Nat) : ∀ k i, k + i = 7 →
    (q_R 80 16 (d + 2) [some (.ref 0), some (.int (nI gu)), some (.int (nI i))] [] (GG T L) m K ↔ K (some (.int (z_first (z_rg s gu) k i))) (GG T L) m)
  | 0, i, hi => by
    simp only [u80_16, u80_17, u80_19, u80_43, u80_44, q_push_s, q_push_n, q_sm_0, q_sm_i, q_sm_r, q_sm_n, q_sm_l, q_c1_0, q_c1_i, q_c1_r, q_c1_n, Nat.zero_add, Nat.reduceAdd, Nat.reduceMul, Nat.reduceSub, Nat.reduceLeDiff, Nat.reduceLT, Nat.reduceEqDiff, true_and, and_true, not_false_eq_true, if_true, if_false, ite_true, ite_false, or_true, true_or, or_false, false_or, not_true_eq_false, n_le (i := i) (j := 6) (by omega) (by decide), (show ¬ i ≤ 6 by omega), z_first]
  | k + 1, i, hi => by
    have h6 := l.bz.1
    have hc := z_ch_lt l.bz i gu hg
    rw [u80_16]
    simp only [u80_17, u80_19, u80_22, u80_23, u80_26, u80_27, u80_28, u80_31, u80_32, u80_35, u80_36, u80_37, u80_40, q_push_s, q_push_n, q_sm_0, q_sm_i, q_sm_r, q_sm_n, q_sm_l, q_c1_0, q_c1_i, q_c1_r, q_c1_n, Nat.zero_add, Nat.reduceAdd, Nat.reduceMul, Nat.reduceSub, Nat.reduceLeDiff, Nat.reduceLT, Nat.reduceEqDiff, true_and, and_true, not_false_eq_true, if_true, if_false, ite_true, ite_false, or_true, true_or, or_false, false_or, not_true_eq_false, n_le (i := i) (j := 6) (by omega) (by decide), (show i ≤ 6 by omega), gf0_2, io3, l.chained (dep := i) (by omega) hg, Nat.zero_le, Nat.reduceLeDiff, n_eq (i := z_ch s i gu) (j := gu) (by omega) (by omega), n_add]
    unfold z_first
    by_cases hq : z_ch s i gu = gu
    · rw [if_pos hq, if_pos (by unfold z_rg; simp [hq])]
    · rw [if_neg hq, if_neg (by unfold z_rg; simp [hq])]
      exact l_ring7 l hg d k (i + 1) (by omega)
theorem l_ring8 {K : Option Value → q_G → q_M → Prop} (l : LJ T L xs s tx n tp z h wd m) {gu : Nat} (hg : gu < s.1 0) (d : Nat) : ∀ k i, k + i = 7 →
    (q_R 173 13 (d + 2) [some (.ref 38), some (.int (nI gu)), some (.int (nI i))] [] (GG T L) m K ↔ K (some (.int (z_first (z_rg s gu) k i))) (GG T L) m)
  | 0, i, hi => by
    simp only [u173_13, u173_14, u173_16, u173_37, u173_38, q_push_s, q_push_n, q_sm_0, q_sm_i, q_sm_r, q_sm_n, q_sm_l, q_c1_0, q_c1_i, q_c1_r, q_c1_n, Nat.zero_add, Nat.reduceAdd, Nat.reduceMul, Nat.reduceSub, Nat.reduceLeDiff, Nat.reduceLT, Nat.reduceEqDiff, true_and, and_true, not_false_eq_true, if_true, if_false, ite_true, ite_false, or_true, true_or, or_false, false_or, not_true_eq_false, n_le (i := i) (j := 6) (by omega) (by decide), (show ¬ i ≤ 6 by omega), z_first]
  | k + 1, i, hi => by
    have h6 := l.bz.1
    have hc := z_ch_lt l.bz i gu hg
    rw [u173_13]
    simp only [u173_14, u173_16, u173_19, u173_20, u173_21, u173_22, u173_25, u173_26, u173_29, u173_30, u173_31, u173_34, q_push_s, q_push_n, q_sm_0, q_sm_i, q_sm_r, q_sm_n, q_sm_l, q_c1_0, q_c1_i, q_c1_r, q_c1_n, Nat.zero_add, Nat.reduceAdd, Nat.reduceMul, Nat.reduceSub, Nat.reduceLeDiff, Nat.reduceLT, Nat.reduceEqDiff, true_and, and_true, not_false_eq_true, if_true, if_false, ite_true, ite_false, or_true, true_or, or_false, false_or, not_true_eq_false, n_le (i := i) (j := 6) (by omega) (by decide), (show i ≤ 6 by omega), io38, l.chainOf (dep := i) (by omega) hg, Nat.zero_le, Nat.reduceLeDiff, n_eq (i := z_ch s i gu) (j := gu) (by omega) (by omega), n_add]
    unfold z_first
    by_cases hq : z_ch s i gu = gu
    · rw [if_pos hq, if_pos (by unfold z_rg; simp [hq])]
    · rw [if_neg hq, if_neg (by unfold z_rg; simp [hq])]
      exact l_ring8 l hg d k (i + 1) (by omega)
theorem p_ring {d : Nat} {K : Option Value → Option Value → q_G → q_M → Prop} (l : LJ T L xs s tx n tp z h wd m) (a : Int32) (hK : ∀ r m', LJ T L xs s tx n tp z h wd m' → K (some (.int r)) (some (.int r)) (GG T L) m') :
    q_C 80 (d + 2) [.ref 0, .int a] (GG T L) m (fun v g m => q_C 173 (d + 2) [.ref 38, .int a] g m (fun v' g m => K v v' g m)) := by
  have h6 := l.bz.1
  by_cases ha : z_is a (s.1 0)
  · obtain ⟨gu, hg, rfl⟩ := z_is_n ha
    simp only [u80_0, u80_1, u80_4, u80_5, u80_8, u80_11, u80_13, u80_14, u80_15, e80, u173_0, u173_1, u173_2, u173_5, u173_8, u173_10, u173_11, u173_12, e173, q_push_s, q_push_n, q_sm_0, q_sm_i, q_sm_r, q_sm_n, q_sm_l, q_c1_0, q_c1_i, q_c1_r, q_c1_n, Nat.zero_add, Nat.reduceAdd, Nat.reduceMul, Nat.reduceSub, Nat.reduceLeDiff, Nat.reduceLT, Nat.reduceEqDiff, true_and, and_true, not_false_eq_true, if_true, if_false, ite_true, ite_false, or_true, true_or, or_false, false_or, not_true_eq_false, gf0_2, io3, io38, l.has, l.isg, ha, z_b_z, Nat.zero_le, l_ring7 l hg d 6 1 rfl, l_ring8 l hg d 6 1 rfl]
    exact hK _ _ l
  · simp only [u80_0, u80_1, u80_4, u80_5, u80_8, u80_11, u80_13, u80_14, u80_15, e80, u173_0, u173_1, u173_2, u173_5, u173_8, u173_10, u173_11, u173_12, e173, q_push_s, q_push_n, q_sm_0, q_sm_i, q_sm_r, q_sm_n, q_sm_l, q_c1_0, q_c1_i, q_c1_r, q_c1_n, Nat.zero_add, Nat.reduceAdd, Nat.reduceMul, Nat.reduceSub, Nat.reduceLeDiff, Nat.reduceLT, Nat.reduceEqDiff, true_and, and_true, not_false_eq_true, if_true, if_false, ite_true, ite_false, or_true, true_or, or_false, false_or, not_true_eq_false, gf0_2, io3, io38, l.has, l.isg, ha, z_b_z, Nat.zero_le]
    exact hK _ _ l
end
