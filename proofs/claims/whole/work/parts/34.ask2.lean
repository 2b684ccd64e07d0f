/-! ===== would, known, count, force ===== -/
section
variable {T : List Nat} {L d : Nat} {xs : Nat → Int32} {s : ZS} {tx : Nat → Nat → List Nat} {n : Nat} {tp : Nat → Nat} {z : Nat} {h : ZH} {wd : Nat → Int32} {m : q_M} {K : Option Value → Option Value → q_G → q_M → Prop}
theorem z_is2_q {v : Int32} {n : Nat} (h : z_is2 v n) : ∃ q, q < 56 ∧ q / 10 < n ∧ q % 10 < n ∧ v = nI q := by
  obtain ⟨q, hq, rfl⟩ := z_is_n h.1
  have h2 := h.2
  rw [nI_toInt (by omega)] at h2
  exact ⟨q, hq, h2.1, h2.2, rfl⟩
theorem z10 : (nI 10 = 0) = False := by simp only [n_ne0 (i := 10) (by decide) (by decide)]
theorem p_would (l : LJ T L xs s tx n tp z h wd m) (a b : Int32) (hK : ∀ r m', LJ T L xs s tx n tp z h wd m' → K (some (.int r)) (some (.int r)) (GG T L) m') :
    q_C 70 (d + 5) [.ref 0, .int a, .int b] (GG T L) m (fun v g m => q_C 152 (d + 5) [.ref 38, .int a, .int b] g m (fun v' g m => K v v' g m)) := by
  have h6 := l.bz.1
  by_cases ha : z_is2 a (s.1 0)
  · obtain ⟨q, hq, hg, ho, rfl⟩ := z_is2_q ha
    have hdv := n_div (a := q) (d := 10) (by omega) (by decide) (by decide)
    have hrm := n_rem (a := q) (d := 10) (by omega) (by decide) (by decide)
    by_cases hb : z_is b 4
    · obtain ⟨j, hj, rfl⟩ := z_is_n hb
      simp only [e70, u70_0, u70_1, u70_2, u70_5, u70_8, u70_10, u70_11, u70_12, u70_15, u70_18, u70_20, u70_21, u70_22, u70_25, u70_26, u70_28, u70_29, u70_30, u70_32, u70_33, u70_34, u70_37, q_push_s, q_push_n, q_sm_0, q_sm_i, q_sm_r, q_sm_n, q_sm_l, q_c1_0, q_c1_i, q_c1_r, q_c1_n, Nat.zero_add, Nat.reduceAdd, Nat.reduceMul, Nat.reduceSub, Nat.reduceLeDiff, Nat.reduceLT, Nat.reduceEqDiff, true_and, and_true, not_false_eq_true, if_true, if_false, ite_true, ite_false, or_true, true_or, or_false, false_or, not_true_eq_false, gf0_1, io0, io2, l.pr, ha, hb, z_b_z, c_isMatter, z10, hdv, hrm, Nat.zero_le, Nat.reduceLeDiff]
      refine l.doing hg ho hj (fun m1 f1 l1 => ?_)
      simp only [e70, u70_0, u70_1, u70_2, u70_5, u70_8, u70_10, u70_11, u70_12, u70_15, u70_18, u70_20, u70_21, u70_22, u70_25, u70_26, u70_28, u70_29, u70_30, u70_32, u70_33, u70_34, u70_37, e152, u152_0, u152_1, u152_2, u152_5, u152_8, u152_10, u152_11, u152_12, u152_15, u152_18, u152_19, u152_20, u152_22, u152_23, u152_24, u152_26, u152_27, u152_28, u152_31, u152_34, u152_36, q_push_s, q_push_n, q_sm_0, q_sm_i, q_sm_r, q_sm_n, q_sm_l, q_c1_0, q_c1_i, q_c1_r, q_c1_n, Nat.zero_add, Nat.reduceAdd, Nat.reduceMul, Nat.reduceSub, Nat.reduceLeDiff, Nat.reduceLT, Nat.reduceEqDiff, true_and, and_true, not_false_eq_true, if_true, if_false, ite_true, ite_false, or_true, true_or, or_false, false_or, not_true_eq_false, io38, l1.pr8, ha, hb, z_b_z, c_isMatter8, z10, hdv, hrm, Nat.zero_le, Nat.reduceLeDiff]
      refine l1.doesAs hg ho hj (fun m2 f2 l2 => ?_)
      simp only [e152, u152_0, u152_1, u152_2, u152_5, u152_8, u152_10, u152_11, u152_12, u152_15, u152_18, u152_19, u152_20, u152_22, u152_23, u152_24, u152_26, u152_27, u152_28, u152_31, u152_34, u152_36, q_push_s, q_push_n, q_sm_0, q_sm_i, q_sm_r, q_sm_n, q_sm_l, q_c1_0, q_c1_i, q_c1_r, q_c1_n, Nat.zero_add, Nat.reduceAdd, Nat.reduceMul, Nat.reduceSub, Nat.reduceLeDiff, Nat.reduceLT, Nat.reduceEqDiff, true_and, and_true, not_false_eq_true, if_true, if_false, ite_true, ite_false, or_true, true_or, or_false, false_or, not_true_eq_false]
      exact hK _ _ l2
    · simp only [e70, u70_0, u70_1, u70_2, u70_5, u70_8, u70_10, u70_11, u70_12, u70_15, u70_18, u70_20, u70_21, u70_22, u70_25, u70_26, u70_28, u70_29, u70_30, u70_32, u70_33, u70_34, u70_37, e152, u152_0, u152_1, u152_2, u152_5, u152_8, u152_10, u152_11, u152_12, u152_15, u152_18, u152_19, u152_20, u152_22, u152_23, u152_24, u152_26, u152_27, u152_28, u152_31, u152_34, u152_36, q_push_s, q_push_n, q_sm_0, q_sm_i, q_sm_r, q_sm_n, q_sm_l, q_c1_0, q_c1_i, q_c1_r, q_c1_n, Nat.zero_add, Nat.reduceAdd, Nat.reduceMul, Nat.reduceSub, Nat.reduceLeDiff, Nat.reduceLT, Nat.reduceEqDiff, true_and, and_true, not_false_eq_true, if_true, if_false, ite_true, ite_false, or_true, true_or, or_false, false_or, not_true_eq_false, io0, io38, l.pr, l.pr8, ha, hb, z_b_z, c_isMatter, c_isMatter8, Nat.zero_le, Nat.reduceLeDiff]
      exact hK _ _ l
  · simp only [e70, u70_0, u70_1, u70_2, u70_5, u70_8, u70_10, u70_11, u70_12, u70_15, u70_18, u70_20, u70_21, u70_22, u70_25, u70_26, u70_28, u70_29, u70_30, u70_32, u70_33, u70_34, u70_37, e152, u152_0, u152_1, u152_2, u152_5, u152_8, u152_10, u152_11, u152_12, u152_15, u152_18, u152_19, u152_20, u152_22, u152_23, u152_24, u152_26, u152_27, u152_28, u152_31, u152_34, u152_36, q_push_s, q_push_n, q_sm_0, q_sm_i, q_sm_r, q_sm_n, q_sm_l, q_c1_0, q_c1_i, q_c1_r, q_c1_n, Nat.zero_add, Nat.reduceAdd, Nat.reduceMul, Nat.reduceSub, Nat.reduceLeDiff, Nat.reduceLT, Nat.reduceEqDiff, true_and, and_true, not_false_eq_true, if_true, if_false, ite_true, ite_false, or_true, true_or, or_false, false_or, not_true_eq_false, io0, io38, l.pr, l.pr8, ha, z_b_z, Nat.zero_le, Nat.reduceLeDiff]
    exact hK _ _ l
theorem p_known (l : LJ T L xs s tx n tp z h wd m) (a : Int32) (hK : ∀ r m', LJ T L xs s tx n tp z h wd m' → K (some (.int r)) (some (.int r)) (GG T L) m') :
    q_C 71 (d + 6) [.ref 0, .int a] (GG T L) m (fun v g m => q_C 154 (d + 6) [.ref 38, .int a] g m (fun v' g m => K v v' g m)) := by
  have h6 := l.bz.1
  by_cases ha : z_is a (s.1 0)
  · obtain ⟨gu, hg, rfl⟩ := z_is_n ha
    have hpl := (l.bz.2.2.2 gu hg).2.2.2.1
    simp only [e71, u71_0, u71_1, u71_4, u71_5, u71_8, u71_11, u71_13, u71_14, u71_15, u71_18, u71_19, u71_20, u71_23, u71_26, u71_27, u71_30, u71_33, q_push_s, q_push_n, q_sm_0, q_sm_i, q_sm_r, q_sm_n, q_sm_l, q_c1_0, q_c1_i, q_c1_r, q_c1_n, Nat.zero_add, Nat.reduceAdd, Nat.reduceMul, Nat.reduceSub, Nat.reduceLeDiff, Nat.reduceLT, Nat.reduceEqDiff, true_and, and_true, not_false_eq_true, if_true, if_false, ite_true, ite_false, or_true, true_or, or_false, false_or, not_true_eq_false, gf0_1, gf0_2, gf3_6, io3, io2, l.has, ha, z_b_z, c_at (j := gu) sh7 (by decide) (by decide) (show gu < 6 by omega), l.cl.pl gu hg, Nat.zero_le, Nat.reduceLeDiff]
    refine l.knownOn hg hpl (fun m1 f1 l1 => ?_)
    simp only [e71, u71_0, u71_1, u71_4, u71_5, u71_8, u71_11, u71_13, u71_14, u71_15, u71_18, u71_19, u71_20, u71_23, u71_26, u71_27, u71_30, u71_33, e154, u154_0, u154_1, u154_2, u154_5, u154_8, u154_9, u154_10, u154_13, u154_16, u154_18, q_push_s, q_push_n, q_sm_0, q_sm_i, q_sm_r, q_sm_n, q_sm_l, q_c1_0, q_c1_i, q_c1_r, q_c1_n, Nat.zero_add, Nat.reduceAdd, Nat.reduceMul, Nat.reduceSub, Nat.reduceLeDiff, Nat.reduceLT, Nat.reduceEqDiff, true_and, and_true, not_false_eq_true, if_true, if_false, ite_true, ite_false, or_true, true_or, or_false, false_or, not_true_eq_false, io38, l1.isg, ha, z_b_z, Nat.zero_le, Nat.reduceLeDiff]
    refine l1.knownOf hg (fun m2 f2 l2 => ?_)
    simp only [e154, u154_0, u154_1, u154_2, u154_5, u154_8, u154_9, u154_10, u154_13, u154_16, u154_18, q_push_s, q_push_n, q_sm_0, q_sm_i, q_sm_r, q_sm_n, q_sm_l, q_c1_0, q_c1_i, q_c1_r, q_c1_n, Nat.zero_add, Nat.reduceAdd, Nat.reduceMul, Nat.reduceSub, Nat.reduceLeDiff, Nat.reduceLT, Nat.reduceEqDiff, true_and, and_true, not_false_eq_true, if_true, if_false, ite_true, ite_false, or_true, true_or, or_false, false_or, not_true_eq_false]
    exact hK _ _ l2
  · simp only [e71, u71_0, u71_1, u71_4, u71_5, u71_8, u71_11, u71_13, u71_14, u71_15, u71_18, u71_19, u71_20, u71_23, u71_26, u71_27, u71_30, u71_33, e154, u154_0, u154_1, u154_2, u154_5, u154_8, u154_9, u154_10, u154_13, u154_16, u154_18, q_push_s, q_push_n, q_sm_0, q_sm_i, q_sm_r, q_sm_n, q_sm_l, q_c1_0, q_c1_i, q_c1_r, q_c1_n, Nat.zero_add, Nat.reduceAdd, Nat.reduceMul, Nat.reduceSub, Nat.reduceLeDiff, Nat.reduceLT, Nat.reduceEqDiff, true_and, and_true, not_false_eq_true, if_true, if_false, ite_true, ite_false, or_true, true_or, or_false, false_or, not_true_eq_false, gf0_1, gf0_2, io3, io38, l.has, l.isg, ha, z_b_z, Nat.zero_le, Nat.reduceLeDiff]
    exact hK _ _ l
theorem p_count (l : LJ T L xs s tx n tp z h wd m) (a : Int32) (hK : ∀ r m', LJ T L xs s tx n tp z h wd m' → K (some (.int r)) (some (.int r)) (GG T L) m') :
    q_C 60 d [.ref 0, .int a] (GG T L) m (fun v g m => q_C 123 d [.ref 38, .int a] g m (fun v' g m => K v v' g m)) := by
  simp only [e60, u60_0, u60_1, u60_36, u60_37, u60_40, u60_43, u60_44, u60_45, u60_48, u60_51, u60_52, u60_53, u60_56, u60_59, u60_60, u60_61, u60_64, u60_67, u60_68, u60_69, u60_72, u60_75, u60_76, u60_78, e123, u123_0, u123_1, u123_36, u123_37, u123_40, u123_41, u123_42, u123_45, u123_46, u123_47, u123_50, u123_51, u123_52, u123_55, u123_56, u123_57, u123_60, u123_61, u123_63, q_push_s, q_push_n, q_sm_0, q_sm_i, q_sm_r, q_sm_n, q_sm_l, q_c1_0, q_c1_i, q_c1_r, q_c1_n, Nat.zero_add, Nat.reduceAdd, Nat.reduceMul, Nat.reduceSub, Nat.reduceLeDiff, Nat.reduceLT, Nat.reduceEqDiff, true_and, and_true, not_false_eq_true, if_true, if_false, ite_true, ite_false, or_true, true_or, or_false, false_or, not_true_eq_false, gf0_1, gf0_2, gf0_5, gf2_3, gf3_0, gf3_1, gf3_2, gf26_1, gf38_0, gf38_5, gf38_10, gf38_11, gf38_7]
  by_cases i0 : a.toInt = 0
  · simp only [i0, if_true, l.cl.n, l.mo.n]; exact hK _ _ l
  · by_cases i1 : a.toInt = 1
    · simp only [i1, if_true, Int.reduceEq, if_false, l.cl.nt, l.mo.nt]; exact hK _ _ l
    · by_cases i2 : a.toInt = 2
      · simp only [i2, if_true, Int.reduceEq, if_false, l.nn.1, l.nn.2]; exact hK _ _ l
      · by_cases i3 : a.toInt = 3
        · simp only [i3, if_true, Int.reduceEq, if_false, l.cl.lw, l.mo.lw]; exact hK _ _ l
        · by_cases i4 : a.toInt = 4
          · simp only [i4, if_true, Int.reduceEq, if_false, l.tpe.2.1, l.tpe.2.2.1]; exact hK _ _ l
          · simp only [i0, i1, i2, i3, i4, if_false]; exact hK _ _ l
end
