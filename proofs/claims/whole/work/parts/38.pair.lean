/-! ===== pair ===== -/
section
variable {T : List Nat} {L d : Nat} {xs : Nat → Int32} {s : ZS} {tx : Nat → Nat → List Nat} {n : Nat} {tp : Nat → Nat} {z : Nat} {h : ZH} {wd : Nat → Int32} {m : q_M}
theorem LJ.apart (l : LJ T L xs s tx n tp z h wd m) {a b : Nat} (ha : a < s.1 0) (hb : b < s.1 0) (d : Nat) (K : Option Value → q_G → q_M → Prop) : q_C 5 (d + 1) [.ref 3, .int (nI a), .int (nI b)] (GG T L) m K ↔ K (some (.int (nI (z_ap (s.2.1 2 a) (s.2.1 2 b))))) (GG T L) m := by
  have h6 := l.bz.1
  exact c_apart (by omega) (by omega) (l.cl.ma a ha) (l.cl.ma b hb) (l.bz.2.2.2 a ha).2.2.1 (l.bz.2.2.2 b hb).2.2.1
theorem LJ.apartOf (l : LJ T L xs s tx n tp z h wd m) {a b : Nat} (ha : a < s.1 0) (hb : b < s.1 0) (d : Nat) (K : Option Value → q_G → q_M → Prop) : q_C 140 (d + 1) [.ref 38, .int (nI a), .int (nI b)] (GG T L) m K ↔ K (some (.int (nI (z_ap (s.2.1 2 a) (s.2.1 2 b))))) (GG T L) m := by
  have h6 := l.bz.1
  exact c_apartOf (by omega) (by omega) (l.mo.ma a ha) (l.mo.ma b hb) (l.bz.2.2.2 a ha).2.2.1 (l.bz.2.2.2 b hb).2.2.1
theorem LJ.well (l : LJ T L xs s tx n tp z h wd m) {gu o j : Nat} (hg : gu < s.1 0) (ho : o < s.1 0) {K : Option Value → q_G → q_M → Prop} (hK : ∀ m', FR m m' → LJ T L xs s tx n tp z h wd m' → K (some (.int (nI (z_well tx s gu o j)))) (GG T L) m') : q_C 50 (d + 3) [.ref 2, .int (nI gu), .int (nI o), .int (nI j)] (GG T L) m K :=
  c_well l.cl l.tc l.iw l.t hg ho (fun m' e => hK m' (FR.of13 e) (l.fr (FR.of13 e)))
theorem LJ.wellOf (l : LJ T L xs s tx n tp z h wd m) {gu o j : Nat} (hg : gu < s.1 0) (ho : o < s.1 0) {K : Option Value → q_G → q_M → Prop} (hK : ∀ m', FR m m' → LJ T L xs s tx n tp z h wd m' → K (some (.int (nI (z_well tx s gu o j)))) (GG T L) m') : q_C 146 (d + 3) [.ref 38, .int (nI gu), .int (nI o), .int (nI j)] (GG T L) m K :=
  c_wellOf l.mo l.tm l.iw hg ho (fun m' e => hK m' (FR.of53 e) (l.fr (FR.of53 e)))
variable {K : Option Value → Option Value → q_G → q_M → Prop}
theorem p_pair (l : LJ T L xs s tx n tp z h wd m) (a b : Int32) (hK : ∀ r m', LJ T L xs s tx n tp z h wd m' → K (some (.int r)) (some (.int r)) (GG T L) m') :
    q_C 67 (d + 4) [.ref 0, .int a, .int b] (GG T L) m (fun v g m => q_C 147 (d + 4) [.ref 38, .int a, .int b] g m (fun v' g m => K v v' g m)) := by
  have h6 := l.bz.1
  by_cases ha : z_is2 a (s.1 0)
  · obtain ⟨q, hq, hg, ho, rfl⟩ := z_is2_q ha
    have hdv := n_div (a := q) (d := 10) (by omega) (by decide) (by decide)
    have hrm := n_rem (a := q) (d := 10) (by omega) (by decide) (by decide)
    have hrm2 : nI q - nI (q / 10 * 10) = nI (q % 10) := by rw [← n_mul, hrm]
    have ei0 : (nI 0).toInt = 0 := by decide +kernel
    have ei1 : (nI 1).toInt = 1 := by decide +kernel
    by_cases hb : z_is b 6
    · obtain ⟨j, hj, rfl⟩ := z_is_n hb
      by_cases j0 : j = 0
      · subst j0
        simp only [e67, u67_0, u67_1, u67_2, u67_5, u67_8, u67_10, u67_11, u67_12, u67_14, u67_15, u67_16, u67_17, u67_19, u67_20, u67_22, u67_23, u67_60, u67_61, u67_64, u67_65, u67_67, u67_70, u67_71, u67_72, u67_75, u67_78, u67_79, u67_81, u67_84, u67_87, u67_88, u67_89, u67_92, u67_93, u67_95, u67_96, u67_97, u67_98, u67_101, u67_102, u67_104, e147, u147_0, u147_1, u147_2, u147_5, u147_8, u147_10, u147_11, u147_12, u147_14, u147_15, u147_16, u147_17, u147_19, u147_20, u147_22, u147_23, u147_26, u147_27, u147_28, u147_30, u147_33, u147_36, u147_37, u147_38, u147_41, u147_42, u147_45, u147_47, u147_48, u147_49, u147_51, u147_52, u147_53, u147_56, u147_57, u147_58, u147_59, u147_62, u147_65, u147_66, u147_67, u147_69, u147_70, u147_71, u147_72, u147_75, u147_78, u147_80, q_push_s, q_push_n, q_sm_0, q_sm_i, q_sm_r, q_sm_n, q_sm_l, q_c1_0, q_c1_i, q_c1_r, q_c1_n, Nat.zero_add, Nat.reduceAdd, Nat.reduceMul, Nat.reduceSub, Nat.reduceLeDiff, Nat.reduceLT, Nat.reduceEqDiff, true_and, and_true, not_false_eq_true, if_true, if_false, ite_true, ite_false, or_true, true_or, or_false, false_or, not_true_eq_false, gf0_2, io0, io3, io38, l.pr, l.pr8, ha, z_b_z, z10, hdv, hrm, ei0, l.apart hg ho, l.apartOf hg ho, Nat.zero_le, Nat.reduceLeDiff]
        exact hK _ _ l
      · by_cases j1 : j = 1
        · subst j1
          have n10 : (nI 1 = nI 0) = False := eq_false (by decide)
          have hp : q / 10 * 6 + q % 10 = 6 * (q / 10) + q % 10 := by omega
          simp only [e67, u67_0, u67_1, u67_2, u67_5, u67_8, u67_10, u67_11, u67_12, u67_14, u67_15, u67_16, u67_17, u67_19, u67_20, u67_22, u67_23, u67_60, u67_61, u67_64, u67_65, u67_67, u67_70, u67_71, u67_72, u67_75, u67_78, u67_79, u67_81, u67_84, u67_87, u67_88, u67_89, u67_92, u67_93, u67_95, u67_96, u67_97, u67_98, u67_101, u67_102, u67_104, e147, u147_0, u147_1, u147_2, u147_5, u147_8, u147_10, u147_11, u147_12, u147_14, u147_15, u147_16, u147_17, u147_19, u147_20, u147_22, u147_23, u147_26, u147_27, u147_28, u147_30, u147_33, u147_36, u147_37, u147_38, u147_41, u147_42, u147_45, u147_47, u147_48, u147_49, u147_51, u147_52, u147_53, u147_56, u147_57, u147_58, u147_59, u147_62, u147_65, u147_66, u147_67, u147_69, u147_70, u147_71, u147_72, u147_75, u147_78, u147_80, q_push_s, q_push_n, q_sm_0, q_sm_i, q_sm_r, q_sm_n, q_sm_l, q_c1_0, q_c1_i, q_c1_r, q_c1_n, Nat.zero_add, Nat.reduceAdd, Nat.reduceMul, Nat.reduceSub, Nat.reduceLeDiff, Nat.reduceLT, Nat.reduceEqDiff, true_and, and_true, not_false_eq_true, if_true, if_false, ite_true, ite_false, or_true, true_or, or_false, false_or, not_true_eq_false, gf0_2, gf3_8, gf38_4, io0, io3, io38, l.pr, l.pr8, ha, z_b_z, z10, hdv, hrm, hrm2, ei1, Int.reduceEq, n10, c_place, hp, c_at (j := 6 * (q / 10) + q % 10) sh9 (by decide) (by decide) (by omega), n_mul, n_add, ia42 (i := 6 * (q / 10) + q % 10) (by omega), l.cl.of (6 * (q / 10) + q % 10) (by omega), l.mo.of (6 * (q / 10) + q % 10) (by omega), Nat.zero_le, Nat.reduceLeDiff]
          exact hK _ _ l
        · have y0 : (nI j = nI 0) = False := by rw [n_eq (by omega) (by decide)]; exact eq_false j0
          have y1 : (nI j = nI 1) = False := by rw [n_eq (by omega) (by decide)]; exact eq_false j1
          have ysw : ∀ (A B C D : Prop), (if (nI j).toInt = 0 then A else if (nI j).toInt = 1 then B else if (nI j).toInt = 2 then C else if (nI j).toInt = 3 then C else if (nI j).toInt = 4 then C else if (nI j).toInt = 5 then C else D) = C := by
            intro A B C D
            rw [nI_toInt (by omega)]
            have hj' : j = 2 ∨ j = 3 ∨ j = 4 ∨ j = 5 := by omega
            rcases hj' with rfl | rfl | rfl | rfl <;> simp
          have yl : (nI j < nI 2) = False := by rw [n_lt (by omega) (by decide)]; exact eq_false (by omega)
          have yr : (nI j ≤ nI 5) = True := by rw [n_le (by omega) (by decide)]; exact eq_true (by omega)
          simp only [e67, u67_0, u67_1, u67_2, u67_5, u67_8, u67_10, u67_11, u67_12, u67_14, u67_15, u67_16, u67_17, u67_19, u67_20, u67_22, u67_23, u67_60, u67_61, u67_64, u67_65, u67_67, u67_70, u67_71, u67_72, u67_75, u67_78, u67_79, u67_81, u67_84, u67_87, u67_88, u67_89, u67_92, u67_93, u67_95, u67_96, u67_97, u67_98, u67_101, u67_102, u67_104, q_push_s, q_push_n, q_sm_0, q_sm_i, q_sm_r, q_sm_n, q_sm_l, q_c1_0, q_c1_i, q_c1_r, q_c1_n, Nat.zero_add, Nat.reduceAdd, Nat.reduceMul, Nat.reduceSub, Nat.reduceLeDiff, Nat.reduceLT, Nat.reduceEqDiff, true_and, and_true, not_false_eq_true, if_true, if_false, ite_true, ite_false, or_true, true_or, or_false, false_or, not_true_eq_false, gf0_1, io0, io2, l.pr, ha, z_b_z, z10, hdv, hrm, ysw, n_sub (a := j) (b := 2) (by omega), Nat.zero_le, Nat.reduceLeDiff]
          refine l.well hg ho (fun m1 f1 l1 => ?_)
          simp only [e67, u67_0, u67_1, u67_2, u67_5, u67_8, u67_10, u67_11, u67_12, u67_14, u67_15, u67_16, u67_17, u67_19, u67_20, u67_22, u67_23, u67_60, u67_61, u67_64, u67_65, u67_67, u67_70, u67_71, u67_72, u67_75, u67_78, u67_79, u67_81, u67_84, u67_87, u67_88, u67_89, u67_92, u67_93, u67_95, u67_96, u67_97, u67_98, u67_101, u67_102, u67_104, e147, u147_0, u147_1, u147_2, u147_5, u147_8, u147_10, u147_11, u147_12, u147_14, u147_15, u147_16, u147_17, u147_19, u147_20, u147_22, u147_23, u147_26, u147_27, u147_28, u147_30, u147_33, u147_36, u147_37, u147_38, u147_41, u147_42, u147_45, u147_47, u147_48, u147_49, u147_51, u147_52, u147_53, u147_56, u147_57, u147_58, u147_59, u147_62, u147_65, u147_66, u147_67, u147_69, u147_70, u147_71, u147_72, u147_75, u147_78, u147_80, q_push_s, q_push_n, q_sm_0, q_sm_i, q_sm_r, q_sm_n, q_sm_l, q_c1_0, q_c1_i, q_c1_r, q_c1_n, Nat.zero_add, Nat.reduceAdd, Nat.reduceMul, Nat.reduceSub, Nat.reduceLeDiff, Nat.reduceLT, Nat.reduceEqDiff, true_and, and_true, not_false_eq_true, if_true, if_false, ite_true, ite_false, or_true, true_or, or_false, false_or, not_true_eq_false, io38, l1.pr8, ha, z_b_z, z10, hdv, hrm, y0, y1, c_in, yl, yr, and_self, n_sub (a := j) (b := 2) (by omega), Nat.zero_le, Nat.reduceLeDiff]
          refine l1.wellOf hg ho (fun m2 f2 l2 => ?_)
          simp only [e147, u147_0, u147_1, u147_2, u147_5, u147_8, u147_10, u147_11, u147_12, u147_14, u147_15, u147_16, u147_17, u147_19, u147_20, u147_22, u147_23, u147_26, u147_27, u147_28, u147_30, u147_33, u147_36, u147_37, u147_38, u147_41, u147_42, u147_45, u147_47, u147_48, u147_49, u147_51, u147_52, u147_53, u147_56, u147_57, u147_58, u147_59, u147_62, u147_65, u147_66, u147_67, u147_69, u147_70, u147_71, u147_72, u147_75, u147_78, u147_80, q_push_s, q_push_n, q_sm_0, q_sm_i, q_sm_r, q_sm_n, q_sm_l, q_c1_0, q_c1_i, q_c1_r, q_c1_n, Nat.zero_add, Nat.reduceAdd, Nat.reduceMul, Nat.reduceSub, Nat.reduceLeDiff, Nat.reduceLT, Nat.reduceEqDiff, true_and, and_true, not_false_eq_true, if_true, if_false, ite_true, ite_false, or_true, true_or, or_false, false_or, not_true_eq_false]
          exact hK _ _ l2
    · have i0 : (b.toInt = 0) = False := eq_false (fun q => hb (by unfold z_is; omega))
      have i1 : (b.toInt = 1) = False := eq_false (fun q => hb (by unfold z_is; omega))
      have i2 : (b.toInt = 2) = False := eq_false (fun q => hb (by unfold z_is; omega))
      have i3 : (b.toInt = 3) = False := eq_false (fun q => hb (by unfold z_is; omega))
      have i4 : (b.toInt = 4) = False := eq_false (fun q => hb (by unfold z_is; omega))
      have i5 : (b.toInt = 5) = False := eq_false (fun q => hb (by unfold z_is; omega))
      have y0 : (b = nI 0) = False := eq_false (fun q => hb (by rw [q, z_is_j (by decide)]; decide))
      have y1 : (b = nI 1) = False := eq_false (fun q => hb (by rw [q, z_is_j (by decide)]; decide))
      have yr : (¬ b < nI 2 ∧ b ≤ nI 5) = False := eq_false (fun q => hb (by
        unfold z_is
        rw [Int32.lt_iff_toInt_lt, Int32.le_iff_toInt_le, nI_toInt (n := 2) (by decide), nI_toInt (n := 5) (by decide)] at q
        omega))
      simp only [e67, u67_0, u67_1, u67_2, u67_5, u67_8, u67_10, u67_11, u67_12, u67_14, u67_15, u67_16, u67_17, u67_19, u67_20, u67_22, u67_23, u67_60, u67_61, u67_64, u67_65, u67_67, u67_70, u67_71, u67_72, u67_75, u67_78, u67_79, u67_81, u67_84, u67_87, u67_88, u67_89, u67_92, u67_93, u67_95, u67_96, u67_97, u67_98, u67_101, u67_102, u67_104, e147, u147_0, u147_1, u147_2, u147_5, u147_8, u147_10, u147_11, u147_12, u147_14, u147_15, u147_16, u147_17, u147_19, u147_20, u147_22, u147_23, u147_26, u147_27, u147_28, u147_30, u147_33, u147_36, u147_37, u147_38, u147_41, u147_42, u147_45, u147_47, u147_48, u147_49, u147_51, u147_52, u147_53, u147_56, u147_57, u147_58, u147_59, u147_62, u147_65, u147_66, u147_67, u147_69, u147_70, u147_71, u147_72, u147_75, u147_78, u147_80, q_push_s, q_push_n, q_sm_0, q_sm_i, q_sm_r, q_sm_n, q_sm_l, q_c1_0, q_c1_i, q_c1_r, q_c1_n, Nat.zero_add, Nat.reduceAdd, Nat.reduceMul, Nat.reduceSub, Nat.reduceLeDiff, Nat.reduceLT, Nat.reduceEqDiff, true_and, and_true, not_false_eq_true, if_true, if_false, ite_true, ite_false, or_true, true_or, or_false, false_or, not_true_eq_false, io0, io38, l.pr, l.pr8, ha, z_b_z, z10, hdv, hrm, i0, i1, i2, i3, i4, i5, y0, y1, c_in, yr, Nat.zero_le, Nat.reduceLeDiff]
      exact hK _ _ l
  · simp only [e67, u67_0, u67_1, u67_2, u67_5, u67_8, u67_10, u67_11, u67_12, u67_14, u67_15, u67_16, u67_17, u67_19, u67_20, u67_22, u67_23, u67_60, u67_61, u67_64, u67_65, u67_67, u67_70, u67_71, u67_72, u67_75, u67_78, u67_79, u67_81, u67_84, u67_87, u67_88, u67_89, u67_92, u67_93, u67_95, u67_96, u67_97, u67_98, u67_101, u67_102, u67_104, e147, u147_0, u147_1, u147_2, u147_5, u147_8, u147_10, u147_11, u147_12, u147_14, u147_15, u147_16, u147_17, u147_19, u147_20, u147_22, u147_23, u147_26, u147_27, u147_28, u147_30, u147_33, u147_36, u147_37, u147_38, u147_41, u147_42, u147_45, u147_47, u147_48, u147_49, u147_51, u147_52, u147_53, u147_56, u147_57, u147_58, u147_59, u147_62, u147_65, u147_66, u147_67, u147_69, u147_70, u147_71, u147_72, u147_75, u147_78, u147_80, q_push_s, q_push_n, q_sm_0, q_sm_i, q_sm_r, q_sm_n, q_sm_l, q_c1_0, q_c1_i, q_c1_r, q_c1_n, Nat.zero_add, Nat.reduceAdd, Nat.reduceMul, Nat.reduceSub, Nat.reduceLeDiff, Nat.reduceLT, Nat.reduceEqDiff, true_and, and_true, not_false_eq_true, if_true, if_false, ite_true, ite_false, or_true, true_or, or_false, false_or, not_true_eq_false, io0, io38, l.pr, l.pr8, ha, z_b_z, Nat.zero_le, Nat.reduceLeDiff]
    exact hK _ _ l
end
