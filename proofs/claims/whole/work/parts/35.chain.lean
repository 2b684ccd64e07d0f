/-! ===== chain, ring, asIf ===== -/
def z_ch (s : ZS) : Nat → Nat → Nat
  | 0, g => g
  | k + 1, g => z_ch s k (s.2.1 3 g)
theorem z_ch_lt {s : ZS} (hB : BZ s) : ∀ k g, g < s.1 0 → z_ch s k g < s.1 0
  | 0, _, h => h
  | k + 1, g, h => z_ch_lt hB k _ (hB.2.2.2 g h).2.2.2.1
section
variable {T : List Nat} {L d : Nat} {xs : Nat → Int32} {s : ZS} {tx : Nat → Nat → List Nat} {n : Nat} {tp : Nat → Nat} {z : Nat} {h : ZH} {wd : Nat → Int32} {m : q_M}
theorem l_chained {K : Option Value → q_G → q_M → Prop} (l : LJ T L xs s tx n tp z h wd m) {dep : Nat} (hd : dep < 1000) (x0 : Value) : ∀ k i who, i + k = dep → who < s.1 0 →
    (q_R 7 5 (d + 1) [some (.ref 3), some x0, some (.int (nI dep)), some (.int (nI who)), some (.int (nI i))] [] (GG T L) m K ↔ K (some (.int (nI (z_ch s k who)))) (GG T L) m)
  | 0, i, who, hi, hw => by
    simp only [u7_5, u7_7, u7_8, u7_26, u7_27, q_push_s, q_push_n, q_sm_0, q_sm_i, q_sm_r, q_sm_n, q_sm_l, q_c1_0, q_c1_i, q_c1_r, q_c1_n, Nat.zero_add, Nat.reduceAdd, Nat.reduceMul, Nat.reduceSub, Nat.reduceLeDiff, Nat.reduceLT, Nat.reduceEqDiff, true_and, and_true, not_false_eq_true, if_true, if_false, ite_true, ite_false, or_true, true_or, or_false, false_or, not_true_eq_false, n_lt (i := i) (j := dep) (by omega) (by omega), (show ¬ i < dep by omega), z_ch]
  | k + 1, i, who, hi, hw => by
    have h6 := l.bz.1
    rw [u7_5]
    simp only [u7_7, u7_8, u7_11, u7_12, u7_15, u7_16, u7_19, u7_20, u7_23, q_push_s, q_push_n, q_sm_0, q_sm_i, q_sm_r, q_sm_n, q_sm_l, q_c1_0, q_c1_i, q_c1_r, q_c1_n, Nat.zero_add, Nat.reduceAdd, Nat.reduceMul, Nat.reduceSub, Nat.reduceLeDiff, Nat.reduceLT, Nat.reduceEqDiff, true_and, and_true, not_false_eq_true, if_true, if_false, ite_true, ite_false, or_true, true_or, or_false, false_or, not_true_eq_false, n_lt (i := i) (j := dep) (by omega) (by omega), (show i < dep by omega), gf3_6, Nat.zero_le, c_at (j := who) sh7 (by decide) (by decide) (show who < 6 by omega), l.cl.pl who hw, n_add]
    exact l_chained l hd x0 k (i + 1) _ (by omega) (l.bz.2.2.2 who hw).2.2.2.1
theorem LJ.chained {K : Option Value → q_G → q_M → Prop} (l : LJ T L xs s tx n tp z h wd m) {dep gu : Nat} (hd : dep < 1000) (hg : gu < s.1 0) : q_C 7 (d + 1) [.ref 3, .int (nI gu), .int (nI dep)] (GG T L) m K ↔ K (some (.int (nI (z_ch s dep gu)))) (GG T L) m := by
  simp only [e7, u7_0, u7_1, u7_2, u7_3, q_push_s, q_push_n, q_sm_0, q_sm_i, q_sm_r, q_sm_n, q_sm_l, q_c1_0, q_c1_i, q_c1_r, q_c1_n, Nat.zero_add, Nat.reduceAdd, Nat.reduceMul, Nat.reduceSub, Nat.reduceLeDiff, Nat.reduceLT, Nat.reduceEqDiff, true_and, and_true, not_false_eq_true, if_true, if_false, ite_true, ite_false, or_true, true_or, or_false, false_or, not_true_eq_false]
  exact l_chained l hd _ dep 0 gu (by omega) hg
theorem l_chainOf {K : Option Value → q_G → q_M → Prop} (l : LJ T L xs s tx n tp z h wd m) {dep : Nat} (hd : dep < 1000) (x0 : Value) : ∀ k i who, i + k = dep → who < s.1 0 →
    (q_R 171 5 (d + 1) [some (.ref 38), some x0, some (.int (nI dep)), some (.int (nI who)), some (.int (nI i))] [] (GG T L) m K ↔ K (some (.int (nI (z_ch s k who)))) (GG T L) m)
  | 0, i, who, hi, hw => by
    simp only [u171_5, u171_7, u171_8, u171_23, u171_24, q_push_s, q_push_n, q_sm_0, q_sm_i, q_sm_r, q_sm_n, q_sm_l, q_c1_0, q_c1_i, q_c1_r, q_c1_n, Nat.zero_add, Nat.reduceAdd, Nat.reduceMul, Nat.reduceSub, Nat.reduceLeDiff, Nat.reduceLT, Nat.reduceEqDiff, true_and, and_true, not_false_eq_true, if_true, if_false, ite_true, ite_false, or_true, true_or, or_false, false_or, not_true_eq_false, n_lt (i := i) (j := dep) (by omega) (by omega), (show ¬ i < dep by omega), z_ch]
  | k + 1, i, who, hi, hw => by
    have h6 := l.bz.1
    rw [u171_5]
    simp only [u171_7, u171_8, u171_11, u171_12, u171_13, u171_16, u171_17, u171_20, e150, u150_0, u150_1, u150_4, u150_5, u150_6, u150_7, u150_8, u150_9, u150_10, q_push_s, q_push_n, q_sm_0, q_sm_i, q_sm_r, q_sm_n, q_sm_l, q_c1_0, q_c1_i, q_c1_r, q_c1_n, Nat.zero_add, Nat.reduceAdd, Nat.reduceMul, Nat.reduceSub, Nat.reduceLeDiff, Nat.reduceLT, Nat.reduceEqDiff, true_and, and_true, not_false_eq_true, if_true, if_false, ite_true, ite_false, or_true, true_or, or_false, false_or, not_true_eq_false, n_lt (i := i) (j := dep) (by omega) (by omega), (show i < dep by omega), io38, gf38_3, n_mul, n_add, ia41 (i := 3 * who + 1) (by omega), Nat.zero_le, l.mo.pl who hw]
    exact l_chainOf l hd x0 k (i + 1) _ (by omega) (l.bz.2.2.2 who hw).2.2.2.1
theorem LJ.chainOf {K : Option Value → q_G → q_M → Prop} (l : LJ T L xs s tx n tp z h wd m) {dep gu : Nat} (hd : dep < 1000) (hg : gu < s.1 0) : q_C 171 (d + 1) [.ref 38, .int (nI gu), .int (nI dep)] (GG T L) m K ↔ K (some (.int (nI (z_ch s dep gu)))) (GG T L) m := by
  simp only [e171, u171_0, u171_1, u171_2, u171_3, q_push_s, q_push_n, q_sm_0, q_sm_i, q_sm_r, q_sm_n, q_sm_l, q_c1_0, q_c1_i, q_c1_r, q_c1_n, Nat.zero_add, Nat.reduceAdd, Nat.reduceMul, Nat.reduceSub, Nat.reduceLeDiff, Nat.reduceLT, Nat.reduceEqDiff, true_and, and_true, not_false_eq_true, if_true, if_false, ite_true, ite_false, or_true, true_or, or_false, false_or, not_true_eq_false]
  exact l_chainOf l hd _ dep 0 gu (by omega) hg
variable {K : Option Value → Option Value → q_G → q_M → Prop}
theorem z_is_f {v : Int32} {n : Nat} (hn : n < 2 ^ 31 - 1) (h : ¬ z_is v (n + 1)) : v < nI 0 ∨ (¬ v < nI 0 ∧ ¬ v ≤ nI n) := by
  rw [← z_is_le hn] at h
  by_cases q : v < nI 0
  · exact Or.inl q
  · exact Or.inr ⟨q, fun q2 => h ⟨q, q2⟩⟩
theorem p_chain (l : LJ T L xs s tx n tp z h wd m) (a b : Int32) (hK : ∀ r m', LJ T L xs s tx n tp z h wd m' → K (some (.int r)) (some (.int r)) (GG T L) m') :
    q_C 79 (d + 3) [.ref 0, .int a, .int b] (GG T L) m (fun v g m => q_C 172 (d + 3) [.ref 38, .int a, .int b] g m (fun v' g m => K v v' g m)) := by
  have h6 := l.bz.1
  by_cases ha : z_is a (s.1 0)
  · obtain ⟨gu, hg, rfl⟩ := z_is_n ha
    by_cases hb : z_is b 100
    · obtain ⟨j, hj, rfl⟩ := z_is_n hb
      simp only [e79, u79_0, u79_1, u79_4, u79_5, u79_8, u79_11, u79_13, u79_14, u79_15, u79_18, u79_19, u79_21, u79_24, u79_26, u79_27, u79_28, u79_31, u79_32, u79_33, u79_36, e172, u172_0, u172_1, u172_2, u172_5, u172_8, u172_10, u172_11, u172_12, u172_13, u172_15, u172_18, u172_21, u172_22, u172_23, u172_24, u172_27, u172_30, u172_32, q_push_s, q_push_n, q_sm_0, q_sm_i, q_sm_r, q_sm_n, q_sm_l, q_c1_0, q_c1_i, q_c1_r, q_c1_n, Nat.zero_add, Nat.reduceAdd, Nat.reduceMul, Nat.reduceSub, Nat.reduceLeDiff, Nat.reduceLT, Nat.reduceEqDiff, true_and, and_true, not_false_eq_true, if_true, if_false, ite_true, ite_false, or_true, true_or, or_false, false_or, not_true_eq_false, gf0_2, io3, io38, l.has, l.isg, ha, hb, z_b_z, n_lt0 (j := j) (by omega), n_le (i := j) (j := 99) (by omega) (by decide), (show j ≤ 99 by omega), c_in, l.chained (dep := j) (by omega) hg, l.chainOf (dep := j) (by omega) hg, Nat.zero_le, and_self]
      exact hK _ _ l
    · rcases z_is_f (n := 99) (by decide) hb with q | ⟨q1, q2⟩
      · simp only [e79, u79_0, u79_1, u79_4, u79_5, u79_8, u79_11, u79_13, u79_14, u79_15, u79_18, u79_19, u79_21, u79_24, u79_26, u79_27, u79_28, u79_31, u79_32, u79_33, u79_36, e172, u172_0, u172_1, u172_2, u172_5, u172_8, u172_10, u172_11, u172_12, u172_13, u172_15, u172_18, u172_21, u172_22, u172_23, u172_24, u172_27, u172_30, u172_32, q_push_s, q_push_n, q_sm_0, q_sm_i, q_sm_r, q_sm_n, q_sm_l, q_c1_0, q_c1_i, q_c1_r, q_c1_n, Nat.zero_add, Nat.reduceAdd, Nat.reduceMul, Nat.reduceSub, Nat.reduceLeDiff, Nat.reduceLT, Nat.reduceEqDiff, true_and, and_true, not_false_eq_true, if_true, if_false, ite_true, ite_false, or_true, true_or, or_false, false_or, not_true_eq_false, gf0_2, io3, io38, l.has, l.isg, ha, z_b_z, q, c_in, false_and, Nat.zero_le]
        exact hK _ _ l
      · simp only [e79, u79_0, u79_1, u79_4, u79_5, u79_8, u79_11, u79_13, u79_14, u79_15, u79_18, u79_19, u79_21, u79_24, u79_26, u79_27, u79_28, u79_31, u79_32, u79_33, u79_36, e172, u172_0, u172_1, u172_2, u172_5, u172_8, u172_10, u172_11, u172_12, u172_13, u172_15, u172_18, u172_21, u172_22, u172_23, u172_24, u172_27, u172_30, u172_32, q_push_s, q_push_n, q_sm_0, q_sm_i, q_sm_r, q_sm_n, q_sm_l, q_c1_0, q_c1_i, q_c1_r, q_c1_n, Nat.zero_add, Nat.reduceAdd, Nat.reduceMul, Nat.reduceSub, Nat.reduceLeDiff, Nat.reduceLT, Nat.reduceEqDiff, true_and, and_true, not_false_eq_true, if_true, if_false, ite_true, ite_false, or_true, true_or, or_false, false_or, not_true_eq_false, gf0_2, io3, io38, l.has, l.isg, ha, z_b_z, q1, q2, c_in, and_false, Nat.zero_le]
        exact hK _ _ l
  · simp only [e79, u79_0, u79_1, u79_4, u79_5, u79_8, u79_11, u79_13, u79_14, u79_15, u79_18, u79_19, u79_21, u79_24, u79_26, u79_27, u79_28, u79_31, u79_32, u79_33, u79_36, e172, u172_0, u172_1, u172_2, u172_5, u172_8, u172_10, u172_11, u172_12, u172_13, u172_15, u172_18, u172_21, u172_22, u172_23, u172_24, u172_27, u172_30, u172_32, q_push_s, q_push_n, q_sm_0, q_sm_i, q_sm_r, q_sm_n, q_sm_l, q_c1_0, q_c1_i, q_c1_r, q_c1_n, Nat.zero_add, Nat.reduceAdd, Nat.reduceMul, Nat.reduceSub, Nat.reduceLeDiff, Nat.reduceLT, Nat.reduceEqDiff, true_and, and_true, not_false_eq_true, if_true, if_false, ite_true, ite_false, or_true, true_or, or_false, false_or, not_true_eq_false, gf0_2, io3, io38, l.has, l.isg, ha, z_b_z, Nat.zero_le]
    exact hK _ _ l
end
