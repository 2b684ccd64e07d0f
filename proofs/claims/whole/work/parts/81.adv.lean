/-! ===== the class goes on to what stands next ===== -/
section
variable {T : List Nat} {L d : Nat} {m : q_M} {g : q_G} {xs : Nat → Int32} {tp : Nat → Nat} {z : Nat} {K : Option Value → q_G → q_M → Prop}
theorem c_isBlank {b : Nat} (h : b < 256) : q_C 39 d [.int (nI b)] g m K ↔ K (some (.int (z_b (y_blk b = true)))) g m := by
  have q32 := n_eq (i := b) (j := 32) (by omega) (by decide)
  have q10 := n_eq (i := b) (j := 10) (by omega) (by decide)
  by_cases a : b = 32
  · have e : y_blk b = true := decide_eq_true (Or.inl a)
    simp only [e39, e39, u39_0, u39_1, u39_3, u39_6, u39_7, u39_9, u39_12, u39_13, u39_16, u39_17, q_push_s, q_push_n, q_sm_0, q_sm_i, q_sm_r, q_sm_n, q_sm_l, q_c1_0, q_c1_i, q_c1_r, q_c1_n, Nat.zero_add, Nat.reduceAdd, Nat.reduceMul, Nat.reduceSub, Nat.reduceLeDiff, Nat.reduceLT, Nat.reduceEqDiff, true_and, and_true, not_false_eq_true, if_true, if_false, ite_true, ite_false, or_true, true_or, or_false, false_or, not_true_eq_false, eq_self, lq_0_1, lq_0_2, lq_0_3, lq_0_4, lq_0_5, lq_0_6, lq_1_0, lq_1_2, lq_1_3, lq_1_4, lq_1_5, lq_1_6, lq_2_0, lq_2_1, lq_2_3, lq_2_4, lq_2_5, lq_2_6, lq_3_0, lq_3_1, lq_3_2, lq_3_4, lq_3_5, lq_3_6, lq_4_0, lq_4_1, lq_4_2, lq_4_3, lq_4_5, lq_4_6, lq_5_0, lq_5_1, lq_5_2, lq_5_3, lq_5_4, lq_5_6, lq_6_0, lq_6_1, lq_6_2, lq_6_3, lq_6_4, lq_6_5, ll_0_0, ll_0_1, ll_0_2, ll_0_3, ll_0_4, ll_0_5, ll_0_6, ll_1_0, ll_1_1, ll_1_2, ll_1_3, ll_1_4, ll_1_5, ll_1_6, ll_2_0, ll_2_1, ll_2_2, ll_2_3, ll_2_4, ll_2_5, ll_2_6, ll_3_0, ll_3_1, ll_3_2, ll_3_3, ll_3_4, ll_3_5, ll_3_6, ll_4_0, ll_4_1, ll_4_2, ll_4_3, ll_4_4, ll_4_5, ll_4_6, ll_5_0, ll_5_1, ll_5_2, ll_5_3, ll_5_4, ll_5_5, ll_5_6, ll_6_0, ll_6_1, ll_6_2, ll_6_3, ll_6_4, ll_6_5, ll_6_6, le_0_0, le_0_1, le_0_2, le_0_3, le_0_4, le_0_5, le_0_6, le_1_0, le_1_1, le_1_2, le_1_3, le_1_4, le_1_5, le_1_6, le_2_0, le_2_1, le_2_2, le_2_3, le_2_4, le_2_5, le_2_6, le_3_0, le_3_1, le_3_2, le_3_3, le_3_4, le_3_5, le_3_6, le_4_0, le_4_1, le_4_2, le_4_3, le_4_4, le_4_5, le_4_6, le_5_0, le_5_1, le_5_2, le_5_3, le_5_4, le_5_5, le_5_6, le_6_0, le_6_1, le_6_2, le_6_3, le_6_4, le_6_5, le_6_6, q32, a, y_11]
    rw [z_b_1 (by rw [← a]; exact e)]
  · by_cases a2 : b = 10
    · have e : y_blk b = true := decide_eq_true (Or.inr a2)
      simp only [e39, e39, u39_0, u39_1, u39_3, u39_6, u39_7, u39_9, u39_12, u39_13, u39_16, u39_17, q_push_s, q_push_n, q_sm_0, q_sm_i, q_sm_r, q_sm_n, q_sm_l, q_c1_0, q_c1_i, q_c1_r, q_c1_n, Nat.zero_add, Nat.reduceAdd, Nat.reduceMul, Nat.reduceSub, Nat.reduceLeDiff, Nat.reduceLT, Nat.reduceEqDiff, true_and, and_true, not_false_eq_true, if_true, if_false, ite_true, ite_false, or_true, true_or, or_false, false_or, not_true_eq_false, eq_self, lq_0_1, lq_0_2, lq_0_3, lq_0_4, lq_0_5, lq_0_6, lq_1_0, lq_1_2, lq_1_3, lq_1_4, lq_1_5, lq_1_6, lq_2_0, lq_2_1, lq_2_3, lq_2_4, lq_2_5, lq_2_6, lq_3_0, lq_3_1, lq_3_2, lq_3_4, lq_3_5, lq_3_6, lq_4_0, lq_4_1, lq_4_2, lq_4_3, lq_4_5, lq_4_6, lq_5_0, lq_5_1, lq_5_2, lq_5_3, lq_5_4, lq_5_6, lq_6_0, lq_6_1, lq_6_2, lq_6_3, lq_6_4, lq_6_5, ll_0_0, ll_0_1, ll_0_2, ll_0_3, ll_0_4, ll_0_5, ll_0_6, ll_1_0, ll_1_1, ll_1_2, ll_1_3, ll_1_4, ll_1_5, ll_1_6, ll_2_0, ll_2_1, ll_2_2, ll_2_3, ll_2_4, ll_2_5, ll_2_6, ll_3_0, ll_3_1, ll_3_2, ll_3_3, ll_3_4, ll_3_5, ll_3_6, ll_4_0, ll_4_1, ll_4_2, ll_4_3, ll_4_4, ll_4_5, ll_4_6, ll_5_0, ll_5_1, ll_5_2, ll_5_3, ll_5_4, ll_5_5, ll_5_6, ll_6_0, ll_6_1, ll_6_2, ll_6_3, ll_6_4, ll_6_5, ll_6_6, le_0_0, le_0_1, le_0_2, le_0_3, le_0_4, le_0_5, le_0_6, le_1_0, le_1_1, le_1_2, le_1_3, le_1_4, le_1_5, le_1_6, le_2_0, le_2_1, le_2_2, le_2_3, le_2_4, le_2_5, le_2_6, le_3_0, le_3_1, le_3_2, le_3_3, le_3_4, le_3_5, le_3_6, le_4_0, le_4_1, le_4_2, le_4_3, le_4_4, le_4_5, le_4_6, le_5_0, le_5_1, le_5_2, le_5_3, le_5_4, le_5_5, le_5_6, le_6_0, le_6_1, le_6_2, le_6_3, le_6_4, le_6_5, le_6_6, q32, q10, a, a2, y_11, ite_self]
      rw [z_b_1 (by rw [← a2]; exact e)]
    · have e : ¬ y_blk b = true := fun h => (of_decide_eq_true h).elim a a2
      simp only [e39, e39, u39_0, u39_1, u39_3, u39_6, u39_7, u39_9, u39_12, u39_13, u39_16, u39_17, q_push_s, q_push_n, q_sm_0, q_sm_i, q_sm_r, q_sm_n, q_sm_l, q_c1_0, q_c1_i, q_c1_r, q_c1_n, Nat.zero_add, Nat.reduceAdd, Nat.reduceMul, Nat.reduceSub, Nat.reduceLeDiff, Nat.reduceLT, Nat.reduceEqDiff, true_and, and_true, not_false_eq_true, if_true, if_false, ite_true, ite_false, or_true, true_or, or_false, false_or, not_true_eq_false, eq_self, lq_0_1, lq_0_2, lq_0_3, lq_0_4, lq_0_5, lq_0_6, lq_1_0, lq_1_2, lq_1_3, lq_1_4, lq_1_5, lq_1_6, lq_2_0, lq_2_1, lq_2_3, lq_2_4, lq_2_5, lq_2_6, lq_3_0, lq_3_1, lq_3_2, lq_3_4, lq_3_5, lq_3_6, lq_4_0, lq_4_1, lq_4_2, lq_4_3, lq_4_5, lq_4_6, lq_5_0, lq_5_1, lq_5_2, lq_5_3, lq_5_4, lq_5_6, lq_6_0, lq_6_1, lq_6_2, lq_6_3, lq_6_4, lq_6_5, ll_0_0, ll_0_1, ll_0_2, ll_0_3, ll_0_4, ll_0_5, ll_0_6, ll_1_0, ll_1_1, ll_1_2, ll_1_3, ll_1_4, ll_1_5, ll_1_6, ll_2_0, ll_2_1, ll_2_2, ll_2_3, ll_2_4, ll_2_5, ll_2_6, ll_3_0, ll_3_1, ll_3_2, ll_3_3, ll_3_4, ll_3_5, ll_3_6, ll_4_0, ll_4_1, ll_4_2, ll_4_3, ll_4_4, ll_4_5, ll_4_6, ll_5_0, ll_5_1, ll_5_2, ll_5_3, ll_5_4, ll_5_5, ll_5_6, ll_6_0, ll_6_1, ll_6_2, ll_6_3, ll_6_4, ll_6_5, ll_6_6, le_0_0, le_0_1, le_0_2, le_0_3, le_0_4, le_0_5, le_0_6, le_1_0, le_1_1, le_1_2, le_1_3, le_1_4, le_1_5, le_1_6, le_2_0, le_2_1, le_2_2, le_2_3, le_2_4, le_2_5, le_2_6, le_3_0, le_3_1, le_3_2, le_3_3, le_3_4, le_3_5, le_3_6, le_4_0, le_4_1, le_4_2, le_4_3, le_4_4, le_4_5, le_4_6, le_5_0, le_5_1, le_5_2, le_5_3, le_5_4, le_5_5, le_5_6, le_6_0, le_6_1, le_6_2, le_6_3, le_6_4, le_6_5, le_6_6, q32, q10, a, a2, y_00]
      rw [z_b_0 e]
theorem c_isLetter {b : Nat} (h : b < 256) : q_C 40 d [.int (nI b)] g m K ↔ K (some (.int (z_b (y_let b = true)))) g m := by
  have q1 := n_lt (i := b) (j := 97) (by omega) (by decide)
  have q2 := n_le (i := b) (j := 122) (by omega) (by decide)
  by_cases a : b < 97
  · have e : ¬ y_let b = true := fun h => by have := of_decide_eq_true h; omega
    simp only [e40, e40, u40_0, u40_1, u40_3, u40_6, u40_7, u40_9, u40_12, u40_13, u40_16, u40_17, q_push_s, q_push_n, q_sm_0, q_sm_i, q_sm_r, q_sm_n, q_sm_l, q_c1_0, q_c1_i, q_c1_r, q_c1_n, Nat.zero_add, Nat.reduceAdd, Nat.reduceMul, Nat.reduceSub, Nat.reduceLeDiff, Nat.reduceLT, Nat.reduceEqDiff, true_and, and_true, not_false_eq_true, if_true, if_false, ite_true, ite_false, or_true, true_or, or_false, false_or, not_true_eq_false, eq_self, lq_0_1, lq_0_2, lq_0_3, lq_0_4, lq_0_5, lq_0_6, lq_1_0, lq_1_2, lq_1_3, lq_1_4, lq_1_5, lq_1_6, lq_2_0, lq_2_1, lq_2_3, lq_2_4, lq_2_5, lq_2_6, lq_3_0, lq_3_1, lq_3_2, lq_3_4, lq_3_5, lq_3_6, lq_4_0, lq_4_1, lq_4_2, lq_4_3, lq_4_5, lq_4_6, lq_5_0, lq_5_1, lq_5_2, lq_5_3, lq_5_4, lq_5_6, lq_6_0, lq_6_1, lq_6_2, lq_6_3, lq_6_4, lq_6_5, ll_0_0, ll_0_1, ll_0_2, ll_0_3, ll_0_4, ll_0_5, ll_0_6, ll_1_0, ll_1_1, ll_1_2, ll_1_3, ll_1_4, ll_1_5, ll_1_6, ll_2_0, ll_2_1, ll_2_2, ll_2_3, ll_2_4, ll_2_5, ll_2_6, ll_3_0, ll_3_1, ll_3_2, ll_3_3, ll_3_4, ll_3_5, ll_3_6, ll_4_0, ll_4_1, ll_4_2, ll_4_3, ll_4_4, ll_4_5, ll_4_6, ll_5_0, ll_5_1, ll_5_2, ll_5_3, ll_5_4, ll_5_5, ll_5_6, ll_6_0, ll_6_1, ll_6_2, ll_6_3, ll_6_4, ll_6_5, ll_6_6, le_0_0, le_0_1, le_0_2, le_0_3, le_0_4, le_0_5, le_0_6, le_1_0, le_1_1, le_1_2, le_1_3, le_1_4, le_1_5, le_1_6, le_2_0, le_2_1, le_2_2, le_2_3, le_2_4, le_2_5, le_2_6, le_3_0, le_3_1, le_3_2, le_3_3, le_3_4, le_3_5, le_3_6, le_4_0, le_4_1, le_4_2, le_4_3, le_4_4, le_4_5, le_4_6, le_5_0, le_5_1, le_5_2, le_5_3, le_5_4, le_5_5, le_5_6, le_6_0, le_6_1, le_6_2, le_6_3, le_6_4, le_6_5, le_6_6, q1, a, y_00]
    rw [z_b_0 e]
  · by_cases a2 : b ≤ 122
    · have e : y_let b = true := decide_eq_true ⟨by omega, a2⟩
      simp only [e40, e40, u40_0, u40_1, u40_3, u40_6, u40_7, u40_9, u40_12, u40_13, u40_16, u40_17, q_push_s, q_push_n, q_sm_0, q_sm_i, q_sm_r, q_sm_n, q_sm_l, q_c1_0, q_c1_i, q_c1_r, q_c1_n, Nat.zero_add, Nat.reduceAdd, Nat.reduceMul, Nat.reduceSub, Nat.reduceLeDiff, Nat.reduceLT, Nat.reduceEqDiff, true_and, and_true, not_false_eq_true, if_true, if_false, ite_true, ite_false, or_true, true_or, or_false, false_or, not_true_eq_false, eq_self, lq_0_1, lq_0_2, lq_0_3, lq_0_4, lq_0_5, lq_0_6, lq_1_0, lq_1_2, lq_1_3, lq_1_4, lq_1_5, lq_1_6, lq_2_0, lq_2_1, lq_2_3, lq_2_4, lq_2_5, lq_2_6, lq_3_0, lq_3_1, lq_3_2, lq_3_4, lq_3_5, lq_3_6, lq_4_0, lq_4_1, lq_4_2, lq_4_3, lq_4_5, lq_4_6, lq_5_0, lq_5_1, lq_5_2, lq_5_3, lq_5_4, lq_5_6, lq_6_0, lq_6_1, lq_6_2, lq_6_3, lq_6_4, lq_6_5, ll_0_0, ll_0_1, ll_0_2, ll_0_3, ll_0_4, ll_0_5, ll_0_6, ll_1_0, ll_1_1, ll_1_2, ll_1_3, ll_1_4, ll_1_5, ll_1_6, ll_2_0, ll_2_1, ll_2_2, ll_2_3, ll_2_4, ll_2_5, ll_2_6, ll_3_0, ll_3_1, ll_3_2, ll_3_3, ll_3_4, ll_3_5, ll_3_6, ll_4_0, ll_4_1, ll_4_2, ll_4_3, ll_4_4, ll_4_5, ll_4_6, ll_5_0, ll_5_1, ll_5_2, ll_5_3, ll_5_4, ll_5_5, ll_5_6, ll_6_0, ll_6_1, ll_6_2, ll_6_3, ll_6_4, ll_6_5, ll_6_6, le_0_0, le_0_1, le_0_2, le_0_3, le_0_4, le_0_5, le_0_6, le_1_0, le_1_1, le_1_2, le_1_3, le_1_4, le_1_5, le_1_6, le_2_0, le_2_1, le_2_2, le_2_3, le_2_4, le_2_5, le_2_6, le_3_0, le_3_1, le_3_2, le_3_3, le_3_4, le_3_5, le_3_6, le_4_0, le_4_1, le_4_2, le_4_3, le_4_4, le_4_5, le_4_6, le_5_0, le_5_1, le_5_2, le_5_3, le_5_4, le_5_5, le_5_6, le_6_0, le_6_1, le_6_2, le_6_3, le_6_4, le_6_5, le_6_6, q1, q2, a, a2, y_11]
      rw [z_b_1 e]
    · have e : ¬ y_let b = true := fun h => a2 (of_decide_eq_true h).2
      simp only [e40, e40, u40_0, u40_1, u40_3, u40_6, u40_7, u40_9, u40_12, u40_13, u40_16, u40_17, q_push_s, q_push_n, q_sm_0, q_sm_i, q_sm_r, q_sm_n, q_sm_l, q_c1_0, q_c1_i, q_c1_r, q_c1_n, Nat.zero_add, Nat.reduceAdd, Nat.reduceMul, Nat.reduceSub, Nat.reduceLeDiff, Nat.reduceLT, Nat.reduceEqDiff, true_and, and_true, not_false_eq_true, if_true, if_false, ite_true, ite_false, or_true, true_or, or_false, false_or, not_true_eq_false, eq_self, lq_0_1, lq_0_2, lq_0_3, lq_0_4, lq_0_5, lq_0_6, lq_1_0, lq_1_2, lq_1_3, lq_1_4, lq_1_5, lq_1_6, lq_2_0, lq_2_1, lq_2_3, lq_2_4, lq_2_5, lq_2_6, lq_3_0, lq_3_1, lq_3_2, lq_3_4, lq_3_5, lq_3_6, lq_4_0, lq_4_1, lq_4_2, lq_4_3, lq_4_5, lq_4_6, lq_5_0, lq_5_1, lq_5_2, lq_5_3, lq_5_4, lq_5_6, lq_6_0, lq_6_1, lq_6_2, lq_6_3, lq_6_4, lq_6_5, ll_0_0, ll_0_1, ll_0_2, ll_0_3, ll_0_4, ll_0_5, ll_0_6, ll_1_0, ll_1_1, ll_1_2, ll_1_3, ll_1_4, ll_1_5, ll_1_6, ll_2_0, ll_2_1, ll_2_2, ll_2_3, ll_2_4, ll_2_5, ll_2_6, ll_3_0, ll_3_1, ll_3_2, ll_3_3, ll_3_4, ll_3_5, ll_3_6, ll_4_0, ll_4_1, ll_4_2, ll_4_3, ll_4_4, ll_4_5, ll_4_6, ll_5_0, ll_5_1, ll_5_2, ll_5_3, ll_5_4, ll_5_5, ll_5_6, ll_6_0, ll_6_1, ll_6_2, ll_6_3, ll_6_4, ll_6_5, ll_6_6, le_0_0, le_0_1, le_0_2, le_0_3, le_0_4, le_0_5, le_0_6, le_1_0, le_1_1, le_1_2, le_1_3, le_1_4, le_1_5, le_1_6, le_2_0, le_2_1, le_2_2, le_2_3, le_2_4, le_2_5, le_2_6, le_3_0, le_3_1, le_3_2, le_3_3, le_3_4, le_3_5, le_3_6, le_4_0, le_4_1, le_4_2, le_4_3, le_4_4, le_4_5, le_4_6, le_5_0, le_5_1, le_5_2, le_5_3, le_5_4, le_5_5, le_5_6, le_6_0, le_6_1, le_6_2, le_6_3, le_6_4, le_6_5, le_6_6, q1, q2, a, a2, y_00]
      rw [z_b_0 e]
theorem c_isDigit {b : Nat} (h : b < 256) : q_C 41 d [.int (nI b)] g m K ↔ K (some (.int (z_b (y_dig b = true)))) g m := by
  have q1 := n_lt (i := b) (j := 48) (by omega) (by decide)
  have q2 := n_le (i := b) (j := 57) (by omega) (by decide)
  by_cases a : b < 48
  · have e : ¬ y_dig b = true := fun h => by have := of_decide_eq_true h; omega
    simp only [e41, e41, u41_0, u41_1, u41_3, u41_6, u41_7, u41_9, u41_12, u41_13, u41_16, u41_17, q_push_s, q_push_n, q_sm_0, q_sm_i, q_sm_r, q_sm_n, q_sm_l, q_c1_0, q_c1_i, q_c1_r, q_c1_n, Nat.zero_add, Nat.reduceAdd, Nat.reduceMul, Nat.reduceSub, Nat.reduceLeDiff, Nat.reduceLT, Nat.reduceEqDiff, true_and, and_true, not_false_eq_true, if_true, if_false, ite_true, ite_false, or_true, true_or, or_false, false_or, not_true_eq_false, eq_self, lq_0_1, lq_0_2, lq_0_3, lq_0_4, lq_0_5, lq_0_6, lq_1_0, lq_1_2, lq_1_3, lq_1_4, lq_1_5, lq_1_6, lq_2_0, lq_2_1, lq_2_3, lq_2_4, lq_2_5, lq_2_6, lq_3_0, lq_3_1, lq_3_2, lq_3_4, lq_3_5, lq_3_6, lq_4_0, lq_4_1, lq_4_2, lq_4_3, lq_4_5, lq_4_6, lq_5_0, lq_5_1, lq_5_2, lq_5_3, lq_5_4, lq_5_6, lq_6_0, lq_6_1, lq_6_2, lq_6_3, lq_6_4, lq_6_5, ll_0_0, ll_0_1, ll_0_2, ll_0_3, ll_0_4, ll_0_5, ll_0_6, ll_1_0, ll_1_1, ll_1_2, ll_1_3, ll_1_4, ll_1_5, ll_1_6, ll_2_0, ll_2_1, ll_2_2, ll_2_3, ll_2_4, ll_2_5, ll_2_6, ll_3_0, ll_3_1, ll_3_2, ll_3_3, ll_3_4, ll_3_5, ll_3_6, ll_4_0, ll_4_1, ll_4_2, ll_4_3, ll_4_4, ll_4_5, ll_4_6, ll_5_0, ll_5_1, ll_5_2, ll_5_3, ll_5_4, ll_5_5, ll_5_6, ll_6_0, ll_6_1, ll_6_2, ll_6_3, ll_6_4, ll_6_5, ll_6_6, le_0_0, le_0_1, le_0_2, le_0_3, le_0_4, le_0_5, le_0_6, le_1_0, le_1_1, le_1_2, le_1_3, le_1_4, le_1_5, le_1_6, le_2_0, le_2_1, le_2_2, le_2_3, le_2_4, le_2_5, le_2_6, le_3_0, le_3_1, le_3_2, le_3_3, le_3_4, le_3_5, le_3_6, le_4_0, le_4_1, le_4_2, le_4_3, le_4_4, le_4_5, le_4_6, le_5_0, le_5_1, le_5_2, le_5_3, le_5_4, le_5_5, le_5_6, le_6_0, le_6_1, le_6_2, le_6_3, le_6_4, le_6_5, le_6_6, q1, a, y_00]
    rw [z_b_0 e]
  · by_cases a2 : b ≤ 57
    · have e : y_dig b = true := decide_eq_true ⟨by omega, a2⟩
      simp only [e41, e41, u41_0, u41_1, u41_3, u41_6, u41_7, u41_9, u41_12, u41_13, u41_16, u41_17, q_push_s, q_push_n, q_sm_0, q_sm_i, q_sm_r, q_sm_n, q_sm_l, q_c1_0, q_c1_i, q_c1_r, q_c1_n, Nat.zero_add, Nat.reduceAdd, Nat.reduceMul, Nat.reduceSub, Nat.reduceLeDiff, Nat.reduceLT, Nat.reduceEqDiff, true_and, and_true, not_false_eq_true, if_true, if_false, ite_true, ite_false, or_true, true_or, or_false, false_or, not_true_eq_false, eq_self, lq_0_1, lq_0_2, lq_0_3, lq_0_4, lq_0_5, lq_0_6, lq_1_0, lq_1_2, lq_1_3, lq_1_4, lq_1_5, lq_1_6, lq_2_0, lq_2_1, lq_2_3, lq_2_4, lq_2_5, lq_2_6, lq_3_0, lq_3_1, lq_3_2, lq_3_4, lq_3_5, lq_3_6, lq_4_0, lq_4_1, lq_4_2, lq_4_3, lq_4_5, lq_4_6, lq_5_0, lq_5_1, lq_5_2, lq_5_3, lq_5_4, lq_5_6, lq_6_0, lq_6_1, lq_6_2, lq_6_3, lq_6_4, lq_6_5, ll_0_0, ll_0_1, ll_0_2, ll_0_3, ll_0_4, ll_0_5, ll_0_6, ll_1_0, ll_1_1, ll_1_2, ll_1_3, ll_1_4, ll_1_5, ll_1_6, ll_2_0, ll_2_1, ll_2_2, ll_2_3, ll_2_4, ll_2_5, ll_2_6, ll_3_0, ll_3_1, ll_3_2, ll_3_3, ll_3_4, ll_3_5, ll_3_6, ll_4_0, ll_4_1, ll_4_2, ll_4_3, ll_4_4, ll_4_5, ll_4_6, ll_5_0, ll_5_1, ll_5_2, ll_5_3, ll_5_4, ll_5_5, ll_5_6, ll_6_0, ll_6_1, ll_6_2, ll_6_3, ll_6_4, ll_6_5, ll_6_6, le_0_0, le_0_1, le_0_2, le_0_3, le_0_4, le_0_5, le_0_6, le_1_0, le_1_1, le_1_2, le_1_3, le_1_4, le_1_5, le_1_6, le_2_0, le_2_1, le_2_2, le_2_3, le_2_4, le_2_5, le_2_6, le_3_0, le_3_1, le_3_2, le_3_3, le_3_4, le_3_5, le_3_6, le_4_0, le_4_1, le_4_2, le_4_3, le_4_4, le_4_5, le_4_6, le_5_0, le_5_1, le_5_2, le_5_3, le_5_4, le_5_5, le_5_6, le_6_0, le_6_1, le_6_2, le_6_3, le_6_4, le_6_5, le_6_6, q1, q2, a, a2, y_11]
      rw [z_b_1 e]
    · have e : ¬ y_dig b = true := fun h => a2 (of_decide_eq_true h).2
      simp only [e41, e41, u41_0, u41_1, u41_3, u41_6, u41_7, u41_9, u41_12, u41_13, u41_16, u41_17, q_push_s, q_push_n, q_sm_0, q_sm_i, q_sm_r, q_sm_n, q_sm_l, q_c1_0, q_c1_i, q_c1_r, q_c1_n, Nat.zero_add, Nat.reduceAdd, Nat.reduceMul, Nat.reduceSub, Nat.reduceLeDiff, Nat.reduceLT, Nat.reduceEqDiff, true_and, and_true, not_false_eq_true, if_true, if_false, ite_true, ite_false, or_true, true_or, or_false, false_or, not_true_eq_false, eq_self, lq_0_1, lq_0_2, lq_0_3, lq_0_4, lq_0_5, lq_0_6, lq_1_0, lq_1_2, lq_1_3, lq_1_4, lq_1_5, lq_1_6, lq_2_0, lq_2_1, lq_2_3, lq_2_4, lq_2_5, lq_2_6, lq_3_0, lq_3_1, lq_3_2, lq_3_4, lq_3_5, lq_3_6, lq_4_0, lq_4_1, lq_4_2, lq_4_3, lq_4_5, lq_4_6, lq_5_0, lq_5_1, lq_5_2, lq_5_3, lq_5_4, lq_5_6, lq_6_0, lq_6_1, lq_6_2, lq_6_3, lq_6_4, lq_6_5, ll_0_0, ll_0_1, ll_0_2, ll_0_3, ll_0_4, ll_0_5, ll_0_6, ll_1_0, ll_1_1, ll_1_2, ll_1_3, ll_1_4, ll_1_5, ll_1_6, ll_2_0, ll_2_1, ll_2_2, ll_2_3, ll_2_4, ll_2_5, ll_2_6, ll_3_0, ll_3_1, ll_3_2, ll_3_3, ll_3_4, ll_3_5, ll_3_6, ll_4_0, ll_4_1, ll_4_2, ll_4_3, ll_4_4, ll_4_5, ll_4_6, ll_5_0, ll_5_1, ll_5_2, ll_5_3, ll_5_4, ll_5_5, ll_5_6, ll_6_0, ll_6_1, ll_6_2, ll_6_3, ll_6_4, ll_6_5, ll_6_6, le_0_0, le_0_1, le_0_2, le_0_3, le_0_4, le_0_5, le_0_6, le_1_0, le_1_1, le_1_2, le_1_3, le_1_4, le_1_5, le_1_6, le_2_0, le_2_1, le_2_2, le_2_3, le_2_4, le_2_5, le_2_6, le_3_0, le_3_1, le_3_2, le_3_3, le_3_4, le_3_5, le_3_6, le_4_0, le_4_1, le_4_2, le_4_3, le_4_4, le_4_5, le_4_6, le_5_0, le_5_1, le_5_2, le_5_3, le_5_4, le_5_5, le_5_6, le_6_0, le_6_1, le_6_2, le_6_3, le_6_4, le_6_5, le_6_6, q1, q2, a, a2, y_00]
      rw [z_b_0 e]
theorem c_isSign {b : Nat} (h : b < 256) (hK : K (some (.int (z_b (y_sig b = true)))) g m) : q_C 42 d [.int (nI b)] g m K := by
  have nq : ∀ v, v < 256 → (nI b = nI v) = (b = v) := fun v hv => n_eq (by omega) (by omega)
  have nq40 := nq 40 (by decide)
  have nq41 := nq 41 (by decide)
  have nq59 := nq 59 (by decide)
  have nq43 := nq 43 (by decide)
  have nq45 := nq 45 (by decide)
  have nq42 := nq 42 (by decide)
  have nq60 := nq 60 (by decide)
  have nq61 := nq 61 (by decide)
  rcases y_sigI h with q | ⟨q, q1, q2, q3, q4, q5, q6, q7, q8⟩
  · have q' := of_decide_eq_true q
    rw [z_b_1 q] at hK
    have go : q_R 42 48 d [some (.int (nI b))] [] g m K := by
      simp only [u42_48, u42_49, u42_52, u42_53, q_push_s, q_push_n, q_sm_0, q_sm_i, q_sm_r, q_sm_n, q_sm_l, q_c1_0, q_c1_i, q_c1_r, q_c1_n, Nat.zero_add, Nat.reduceAdd, Nat.reduceMul, Nat.reduceSub, Nat.reduceLeDiff, Nat.reduceLT, Nat.reduceEqDiff, true_and, and_true, not_false_eq_true, if_true, if_false, ite_true, ite_false, or_true, true_or, or_false, false_or, not_true_eq_false, eq_self, lq_0_1, lq_0_2, lq_0_3, lq_0_4, lq_0_5, lq_0_6, lq_1_0, lq_1_2, lq_1_3, lq_1_4, lq_1_5, lq_1_6, lq_2_0, lq_2_1, lq_2_3, lq_2_4, lq_2_5, lq_2_6, lq_3_0, lq_3_1, lq_3_2, lq_3_4, lq_3_5, lq_3_6, lq_4_0, lq_4_1, lq_4_2, lq_4_3, lq_4_5, lq_4_6, lq_5_0, lq_5_1, lq_5_2, lq_5_3, lq_5_4, lq_5_6, lq_6_0, lq_6_1, lq_6_2, lq_6_3, lq_6_4, lq_6_5, ll_0_0, ll_0_1, ll_0_2, ll_0_3, ll_0_4, ll_0_5, ll_0_6, ll_1_0, ll_1_1, ll_1_2, ll_1_3, ll_1_4, ll_1_5, ll_1_6, ll_2_0, ll_2_1, ll_2_2, ll_2_3, ll_2_4, ll_2_5, ll_2_6, ll_3_0, ll_3_1, ll_3_2, ll_3_3, ll_3_4, ll_3_5, ll_3_6, ll_4_0, ll_4_1, ll_4_2, ll_4_3, ll_4_4, ll_4_5, ll_4_6, ll_5_0, ll_5_1, ll_5_2, ll_5_3, ll_5_4, ll_5_5, ll_5_6, ll_6_0, ll_6_1, ll_6_2, ll_6_3, ll_6_4, ll_6_5, ll_6_6, le_0_0, le_0_1, le_0_2, le_0_3, le_0_4, le_0_5, le_0_6, le_1_0, le_1_1, le_1_2, le_1_3, le_1_4, le_1_5, le_1_6, le_2_0, le_2_1, le_2_2, le_2_3, le_2_4, le_2_5, le_2_6, le_3_0, le_3_1, le_3_2, le_3_3, le_3_4, le_3_5, le_3_6, le_4_0, le_4_1, le_4_2, le_4_3, le_4_4, le_4_5, le_4_6, le_5_0, le_5_1, le_5_2, le_5_3, le_5_4, le_5_5, le_5_6, le_6_0, le_6_1, le_6_2, le_6_3, le_6_4, le_6_5, le_6_6, y_11]; exact hK
    simp only [e42]
    by_cases r1 : b = 40
    · simp only [u42_0, u42_1, u42_3, u42_6, u42_7, u42_9, u42_12, u42_13, u42_15, u42_18, u42_19, u42_21, u42_24, u42_25, u42_27, u42_30, u42_31, u42_33, u42_36, u42_37, u42_39, u42_42, u42_43, u42_45, q_push_s, q_push_n, q_sm_0, q_sm_i, q_sm_r, q_sm_n, q_sm_l, q_c1_0, q_c1_i, q_c1_r, q_c1_n, Nat.zero_add, Nat.reduceAdd, Nat.reduceMul, Nat.reduceSub, Nat.reduceLeDiff, Nat.reduceLT, Nat.reduceEqDiff, true_and, and_true, not_false_eq_true, if_true, if_false, ite_true, ite_false, or_true, true_or, or_false, false_or, not_true_eq_false, nq40, r1]; rw [r1] at go; exact go
    by_cases r2 : b = 41
    · simp only [u42_0, u42_1, u42_3, u42_6, u42_7, u42_9, u42_12, u42_13, u42_15, u42_18, u42_19, u42_21, u42_24, u42_25, u42_27, u42_30, u42_31, u42_33, u42_36, u42_37, u42_39, u42_42, u42_43, u42_45, q_push_s, q_push_n, q_sm_0, q_sm_i, q_sm_r, q_sm_n, q_sm_l, q_c1_0, q_c1_i, q_c1_r, q_c1_n, Nat.zero_add, Nat.reduceAdd, Nat.reduceMul, Nat.reduceSub, Nat.reduceLeDiff, Nat.reduceLT, Nat.reduceEqDiff, true_and, and_true, not_false_eq_true, if_true, if_false, ite_true, ite_false, or_true, true_or, or_false, false_or, not_true_eq_false, nq40, nq41, r1, r2]; rw [r2] at go; exact go
    by_cases r3 : b = 59
    · simp only [u42_0, u42_1, u42_3, u42_6, u42_7, u42_9, u42_12, u42_13, u42_15, u42_18, u42_19, u42_21, u42_24, u42_25, u42_27, u42_30, u42_31, u42_33, u42_36, u42_37, u42_39, u42_42, u42_43, u42_45, q_push_s, q_push_n, q_sm_0, q_sm_i, q_sm_r, q_sm_n, q_sm_l, q_c1_0, q_c1_i, q_c1_r, q_c1_n, Nat.zero_add, Nat.reduceAdd, Nat.reduceMul, Nat.reduceSub, Nat.reduceLeDiff, Nat.reduceLT, Nat.reduceEqDiff, true_and, and_true, not_false_eq_true, if_true, if_false, ite_true, ite_false, or_true, true_or, or_false, false_or, not_true_eq_false, nq40, nq41, nq59, r1, r2, r3]; rw [r3] at go; exact go
    by_cases r4 : b = 43
    · simp only [u42_0, u42_1, u42_3, u42_6, u42_7, u42_9, u42_12, u42_13, u42_15, u42_18, u42_19, u42_21, u42_24, u42_25, u42_27, u42_30, u42_31, u42_33, u42_36, u42_37, u42_39, u42_42, u42_43, u42_45, q_push_s, q_push_n, q_sm_0, q_sm_i, q_sm_r, q_sm_n, q_sm_l, q_c1_0, q_c1_i, q_c1_r, q_c1_n, Nat.zero_add, Nat.reduceAdd, Nat.reduceMul, Nat.reduceSub, Nat.reduceLeDiff, Nat.reduceLT, Nat.reduceEqDiff, true_and, and_true, not_false_eq_true, if_true, if_false, ite_true, ite_false, or_true, true_or, or_false, false_or, not_true_eq_false, nq40, nq41, nq59, nq43, r1, r2, r3, r4]; rw [r4] at go; exact go
    by_cases r5 : b = 45
    · simp only [u42_0, u42_1, u42_3, u42_6, u42_7, u42_9, u42_12, u42_13, u42_15, u42_18, u42_19, u42_21, u42_24, u42_25, u42_27, u42_30, u42_31, u42_33, u42_36, u42_37, u42_39, u42_42, u42_43, u42_45, q_push_s, q_push_n, q_sm_0, q_sm_i, q_sm_r, q_sm_n, q_sm_l, q_c1_0, q_c1_i, q_c1_r, q_c1_n, Nat.zero_add, Nat.reduceAdd, Nat.reduceMul, Nat.reduceSub, Nat.reduceLeDiff, Nat.reduceLT, Nat.reduceEqDiff, true_and, and_true, not_false_eq_true, if_true, if_false, ite_true, ite_false, or_true, true_or, or_false, false_or, not_true_eq_false, nq40, nq41, nq59, nq43, nq45, r1, r2, r3, r4, r5]; rw [r5] at go; exact go
    by_cases r6 : b = 42
    · simp only [u42_0, u42_1, u42_3, u42_6, u42_7, u42_9, u42_12, u42_13, u42_15, u42_18, u42_19, u42_21, u42_24, u42_25, u42_27, u42_30, u42_31, u42_33, u42_36, u42_37, u42_39, u42_42, u42_43, u42_45, q_push_s, q_push_n, q_sm_0, q_sm_i, q_sm_r, q_sm_n, q_sm_l, q_c1_0, q_c1_i, q_c1_r, q_c1_n, Nat.zero_add, Nat.reduceAdd, Nat.reduceMul, Nat.reduceSub, Nat.reduceLeDiff, Nat.reduceLT, Nat.reduceEqDiff, true_and, and_true, not_false_eq_true, if_true, if_false, ite_true, ite_false, or_true, true_or, or_false, false_or, not_true_eq_false, nq40, nq41, nq59, nq43, nq45, nq42, r1, r2, r3, r4, r5, r6]; rw [r6] at go; exact go
    by_cases r7 : b = 60
    · simp only [u42_0, u42_1, u42_3, u42_6, u42_7, u42_9, u42_12, u42_13, u42_15, u42_18, u42_19, u42_21, u42_24, u42_25, u42_27, u42_30, u42_31, u42_33, u42_36, u42_37, u42_39, u42_42, u42_43, u42_45, q_push_s, q_push_n, q_sm_0, q_sm_i, q_sm_r, q_sm_n, q_sm_l, q_c1_0, q_c1_i, q_c1_r, q_c1_n, Nat.zero_add, Nat.reduceAdd, Nat.reduceMul, Nat.reduceSub, Nat.reduceLeDiff, Nat.reduceLT, Nat.reduceEqDiff, true_and, and_true, not_false_eq_true, if_true, if_false, ite_true, ite_false, or_true, true_or, or_false, false_or, not_true_eq_false, nq40, nq41, nq59, nq43, nq45, nq42, nq60, r1, r2, r3, r4, r5, r6, r7]; rw [r7] at go; exact go
    have r8 : b = 61 := by omega
    simp only [u42_0, u42_1, u42_3, u42_6, u42_7, u42_9, u42_12, u42_13, u42_15, u42_18, u42_19, u42_21, u42_24, u42_25, u42_27, u42_30, u42_31, u42_33, u42_36, u42_37, u42_39, u42_42, u42_43, u42_45, q_push_s, q_push_n, q_sm_0, q_sm_i, q_sm_r, q_sm_n, q_sm_l, q_c1_0, q_c1_i, q_c1_r, q_c1_n, Nat.zero_add, Nat.reduceAdd, Nat.reduceMul, Nat.reduceSub, Nat.reduceLeDiff, Nat.reduceLT, Nat.reduceEqDiff, true_and, and_true, not_false_eq_true, if_true, if_false, ite_true, ite_false, or_true, true_or, or_false, false_or, not_true_eq_false, nq40, nq41, nq59, nq43, nq45, nq42, nq60, nq61, r1, r2, r3, r4, r5, r6, r7, r8]; rw [r8] at go; exact go
  · have e : ¬ y_sig b = true := by rw [q]; decide
    rw [z_b_0 e] at hK
    simp only [e42, e42, u42_0, u42_1, u42_3, u42_6, u42_7, u42_9, u42_12, u42_13, u42_15, u42_18, u42_19, u42_21, u42_24, u42_25, u42_27, u42_30, u42_31, u42_33, u42_36, u42_37, u42_39, u42_42, u42_43, u42_45, u42_48, u42_49, u42_52, u42_53, q_push_s, q_push_n, q_sm_0, q_sm_i, q_sm_r, q_sm_n, q_sm_l, q_c1_0, q_c1_i, q_c1_r, q_c1_n, Nat.zero_add, Nat.reduceAdd, Nat.reduceMul, Nat.reduceSub, Nat.reduceLeDiff, Nat.reduceLT, Nat.reduceEqDiff, true_and, and_true, not_false_eq_true, if_true, if_false, ite_true, ite_false, or_true, true_or, or_false, false_or, not_true_eq_false, eq_self, lq_0_1, lq_0_2, lq_0_3, lq_0_4, lq_0_5, lq_0_6, lq_1_0, lq_1_2, lq_1_3, lq_1_4, lq_1_5, lq_1_6, lq_2_0, lq_2_1, lq_2_3, lq_2_4, lq_2_5, lq_2_6, lq_3_0, lq_3_1, lq_3_2, lq_3_4, lq_3_5, lq_3_6, lq_4_0, lq_4_1, lq_4_2, lq_4_3, lq_4_5, lq_4_6, lq_5_0, lq_5_1, lq_5_2, lq_5_3, lq_5_4, lq_5_6, lq_6_0, lq_6_1, lq_6_2, lq_6_3, lq_6_4, lq_6_5, ll_0_0, ll_0_1, ll_0_2, ll_0_3, ll_0_4, ll_0_5, ll_0_6, ll_1_0, ll_1_1, ll_1_2, ll_1_3, ll_1_4, ll_1_5, ll_1_6, ll_2_0, ll_2_1, ll_2_2, ll_2_3, ll_2_4, ll_2_5, ll_2_6, ll_3_0, ll_3_1, ll_3_2, ll_3_3, ll_3_4, ll_3_5, ll_3_6, ll_4_0, ll_4_1, ll_4_2, ll_4_3, ll_4_4, ll_4_5, ll_4_6, ll_5_0, ll_5_1, ll_5_2, ll_5_3, ll_5_4, ll_5_5, ll_5_6, ll_6_0, ll_6_1, ll_6_2, ll_6_3, ll_6_4, ll_6_5, ll_6_6, le_0_0, le_0_1, le_0_2, le_0_3, le_0_4, le_0_5, le_0_6, le_1_0, le_1_1, le_1_2, le_1_3, le_1_4, le_1_5, le_1_6, le_2_0, le_2_1, le_2_2, le_2_3, le_2_4, le_2_5, le_2_6, le_3_0, le_3_1, le_3_2, le_3_3, le_3_4, le_3_5, le_3_6, le_4_0, le_4_1, le_4_2, le_4_3, le_4_4, le_4_5, le_4_6, le_5_0, le_5_1, le_5_2, le_5_3, le_5_4, le_5_5, le_5_6, le_6_0, le_6_1, le_6_2, le_6_3, le_6_4, le_6_5, le_6_6, nq40, nq41, nq59, nq43, nq45, nq42, nq60, nq61, q1, q2, q3, q4, q5, q6, q7, q8, y_00]
    exact hK
/-- what the class's advance changes -/
def YF (m m' : q_M) : Prop := (∀ p, p ≠ 26 → m' p = m p) ∧ ∀ f, ¬ (4 ≤ f ∧ f ≤ 7) → m' 26 f = m 26 f
theorem YF.refl (m : q_M) : YF m m := ⟨fun _ _ => rfl, fun _ _ => rfl⟩
theorem YF.trans {a b c : q_M} (h : YF a b) (h' : YF b c) : YF a c := ⟨fun p hp => (h'.1 p hp).trans (h.1 p hp), fun f hf => (h'.2 f hf).trans (h.2 f hf)⟩
theorem YF.up (m : q_M) {f : Nat} (v : Int32) (hf : 4 ≤ f ∧ f ≤ 7) : YF m (q_up m 26 f v) := ⟨fun p hp => by rw [q_up_f _ _ _ hp], fun f' hf' => q_up_i _ _ (by intro e; rw [e] at hf'; exact hf' hf) _⟩
theorem y_C.fr {m m' : q_M} (h : y_C tp z m) (f : YF m m') : y_C tp z m' := by
  obtain ⟨h1, h2, h3⟩ := h
  exact ⟨h1, by rw [f.2 1 (by omega)]; exact h2, fun i hi => by rw [f.1 27 (by decide)]; exact h3 i hi⟩
theorem l_numC (hz : z ≤ 160) {b e : Nat} (he : e ≤ z) (hg : ∀ x, b ≤ x → x < e → y_dig (tp x) = true) (d : Nat) : ∀ n i m, b ≤ i → i + n = e → y_C tp z m → m 26 6 = nI e → m 26 7 = nI (y_val tp b (i - b)) → (∀ m', YF m m' → m' 26 4 = m 26 4 → m' 26 5 = m 26 5 → m' 26 6 = m 26 6 → m' 26 7 = nI (y_val tp b (e - b)) → K (some (.int (nI 2))) (GG T L) m') →
    q_R 36 25 (d + 1) [some (.ref 26), some (.int (nI i))] [] (GG T L) m K
  | 0, i, m, hb, hn, ht, e6, e7, hK => by
    have ei : i = e := by omega
    subst ei
    rw [u36_25]
    simp only [u36_26, u36_27, u36_30, u36_62, u36_63, q_push_s, q_push_n, q_sm_0, q_sm_i, q_sm_r, q_sm_n, q_sm_l, q_c1_0, q_c1_i, q_c1_r, q_c1_n, Nat.zero_add, Nat.reduceAdd, Nat.reduceMul, Nat.reduceSub, Nat.reduceLeDiff, Nat.reduceLT, Nat.reduceEqDiff, true_and, and_true, not_false_eq_true, if_true, if_false, ite_true, ite_false, or_true, true_or, or_false, false_or, not_true_eq_false, gf26_6, e6, n_lt (i := i) (j := i) (by omega) (by omega), Nat.lt_irrefl]
    exact hK m (YF.refl m) rfl rfl rfl e7
  | n + 1, i, m, hb, hn, ht, e6, e7, hK => by
    have hi : i < e := by omega
    obtain ⟨t1, t2, t3⟩ := ht
    obtain ⟨t4, t5⟩ := t3 i (by omega)
    have a48 : 48 ≤ tp i := (of_decide_eq_true (hg i hb hi)).1
    have ev : nI (y_val tp b (i - b)) * nI 10 + nI (tp i) - nI 48 = nI (y_val tp b (i - b + 1)) := by
      rw [n_mul, n_add, n_sub (by omega), y_val_s, show b + (i - b) = i by omega, Nat.mul_comm, Nat.add_sub_assoc a48]
    rw [u36_25]
    simp only [u36_26, u36_27, u36_30, u36_33, u36_34, u36_35, u36_38, u36_40, u36_41, u36_42, u36_45, u36_46, u36_49, u36_50, u36_52, u36_53, u36_56, u36_59, q_push_s, q_push_n, q_sm_0, q_sm_i, q_sm_r, q_sm_n, q_sm_l, q_c1_0, q_c1_i, q_c1_r, q_c1_n, Nat.zero_add, Nat.reduceAdd, Nat.reduceMul, Nat.reduceSub, Nat.reduceLeDiff, Nat.reduceLT, Nat.reduceEqDiff, true_and, and_true, not_false_eq_true, if_true, if_false, ite_true, ite_false, or_true, true_or, or_false, false_or, not_true_eq_false, gf26_0, gf26_6, gf26_7, pf26_7, e6, e7, n_lt (i := i) (j := e) (by omega) (by omega), hi, c_at (j := i) sh27 (by decide) (by decide) (show i < 160 by omega), t5, ev, n_add]
    have f1 : YF m (q_up m 26 7 (nI (y_val tp b (i - b + 1)))) := YF.up m _ (by decide)
    refine l_numC hz he hg d n (i + 1) _ (by omega) (by omega) (y_C.fr ⟨t1, t2, t3⟩ f1) (by rw [q_up_i _ _ (by decide)]; exact e6) (by rw [q_up_eq, show i + 1 - b = i - b + 1 by omega]) (fun m' f2 a4 a5 a6 a7 => hK m' (f1.trans f2) ?_ ?_ ?_ a7)
    · rw [a4, q_up_i _ _ (by decide)]
    · rw [a5, q_up_i _ _ (by decide)]
    · rw [a6, q_up_i _ _ (by decide)]
theorem c_number {b e : Nat} (ht : y_C tp z m) (he : e ≤ z) (hb : b ≤ e) (hg : ∀ x, b ≤ x → x < e → y_dig (tp x) = true) (e5 : m 26 5 = nI b) (e6 : m 26 6 = nI e) (hK : ∀ m', YF m m' → m' 26 4 = m 26 4 → m' 26 5 = m 26 5 → m' 26 6 = m 26 6 → (e - b ≤ 4 → m' 26 7 = nI (y_val tp b (e - b))) → K (some (.int (nI (if e - b ≤ 4 then 2 else 1)))) (GG T L) m') :
    q_C 36 (d + 1) [.ref 26] (GG T L) m K := by
  have h4 := n_le (i := e - b) (j := 4) (by have := ht.1; omega) (by decide)
  by_cases q : e - b ≤ 4
  · have e5' : q_up m 26 7 (nI 0) 26 5 = nI b := by rw [q_up_i _ _ (by decide)]; exact e5
    simp only [e36, u36_0, u36_1, u36_4, u36_5, u36_8, u36_9, u36_10, u36_13, u36_14, u36_15, u36_16, u36_17, u36_20, u36_21, u36_24, q_push_s, q_push_n, q_sm_0, q_sm_i, q_sm_r, q_sm_n, q_sm_l, q_c1_0, q_c1_i, q_c1_r, q_c1_n, Nat.zero_add, Nat.reduceAdd, Nat.reduceMul, Nat.reduceSub, Nat.reduceLeDiff, Nat.reduceLT, Nat.reduceEqDiff, true_and, and_true, not_false_eq_true, if_true, if_false, ite_true, ite_false, or_true, true_or, or_false, false_or, not_true_eq_false, gf26_5, gf26_6, pf26_7, e5, e6, e5', n_sub hb, h4, q]
    have f1 : YF m (q_up m 26 7 (nI 0)) := YF.up m _ (by decide)
    refine l_numC ht.1 he hg d (e - b) b _ (Nat.le_refl _) (by omega) (ht.fr f1) (by rw [q_up_i _ _ (by decide)]; exact e6) (by rw [q_up_eq, Nat.sub_self]; rfl) (fun m' f2 a4 a5 a6 a7 => ?_)
    rw [if_pos q] at hK
    refine hK m' (f1.trans f2) ?_ ?_ ?_ (fun _ => a7)
    · rw [a4, q_up_i _ _ (by decide)]
    · rw [a5, q_up_i _ _ (by decide)]
    · rw [a6, q_up_i _ _ (by decide)]
  · simp only [e36, u36_0, u36_1, u36_4, u36_5, u36_8, u36_9, u36_10, u36_13, u36_14, q_push_s, q_push_n, q_sm_0, q_sm_i, q_sm_r, q_sm_n, q_sm_l, q_c1_0, q_c1_i, q_c1_r, q_c1_n, Nat.zero_add, Nat.reduceAdd, Nat.reduceMul, Nat.reduceSub, Nat.reduceLeDiff, Nat.reduceLT, Nat.reduceEqDiff, true_and, and_true, not_false_eq_true, if_true, if_false, ite_true, ite_false, or_true, true_or, or_false, false_or, not_true_eq_false, gf26_5, gf26_6, e5, e6, n_sub hb, h4, q]
    rw [if_neg q] at hK
    exact hK m (YF.refl m) rfl rfl rfl (fun h => absurd h q)
theorem l_blankC (d : Nat) : ∀ n i, i + n = z → y_C tp z m → q_R 35 33 (d + 1) [some (.ref 26), some (.int (nI (y_sk y_blk tp z i)))] [] (GG T L) m K →
    q_R 35 5 (d + 1) [some (.ref 26), some (.int (nI i))] [] (GG T L) m K
  | 0, i, hn, ht, hK => by
    obtain ⟨t1, t2, t3⟩ := ht
    have ei : i = z := by omega
    subst ei
    rw [u35_5]
    simp only [u35_6, u35_7, u35_10, q_push_s, q_push_n, q_sm_0, q_sm_i, q_sm_r, q_sm_n, q_sm_l, q_c1_0, q_c1_i, q_c1_r, q_c1_n, Nat.zero_add, Nat.reduceAdd, Nat.reduceMul, Nat.reduceSub, Nat.reduceLeDiff, Nat.reduceLT, Nat.reduceEqDiff, true_and, and_true, not_false_eq_true, if_true, if_false, ite_true, ite_false, or_true, true_or, or_false, false_or, not_true_eq_false, gf26_1, t2, n_lt (i := i) (j := i) (by omega) (by omega), Nat.lt_irrefl]
    rw [y_sk_end (by omega)] at hK
    exact hK
  | n + 1, i, hn, ht, hK => by
    have hi : i < z := by omega
    obtain ⟨t1, t2, t3⟩ := ht
    obtain ⟨t4, t5⟩ := t3 i hi
    rw [u35_5]
    by_cases a : y_blk (tp i) = true
    · simp only [u35_6, u35_7, u35_10, u35_13, u35_14, u35_17, u35_18, u35_21, u35_24, u35_27, u35_30, q_push_s, q_push_n, q_sm_0, q_sm_i, q_sm_r, q_sm_n, q_sm_l, q_c1_0, q_c1_i, q_c1_r, q_c1_n, Nat.zero_add, Nat.reduceAdd, Nat.reduceMul, Nat.reduceSub, Nat.reduceLeDiff, Nat.reduceLT, Nat.reduceEqDiff, true_and, and_true, not_false_eq_true, if_true, if_false, ite_true, ite_false, or_true, true_or, or_false, false_or, not_true_eq_false, gf26_1, gf26_0, t2, n_lt (i := i) (j := z) (by omega) (by omega), hi, c_at (j := i) sh27 (by decide) (by decide) (show i < 160 by omega), t5, c_isBlank t4, z_b_z, a, n_add]
      rw [y_sk_go hi a] at hK
      exact l_blankC d n (i + 1) (by omega) ⟨t1, t2, t3⟩ hK
    · simp only [u35_6, u35_7, u35_10, u35_13, u35_14, u35_17, u35_18, u35_21, u35_24, q_push_s, q_push_n, q_sm_0, q_sm_i, q_sm_r, q_sm_n, q_sm_l, q_c1_0, q_c1_i, q_c1_r, q_c1_n, Nat.zero_add, Nat.reduceAdd, Nat.reduceMul, Nat.reduceSub, Nat.reduceLeDiff, Nat.reduceLT, Nat.reduceEqDiff, true_and, and_true, not_false_eq_true, if_true, if_false, ite_true, ite_false, or_true, true_or, or_false, false_or, not_true_eq_false, gf26_1, gf26_0, t2, n_lt (i := i) (j := z) (by omega) (by omega), hi, c_at (j := i) sh27 (by decide) (by decide) (show i < 160 by omega), t5, c_isBlank t4, z_b_z, a, n_add]
      rw [y_sk_no hi a] at hK
      exact hK
theorem l_letC (d : Nat) : ∀ n i, i + n = z → y_C tp z m → q_R 35 104 (d + 1) [some (.ref 26), some (.int (nI (y_sk y_let tp z i)))] [] (GG T L) m K →
    q_R 35 76 (d + 1) [some (.ref 26), some (.int (nI i))] [] (GG T L) m K
  | 0, i, hn, ht, hK => by
    obtain ⟨t1, t2, t3⟩ := ht
    have ei : i = z := by omega
    subst ei
    rw [u35_76]
    simp only [u35_77, u35_78, u35_81, q_push_s, q_push_n, q_sm_0, q_sm_i, q_sm_r, q_sm_n, q_sm_l, q_c1_0, q_c1_i, q_c1_r, q_c1_n, Nat.zero_add, Nat.reduceAdd, Nat.reduceMul, Nat.reduceSub, Nat.reduceLeDiff, Nat.reduceLT, Nat.reduceEqDiff, true_and, and_true, not_false_eq_true, if_true, if_false, ite_true, ite_false, or_true, true_or, or_false, false_or, not_true_eq_false, gf26_1, t2, n_lt (i := i) (j := i) (by omega) (by omega), Nat.lt_irrefl]
    rw [y_sk_end (by omega)] at hK
    exact hK
  | n + 1, i, hn, ht, hK => by
    have hi : i < z := by omega
    obtain ⟨t1, t2, t3⟩ := ht
    obtain ⟨t4, t5⟩ := t3 i hi
    rw [u35_76]
    by_cases a : y_let (tp i) = true
    · simp only [u35_77, u35_78, u35_81, u35_84, u35_85, u35_88, u35_89, u35_92, u35_95, u35_98, u35_101, q_push_s, q_push_n, q_sm_0, q_sm_i, q_sm_r, q_sm_n, q_sm_l, q_c1_0, q_c1_i, q_c1_r, q_c1_n, Nat.zero_add, Nat.reduceAdd, Nat.reduceMul, Nat.reduceSub, Nat.reduceLeDiff, Nat.reduceLT, Nat.reduceEqDiff, true_and, and_true, not_false_eq_true, if_true, if_false, ite_true, ite_false, or_true, true_or, or_false, false_or, not_true_eq_false, gf26_1, gf26_0, t2, n_lt (i := i) (j := z) (by omega) (by omega), hi, c_at (j := i) sh27 (by decide) (by decide) (show i < 160 by omega), t5, c_isLetter t4, z_b_z, a, n_add]
      rw [y_sk_go hi a] at hK
      exact l_letC d n (i + 1) (by omega) ⟨t1, t2, t3⟩ hK
    · simp only [u35_77, u35_78, u35_81, u35_84, u35_85, u35_88, u35_89, u35_92, u35_95, q_push_s, q_push_n, q_sm_0, q_sm_i, q_sm_r, q_sm_n, q_sm_l, q_c1_0, q_c1_i, q_c1_r, q_c1_n, Nat.zero_add, Nat.reduceAdd, Nat.reduceMul, Nat.reduceSub, Nat.reduceLeDiff, Nat.reduceLT, Nat.reduceEqDiff, true_and, and_true, not_false_eq_true, if_true, if_false, ite_true, ite_false, or_true, true_or, or_false, false_or, not_true_eq_false, gf26_1, gf26_0, t2, n_lt (i := i) (j := z) (by omega) (by omega), hi, c_at (j := i) sh27 (by decide) (by decide) (show i < 160 by omega), t5, c_isLetter t4, z_b_z, a, n_add]
      rw [y_sk_no hi a] at hK
      exact hK
theorem l_digC (d : Nat) : ∀ n i, i + n = z → y_C tp z m → q_R 35 162 (d + 1) [some (.ref 26), some (.int (nI (y_sk y_dig tp z i)))] [] (GG T L) m K →
    q_R 35 134 (d + 1) [some (.ref 26), some (.int (nI i))] [] (GG T L) m K
  | 0, i, hn, ht, hK => by
    obtain ⟨t1, t2, t3⟩ := ht
    have ei : i = z := by omega
    subst ei
    rw [u35_134]
    simp only [u35_135, u35_136, u35_139, q_push_s, q_push_n, q_sm_0, q_sm_i, q_sm_r, q_sm_n, q_sm_l, q_c1_0, q_c1_i, q_c1_r, q_c1_n, Nat.zero_add, Nat.reduceAdd, Nat.reduceMul, Nat.reduceSub, Nat.reduceLeDiff, Nat.reduceLT, Nat.reduceEqDiff, true_and, and_true, not_false_eq_true, if_true, if_false, ite_true, ite_false, or_true, true_or, or_false, false_or, not_true_eq_false, gf26_1, t2, n_lt (i := i) (j := i) (by omega) (by omega), Nat.lt_irrefl]
    rw [y_sk_end (by omega)] at hK
    exact hK
  | n + 1, i, hn, ht, hK => by
    have hi : i < z := by omega
    obtain ⟨t1, t2, t3⟩ := ht
    obtain ⟨t4, t5⟩ := t3 i hi
    rw [u35_134]
    by_cases a : y_dig (tp i) = true
    · simp only [u35_135, u35_136, u35_139, u35_142, u35_143, u35_146, u35_147, u35_150, u35_153, u35_156, u35_159, q_push_s, q_push_n, q_sm_0, q_sm_i, q_sm_r, q_sm_n, q_sm_l, q_c1_0, q_c1_i, q_c1_r, q_c1_n, Nat.zero_add, Nat.reduceAdd, Nat.reduceMul, Nat.reduceSub, Nat.reduceLeDiff, Nat.reduceLT, Nat.reduceEqDiff, true_and, and_true, not_false_eq_true, if_true, if_false, ite_true, ite_false, or_true, true_or, or_false, false_or, not_true_eq_false, gf26_1, gf26_0, t2, n_lt (i := i) (j := z) (by omega) (by omega), hi, c_at (j := i) sh27 (by decide) (by decide) (show i < 160 by omega), t5, c_isDigit t4, z_b_z, a, n_add]
      rw [y_sk_go hi a] at hK
      exact l_digC d n (i + 1) (by omega) ⟨t1, t2, t3⟩ hK
    · simp only [u35_135, u35_136, u35_139, u35_142, u35_143, u35_146, u35_147, u35_150, u35_153, q_push_s, q_push_n, q_sm_0, q_sm_i, q_sm_r, q_sm_n, q_sm_l, q_c1_0, q_c1_i, q_c1_r, q_c1_n, Nat.zero_add, Nat.reduceAdd, Nat.reduceMul, Nat.reduceSub, Nat.reduceLeDiff, Nat.reduceLT, Nat.reduceEqDiff, true_and, and_true, not_false_eq_true, if_true, if_false, ite_true, ite_false, or_true, true_or, or_false, false_or, not_true_eq_false, gf26_1, gf26_0, t2, n_lt (i := i) (j := z) (by omega) (by omega), hi, c_at (j := i) sh27 (by decide) (by decide) (show i < 160 by omega), t5, c_isDigit t4, z_b_z, a, n_add]
      rw [y_sk_no hi a] at hK
      exact hK
/-- the class's token -/
def y_ct (t v : Nat) : Nat := if t = 7 then 1 else if t = 1 then 2 else if t = 2 then 3 else if t = 3 then 4 + v else if t = 4 ∨ t = 5 ∨ t = 6 then t + 3 else t
theorem c_advance {p : Nat} (hT : T.length ≤ 5) (hx : ∀ k, 900 ≤ k → m k = q_xm xs k) (hp : p ≤ z) (ht : y_C tp z m) (ha : m 26 6 = nI p) (hK : ∀ m', YF m m' → m' 26 6 = nI (y_te tp z p) → m' 26 5 = nI (y_tb tp z p) → m' 26 4 = nI (y_ct (y_tt tp z p) (y_tv tp z p)) → (y_tt tp z p = 1 → m' 26 7 = nI (y_tv tp z p)) → (y_tt tp z p = 2 → m' 26 7 = -(nI (y_tv tp z p + 1))) → K none (GG T L) m') :
    q_C 35 (d + 7) [.ref 26] (GG T L) m K := by
  simp only [e35, u35_0, u35_1, u35_4, q_push_s, q_push_n, q_sm_0, q_sm_i, q_sm_r, q_sm_n, q_sm_l, q_c1_0, q_c1_i, q_c1_r, q_c1_n, Nat.zero_add, Nat.reduceAdd, Nat.reduceMul, Nat.reduceSub, Nat.reduceLeDiff, Nat.reduceLT, Nat.reduceEqDiff, true_and, and_true, not_false_eq_true, if_true, if_false, ite_true, ite_false, or_true, true_or, or_false, false_or, not_true_eq_false, gf26_6, ha]
  refine l_blankC (d + 6) (z - p) p (by omega) ht ?_
  have hb := (y_tb_le (tp := tp) (z := z) (p := p)).2 hp
  obtain ⟨g1, g2, g3⟩ := y_te_le (tp := tp) (z := z) hp
  have hz : z ≤ 160 := ht.1
  have t2 : m 26 1 = nI z := ht.2.1
  have e5 : ∀ v, q_up m 26 5 v 26 1 = nI z := fun v => by rw [q_up_i _ _ (by decide)]; exact t2
  show q_R 35 33 (d + 6 + 1) [some (.ref 26), some (.int (nI (y_tb tp z p)))] [] (GG T L) m K
  have f1 : YF m (q_up m 26 5 (nI (y_tb tp z p))) := YF.up m _ (by decide)
  have ht1 := ht.fr f1
  by_cases h : y_tb tp z p < z
  · obtain ⟨b1, b2⟩ := ht1.2.2 _ h
    have hat := fun K d => c_at (T := T) (L := L) (d := d) (m := q_up m 26 5 (nI (y_tb tp z p))) (K := K) (j := y_tb tp z p) sh27 (by decide) (by decide) (show y_tb tp z p < 160 by omega)
    by_cases hl : y_let (tp (y_tb tp z p)) = true
    · simp only [u35_33, u35_34, u35_35, u35_38, u35_39, u35_40, u35_43, u35_46, u35_47, u35_48, u35_51, u35_54, u35_55, u35_56, u35_59, u35_62, u35_63, u35_66, u35_67, u35_70, u35_73, q_push_s, q_push_n, q_sm_0, q_sm_i, q_sm_r, q_sm_n, q_sm_l, q_c1_0, q_c1_i, q_c1_r, q_c1_n, Nat.zero_add, Nat.reduceAdd, Nat.reduceMul, Nat.reduceSub, Nat.reduceLeDiff, Nat.reduceLT, Nat.reduceEqDiff, true_and, and_true, not_false_eq_true, if_true, if_false, ite_true, ite_false, or_true, true_or, or_false, false_or, not_true_eq_false, gf26_1, gf26_0, pf26_5, e5, n_lt (i := y_tb tp z p) (j := z) (by omega) (by omega), h, hat, b2, c_isLetter b1, hl, z_b_z]
      refine l_letC (d + 6) (z - y_tb tp z p) (y_tb tp z p) (by omega) ht1 ?_
      have hsk := (y_sk_le (pr := y_let) (tp := tp) (z := z) _ (y_tb tp z p) rfl).2.2
      rw [← y_te_l h hl] at hsk ⊢
      simp only [u35_104, u35_105, u35_106, u35_109, u35_110, u35_111, q_push_s, q_push_n, q_sm_0, q_sm_i, q_sm_r, q_sm_n, q_sm_l, q_c1_0, q_c1_i, q_c1_r, q_c1_n, Nat.zero_add, Nat.reduceAdd, Nat.reduceMul, Nat.reduceSub, Nat.reduceLeDiff, Nat.reduceLT, Nat.reduceEqDiff, true_and, and_true, not_false_eq_true, if_true, if_false, ite_true, ite_false, or_true, true_or, or_false, false_or, not_true_eq_false, io26, pf26_6]
      have f2 : YF m (q_up (q_up m 26 5 (nI (y_tb tp z p))) 26 6 (nI (y_te tp z p))) := f1.trans (YF.up _ _ (by decide))
      have wle := y_wn_le (tp := tp) (y_tb tp z p) (y_te tp z p)
      refine c_word (b := y_tb tp z p) (e := y_te tp z p) (tp := tp) (z := z) (xs := xs) ⟨hT, fun k hk => by rw [f2.1 k (by omega)]; exact hx k hk, ht.fr f2, g1, g2, hsk, by rw [q_up_i _ _ (by decide), q_up_eq], q_up_eq _ _ _ _⟩ ?_
      have f3 : YF m (q_up (y_cm (y_wn tp (y_tb tp z p) (y_te tp z p)) (q_up (q_up m 26 5 (nI (y_tb tp z p))) 26 6 (nI (y_te tp z p)))) 26 4 (nI (y_cw (y_wn tp (y_tb tp z p) (y_te tp z p))))) := by
        refine f2.trans (YF.trans (b := y_cm (y_wn tp (y_tb tp z p) (y_te tp z p)) (q_up (q_up m 26 5 (nI (y_tb tp z p))) 26 6 (nI (y_te tp z p)))) ?_ (YF.up _ _ (by decide)))
        unfold y_cm
        split
        · exact YF.up _ _ (by decide)
        · exact YF.refl _
      have hc : ∀ f, f ≠ 7 → y_cm (y_wn tp (y_tb tp z p) (y_te tp z p)) (q_up (q_up m 26 5 (nI (y_tb tp z p))) 26 6 (nI (y_te tp z p))) 26 f = (q_up (q_up m 26 5 (nI (y_tb tp z p))) 26 6 (nI (y_te tp z p))) 26 f := fun f hf => by
        unfold y_cm
        split
        · rw [q_up_i _ _ hf]
        · rfl
      simp only [u35_114, u35_117, u35_215, q_push_s, q_push_n, q_sm_0, q_sm_i, q_sm_r, q_sm_n, q_sm_l, q_c1_0, q_c1_i, q_c1_r, q_c1_n, Nat.zero_add, Nat.reduceAdd, Nat.reduceMul, Nat.reduceSub, Nat.reduceLeDiff, Nat.reduceLT, Nat.reduceEqDiff, true_and, and_true, not_false_eq_true, if_true, if_false, ite_true, ite_false, or_true, true_or, or_false, false_or, not_true_eq_false, pf26_4]
      have ett : y_tt tp z p = if y_wn tp (y_tb tp z p) (y_te tp z p) < 3 then 3 else if y_wn tp (y_tb tp z p) (y_te tp z p) < 9 then 2 else if y_wn tp (y_tb tp z p) (y_te tp z p) = 12 then 7 else y_wn tp (y_tb tp z p) (y_te tp z p) - 5 := by unfold y_tt; rw [if_pos h, if_pos hl]
      have etv : y_tv tp z p = if y_wn tp (y_tb tp z p) (y_te tp z p) < 3 then y_wn tp (y_tb tp z p) (y_te tp z p) else y_wn tp (y_tb tp z p) (y_te tp z p) - 3 := by unfold y_tv; rw [if_pos hl]
      refine hK _ f3 ?_ ?_ ?_ (fun h => ?_) (fun h => ?_)
      · rw [q_up_i _ _ (by decide), hc 6 (by decide), q_up_eq]
      · rw [q_up_i _ _ (by decide), hc 5 (by decide), q_up_i _ _ (by decide), q_up_eq]
      · rw [q_up_eq, ett, etv]
        generalize y_wn tp (y_tb tp z p) (y_te tp z p) = w at wle
        congr 1
        unfold y_cw y_ct
        repeat' split
        all_goals omega
      · exfalso
        rw [ett] at h
        revert h
        repeat' split
        all_goals omega
      · rw [ett] at h
        generalize y_wn tp (y_tb tp z p) (y_te tp z p) = w at wle h etv
        have hw : 3 ≤ w ∧ w < 9 := by
          revert h
          repeat' split
          all_goals omega
        rw [q_up_i _ _ (by decide), etv]
        unfold y_cm
        rw [if_pos hw, q_up_eq, if_neg (by omega), show w - 3 + 1 = w - 2 by omega]
    · by_cases hd : y_dig (tp (y_tb tp z p)) = true
      · simp only [u35_33, u35_34, u35_35, u35_38, u35_39, u35_40, u35_43, u35_46, u35_47, u35_48, u35_51, u35_54, u35_55, u35_56, u35_59, u35_62, u35_63, u35_66, u35_67, u35_70, u35_73, u35_120, u35_121, u35_124, u35_125, u35_128, u35_131, q_push_s, q_push_n, q_sm_0, q_sm_i, q_sm_r, q_sm_n, q_sm_l, q_c1_0, q_c1_i, q_c1_r, q_c1_n, Nat.zero_add, Nat.reduceAdd, Nat.reduceMul, Nat.reduceSub, Nat.reduceLeDiff, Nat.reduceLT, Nat.reduceEqDiff, true_and, and_true, not_false_eq_true, if_true, if_false, ite_true, ite_false, or_true, true_or, or_false, false_or, not_true_eq_false, gf26_1, gf26_0, pf26_5, e5, n_lt (i := y_tb tp z p) (j := z) (by omega) (by omega), h, hat, b2, c_isLetter b1, c_isDigit b1, hl, hd, z_b_z]
        refine l_digC (d + 6) (z - y_tb tp z p) (y_tb tp z p) (by omega) ht1 ?_
        have hsk := (y_sk_le (pr := y_dig) (tp := tp) (z := z) _ (y_tb tp z p) rfl).2.2
        rw [← y_te_d h hl hd] at hsk ⊢
        simp only [u35_162, u35_163, u35_164, u35_167, u35_168, u35_169, q_push_s, q_push_n, q_sm_0, q_sm_i, q_sm_r, q_sm_n, q_sm_l, q_c1_0, q_c1_i, q_c1_r, q_c1_n, Nat.zero_add, Nat.reduceAdd, Nat.reduceMul, Nat.reduceSub, Nat.reduceLeDiff, Nat.reduceLT, Nat.reduceEqDiff, true_and, and_true, not_false_eq_true, if_true, if_false, ite_true, ite_false, or_true, true_or, or_false, false_or, not_true_eq_false, io26, pf26_6]
        have f2 : YF m (q_up (q_up m 26 5 (nI (y_tb tp z p))) 26 6 (nI (y_te tp z p))) := f1.trans (YF.up _ _ (by decide))
        have ett : y_tt tp z p = if y_te tp z p - y_tb tp z p ≤ 4 then 1 else 7 := by unfold y_tt; rw [if_pos h, if_neg hl, if_pos hd]
        have etv : y_tv tp z p = y_val tp (y_tb tp z p) (y_te tp z p - y_tb tp z p) := by unfold y_tv; rw [if_neg hl]
        refine c_number (d := d + 5) (b := y_tb tp z p) (e := y_te tp z p) (ht.fr f2) g1 g2 hsk (by rw [q_up_i _ _ (by decide), q_up_eq]) (q_up_eq _ _ _ _) (fun m3 f3 a4 a5 a6 a7 => ?_)
        simp only [u35_172, u35_175, u35_215, q_push_s, q_push_n, q_sm_0, q_sm_i, q_sm_r, q_sm_n, q_sm_l, q_c1_0, q_c1_i, q_c1_r, q_c1_n, Nat.zero_add, Nat.reduceAdd, Nat.reduceMul, Nat.reduceSub, Nat.reduceLeDiff, Nat.reduceLT, Nat.reduceEqDiff, true_and, and_true, not_false_eq_true, if_true, if_false, ite_true, ite_false, or_true, true_or, or_false, false_or, not_true_eq_false, pf26_4]
        refine hK _ ((f2.trans f3).trans (YF.up _ _ (by decide))) ?_ ?_ ?_ (fun h => ?_) (fun h => ?_)
        · rw [q_up_i _ _ (by decide), a6, q_up_eq]
        · rw [q_up_i _ _ (by decide), a5, q_up_i _ _ (by decide), q_up_eq]
        · rw [q_up_eq, ett]
          by_cases q : y_te tp z p - y_tb tp z p ≤ 4
          · rw [if_pos q, if_pos q]; rfl
          · rw [if_neg q, if_neg q]; rfl
        · rw [q_up_i _ _ (by decide), etv]
          refine a7 ?_
          rw [ett] at h
          by_cases q : y_te tp z p - y_tb tp z p ≤ 4
          · exact q
          · rw [if_neg q] at h; omega
        · exfalso
          rw [ett] at h
          split at h <;> omega
      · have e1 : y_te tp z p = y_tb tp z p + 1 := y_te_s h hl hd
        have f2 : YF m (q_up (q_up m 26 5 (nI (y_tb tp z p))) 26 6 (nI (y_tb tp z p + 1))) := f1.trans (YF.up _ _ (by decide))
        obtain ⟨b3, b4⟩ := (ht.fr f2).2.2 _ h
        have hat2 := fun K d => c_at (T := T) (L := L) (d := d) (m := q_up (q_up m 26 5 (nI (y_tb tp z p))) 26 6 (nI (y_tb tp z p + 1))) (K := K) (j := y_tb tp z p) sh27 (by decide) (by decide) (show y_tb tp z p < 160 by omega)
        have ett : y_tt tp z p = if y_sig (tp (y_tb tp z p)) = true then tp (y_tb tp z p) else 7 := by unfold y_tt; rw [if_pos h, if_neg hl, if_neg hd]
        simp only [u35_33, u35_34, u35_35, u35_38, u35_39, u35_40, u35_43, u35_46, u35_47, u35_48, u35_51, u35_54, u35_55, u35_56, u35_59, u35_62, u35_63, u35_66, u35_67, u35_70, u35_73, u35_120, u35_121, u35_124, u35_125, u35_128, u35_131, u35_178, u35_179, u35_180, u35_181, u35_182, u35_185, u35_186, u35_187, u35_190, u35_191, u35_194, q_push_s, q_push_n, q_sm_0, q_sm_i, q_sm_r, q_sm_n, q_sm_l, q_c1_0, q_c1_i, q_c1_r, q_c1_n, Nat.zero_add, Nat.reduceAdd, Nat.reduceMul, Nat.reduceSub, Nat.reduceLeDiff, Nat.reduceLT, Nat.reduceEqDiff, true_and, and_true, not_false_eq_true, if_true, if_false, ite_true, ite_false, or_true, true_or, or_false, false_or, not_true_eq_false, gf26_1, gf26_0, pf26_5, pf26_6, e5, n_lt (i := y_tb tp z p) (j := z) (by omega) (by omega), h, hat, hat2, b2, b4, c_isLetter b1, c_isDigit b1, hl, hd, z_b_z, n_add, Bool.false_eq_true]
        refine c_isSign b1 ?_
        by_cases q : y_sig (tp (y_tb tp z p)) = true
        · have q' := of_decide_eq_true q
          rw [if_pos q] at ett
          simp only [u35_197, u35_200, u35_201, u35_204, u35_205, u35_208, u35_211, u35_212, u35_215, q_push_s, q_push_n, q_sm_0, q_sm_i, q_sm_r, q_sm_n, q_sm_l, q_c1_0, q_c1_i, q_c1_r, q_c1_n, Nat.zero_add, Nat.reduceAdd, Nat.reduceMul, Nat.reduceSub, Nat.reduceLeDiff, Nat.reduceLT, Nat.reduceEqDiff, true_and, and_true, not_false_eq_true, if_true, if_false, ite_true, ite_false, or_true, true_or, or_false, false_or, not_true_eq_false, gf26_0, pf26_4, hat2, b4, q, z_b_z]
          refine hK _ (f2.trans (YF.up _ _ (by decide))) ?_ ?_ ?_ (fun h => ?_) (fun h => ?_)
          · rw [q_up_i _ _ (by decide), q_up_eq, e1]
          · rw [q_up_i _ _ (by decide), q_up_i _ _ (by decide), q_up_eq]
          · rw [q_up_eq, ett]
            unfold y_ct
            rw [if_neg (by omega), if_neg (by omega), if_neg (by omega), if_neg (by omega), if_neg (by omega)]
          · rw [ett] at h; omega
          · rw [ett] at h; omega
        · rw [if_neg q] at ett
          simp only [u35_197, u35_200, u35_201, u35_204, u35_205, u35_208, u35_211, u35_212, u35_215, q_push_s, q_push_n, q_sm_0, q_sm_i, q_sm_r, q_sm_n, q_sm_l, q_c1_0, q_c1_i, q_c1_r, q_c1_n, Nat.zero_add, Nat.reduceAdd, Nat.reduceMul, Nat.reduceSub, Nat.reduceLeDiff, Nat.reduceLT, Nat.reduceEqDiff, true_and, and_true, not_false_eq_true, if_true, if_false, ite_true, ite_false, or_true, true_or, or_false, false_or, not_true_eq_false, gf26_0, pf26_4, hat2, b4, q, z_b_z]
          refine hK _ (f2.trans (YF.up _ _ (by decide))) ?_ ?_ ?_ (fun h => ?_) (fun h => ?_)
          · rw [q_up_i _ _ (by decide), q_up_eq, e1]
          · rw [q_up_i _ _ (by decide), q_up_i _ _ (by decide), q_up_eq]
          · rw [q_up_eq, ett]; rfl
          · rw [ett] at h; omega
          · rw [ett] at h; omega
  · have h' : y_tb tp z p = z := by omega
    have et : y_tt tp z p = 0 := by unfold y_tt; rw [if_neg h]
    have e := y_te_0 h
    have e6 : q_up (q_up m 26 5 (nI (y_tb tp z p))) 26 6 (nI z) 26 1 = nI z := by rw [q_up_i _ _ (by decide)]; exact e5 _
    simp only [u35_33, u35_34, u35_35, u35_38, u35_39, u35_40, u35_43, u35_46, u35_47, u35_48, u35_51, u35_54, u35_55, u35_56, u35_59, u35_215, q_push_s, q_push_n, q_sm_0, q_sm_i, q_sm_r, q_sm_n, q_sm_l, q_c1_0, q_c1_i, q_c1_r, q_c1_n, Nat.zero_add, Nat.reduceAdd, Nat.reduceMul, Nat.reduceSub, Nat.reduceLeDiff, Nat.reduceLT, Nat.reduceEqDiff, true_and, and_true, not_false_eq_true, if_true, if_false, ite_true, ite_false, or_true, true_or, or_false, false_or, not_true_eq_false, gf26_1, pf26_5, pf26_6, pf26_4, e5, n_lt (i := y_tb tp z p) (j := z) (by omega) (by omega), h]
    refine hK _ ((f1.trans (YF.up _ _ (by decide))).trans (YF.up _ _ (by decide))) ?_ ?_ ?_ (fun h => ?_) (fun h => ?_)
    · rw [q_up_i _ _ (by decide), q_up_eq, e]
    · rw [q_up_i _ _ (by decide), q_up_i _ _ (by decide), q_up_eq]
    · rw [q_up_eq, et]; rfl
    · omega
    · omega
end
