/-! ===== rows that every walk uses ===== -/
theorem q_push_s (v : Value) (st : List Value) : q_push (some v) st = v :: st := rfl
theorem q_push_n (st : List Value) : q_push none st = st := rfl
theorem q_sm_0 : q_sm [] = 0 := rfl
theorem q_sm_i (x : Int32) (l : List Value) : q_sm (.int x :: l) = q_sm l + 1 := rfl
theorem q_sm_r (x : Nat) (l : List Value) : q_sm (.ref x :: l) = q_sm l + 1 := rfl
theorem q_sm_n (l : List Value) : q_sm (.null :: l) = q_sm l + 1 := rfl
theorem q_sm_l (x : Int64) (l : List Value) : q_sm (.long x :: l) = q_sm l + 2 := rfl
theorem q_c1_0 : (q_c1 none = true) = True := by simp [q_c1]
theorem q_c1_i (x : Int32) : (q_c1 (some (.int x)) = true) = True := by simp [q_c1]
theorem q_c1_r (x : Nat) : (q_c1 (some (.ref x)) = true) = True := by simp [q_c1]
theorem q_c1_n : (q_c1 (some .null) = true) = True := by simp [q_c1]
section
variable {T : List Nat} {L d : Nat} {m : q_M} {g : q_G} {K : Option Value → q_G → q_M → Prop}
theorem c_place (a b : Nat) : q_C 102 d [.int (nI a), .int (nI b)] g m K ↔ K (some (.int (nI (a * 6 + b)))) g m := by
  simp only [e102, u102_0, u102_1, u102_3, u102_4, u102_5, u102_6, q_push_s, q_push_n, q_sm_0, q_sm_i, q_sm_r, q_sm_n, q_sm_l, q_c1_0, q_c1_i, q_c1_r, q_c1_n, Nat.zero_add, Nat.reduceAdd, Nat.reduceMul, Nat.reduceSub, Nat.reduceLeDiff, Nat.reduceLT, Nat.reduceEqDiff, true_and, and_true, not_false_eq_true, if_true, if_false, ite_true, ite_false, or_true, true_or, or_false, false_or, not_true_eq_false, pk_mul, nI_add]
def q_bnd (v n : Int32) : Int32 := q_max (nI 0) (q_min n v)
theorem c_bounded (v n : Int32) : q_C 103 (d + 1) [.int v, .int n] g m K ↔ K (some (.int (q_bnd v n))) g m := by
  simp only [e103, u103_0, u103_1, u103_2, u103_3, u103_6, u103_9, q_push_s, q_push_n, q_sm_0, q_sm_i, q_sm_r, q_sm_n, q_sm_l, q_c1_0, q_c1_i, q_c1_r, q_c1_n, Nat.zero_add, Nat.reduceAdd, Nat.reduceMul, Nat.reduceSub, Nat.reduceLeDiff, Nat.reduceLT, Nat.reduceEqDiff, true_and, and_true, not_false_eq_true, if_true, if_false, ite_true, ite_false, or_true, true_or, or_false, false_or, not_true_eq_false]
  exact Iff.rfl
theorem c_at {k n j : Nat} (hs : (GG T L).1 k = .inl n) (hk : k < 930) (hn : n < 2 ^ 31) (hj : j < n) : q_C 100 d [.ref k, .int (nI j)] (GG T L) m K ↔ K (some (.int (m k j))) (GG T L) m := by
  have h1 : ¬ k = 950 := by omega
  have h2 : ¬ nI j < nI 0 := by
    rw [nI_0]
    exact nI_pos (by omega)
  have h3 : nI j < nI n := nI_lt hj hn
  simp only [e100, u100_0, u100_0n, u100_1n, u100_1, u100_4, u100_5, u100_8, u100_9, u100_9n, u100_10, u100_11, u100_14, u100_14n, u100_15, u100_16, u100_17, u100_20, u100_21, q_push_s, q_push_n, q_sm_0, q_sm_i, q_sm_r, q_sm_n, q_sm_l, q_c1_0, q_c1_i, q_c1_r, q_c1_n, Nat.zero_add, Nat.reduceAdd, Nat.reduceMul, Nat.reduceSub, Nat.reduceLeDiff, Nat.reduceLT, Nat.reduceEqDiff, true_and, and_true, not_false_eq_true, if_true, if_false, ite_true, ite_false, or_true, true_or, or_false, false_or, not_true_eq_false, h1, h2, h3, al_of hs, ia_of hs hk hn hj]
theorem c_put {k n j : Nat} {v : Int32} (hs : (GG T L).1 k = .inl n) (hk : k < 900) (hn : n < 2 ^ 31) (hj : j < n) : q_C 101 d [.ref k, .int (nI j), .int v] (GG T L) m K ↔ K none (GG T L) (q_up m k j v) := by
  have h1 : ¬ k = 950 := by omega
  have h2 : ¬ nI j < nI 0 := by
    rw [nI_0]
    exact nI_pos (by omega)
  have h3 : nI j < nI n := nI_lt hj hn
  have h4 : (nI j).toNatClampNeg = j := nI_clamp (by omega)
  simp only [e101, u101_0, u101_0n, u101_1n, u101_1, u101_4, u101_5, u101_8, u101_9, u101_9n, u101_10, u101_11, u101_14, u101_14n, u101_15, u101_16, u101_17, u101_18, q_push_s, q_push_n, q_sm_0, q_sm_i, q_sm_r, q_sm_n, q_sm_l, q_c1_0, q_c1_i, q_c1_r, q_c1_n, Nat.zero_add, Nat.reduceAdd, Nat.reduceMul, Nat.reduceSub, Nat.reduceLeDiff, Nat.reduceLT, Nat.reduceEqDiff, true_and, and_true, not_false_eq_true, if_true, if_false, ite_true, ite_false, or_true, true_or, or_false, false_or, not_true_eq_false, h1, h2, h3, al_of hs, is_of hs hk hn hj, h4]
end
