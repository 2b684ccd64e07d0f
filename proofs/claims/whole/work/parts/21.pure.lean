/-! ===== what needs no state ===== -/
/-- an int that is the number of one of n -/
def z_is (v : Int32) (n : Nat) : Prop := 0 ≤ v.toInt ∧ v.toInt < n
noncomputable def z_b (p : Prop) : Int32 := @ite Int32 p (Classical.propDecidable p) (nI 1) (nI 0)
theorem z_b_1 {p : Prop} (h : p) : z_b p = nI 1 := by unfold z_b; exact if_pos h
theorem z_b_0 {p : Prop} (h : ¬ p) : z_b p = nI 0 := by unfold z_b; exact if_neg h
theorem z_b_z (p : Prop) : (z_b p = nI 0) = ¬ p := by
  by_cases h : p
  · rw [z_b_1 h]; exact propext ⟨fun e => absurd e (by decide), fun e => absurd h e⟩
  · rw [z_b_0 h]; exact propext ⟨fun _ => h, fun _ => rfl⟩
theorem z_b_z0 (p : Prop) : (z_b p = 0) = ¬ p := z_b_z p
theorem z_b_t : z_b True = nI 1 := z_b_1 trivial
theorem z_b_f : z_b False = nI 0 := z_b_0 (fun h => h)
theorem z_b_of {p : Prop} {A : Int32 → Prop} (h1 : p → A (nI 1)) (h0 : ¬ p → A (nI 0)) : A (z_b p) := by
  by_cases h : p
  · rw [z_b_1 h]; exact h1 h
  · rw [z_b_0 h]; exact h0 h
theorem z_b_iff {p : Prop} {A : Int32 → Prop} {B : Prop} (h1 : p → (B ↔ A (nI 1))) (h0 : ¬ p → (B ↔ A (nI 0))) : B ↔ A (z_b p) := by
  by_cases h : p
  · rw [z_b_1 h]; exact h1 h
  · rw [z_b_0 h]; exact h0 h
theorem z_b_r (p : Prop) : (z_b p = 0 ∨ z_b p = 1) = True := by
  by_cases h : p
  · rw [z_b_1 h]; exact eq_true (Or.inr rfl)
  · rw [z_b_0 h]; exact eq_true (Or.inl rfl)
theorem z_b_2 {a b : Int32} {w : Int32} {A : Int32 → Prop} {p : Prop} (h : (¬ a < b ∧ a < w) = p) : (if a < b then (nI 0 = 0 ∨ nI 0 = 1) ∧ A (nI 0) else if a < w then (nI 1 = 0 ∨ nI 1 = 1) ∧ A (nI 1) else (nI 0 = 0 ∨ nI 0 = 1) ∧ A (nI 0)) ↔ A (z_b p) := by
  subst h
  by_cases h1 : a < b
  · rw [z_b_0 (fun h => h.1 h1), if_pos h1]; exact ⟨fun h => h.2, fun h => ⟨Or.inl rfl, h⟩⟩
  · by_cases h2 : a < w
    · rw [z_b_1 ⟨h1, h2⟩, if_neg h1, if_pos h2]; exact ⟨fun h => h.2, fun h => ⟨Or.inr rfl, h⟩⟩
    · rw [z_b_0 (fun h => h2 h.2), if_neg h1, if_neg h2]; exact ⟨fun h => h.2, fun h => ⟨Or.inl rfl, h⟩⟩
theorem z_b_3 {a b : Int32} {w : Int32} {A : Int32 → Prop} {p : Prop} (h : (¬ a < b ∧ a ≤ w) = p) : (if a < b then (nI 0 = 0 ∨ nI 0 = 1) ∧ A (nI 0) else if a ≤ w then (nI 1 = 0 ∨ nI 1 = 1) ∧ A (nI 1) else (nI 0 = 0 ∨ nI 0 = 1) ∧ A (nI 0)) ↔ A (z_b p) := by
  subst h
  by_cases h1 : a < b
  · rw [z_b_0 (fun h => h.1 h1), if_pos h1]; exact ⟨fun h => h.2, fun h => ⟨Or.inl rfl, h⟩⟩
  · by_cases h2 : a ≤ w
    · rw [z_b_1 ⟨h1, h2⟩, if_neg h1, if_pos h2]; exact ⟨fun h => h.2, fun h => ⟨Or.inr rfl, h⟩⟩
    · rw [z_b_0 (fun h => h2 h.2), if_neg h1, if_neg h2]; exact ⟨fun h => h.2, fun h => ⟨Or.inl rfl, h⟩⟩
theorem z_r0 (A : Prop) : ((nI 0 = 0 ∨ nI 0 = 1) ∧ A) = A := propext ⟨fun h => h.2, fun h => ⟨Or.inl rfl, h⟩⟩
theorem z_r1 (A : Prop) : ((nI 1 = 0 ∨ nI 1 = 1) ∧ A) = A := propext ⟨fun h => h.2, fun h => ⟨Or.inr rfl, h⟩⟩
theorem z_is_n {v : Int32} {n : Nat} (h : z_is v n) : ∃ j, j < n ∧ v = nI j := by
  refine ⟨v.toInt.toNat, by have := h.1; have := h.2; omega, ?_⟩
  have h1 : v.toInt < 2 ^ 31 := Int32.toInt_lt v
  rw [← Int32.toInt_inj, nI_toInt (by have := h.1; omega)]
  have := h.1
  omega
theorem z_is_j {j n : Nat} (h : j < 2 ^ 31) : z_is (nI j) n = (j < n) := by
  unfold z_is
  rw [nI_toInt h]
  exact propext ⟨fun h => by omega, fun h => by omega⟩
theorem z_is_in {v : Int32} {n : Nat} (hn : n < 2 ^ 31) : (¬ v < nI 0 ∧ v < nI n) = z_is v n := by
  unfold z_is
  rw [Int32.lt_iff_toInt_lt, Int32.lt_iff_toInt_lt, nI_toInt hn, nI_toInt (n := 0) (by decide)]
  exact propext ⟨fun h => by omega, fun h => by omega⟩
theorem z_is_le {v : Int32} {n : Nat} (hn : n < 2 ^ 31 - 1) : (¬ v < nI 0 ∧ v ≤ nI n) = z_is v (n + 1) := by
  unfold z_is
  rw [Int32.lt_iff_toInt_lt, Int32.le_iff_toInt_le, nI_toInt (n := n) (by omega), nI_toInt (n := 0) (by decide)]
  exact propext ⟨fun h => by omega, fun h => by omega⟩
theorem z_is_pre {v : Int32} {n : Nat} (hn : n < 2 ^ 31) : (¬ v < nI 0 ∧ v ≤ nI n - nI 1) = z_is v n := by
  cases n with
  | zero =>
    have e : (nI 0 - nI 1).toInt = -1 := by decide +kernel
    unfold z_is
    rw [Int32.lt_iff_toInt_lt, Int32.le_iff_toInt_le, e, nI_toInt (by decide)]
    exact propext ⟨fun h => by omega, fun h => by omega⟩
  | succ n =>
    rw [n_sub (by omega)]
    exact z_is_le (by omega)
def z_win (v lo hi : Int32) : Int32 := if v < lo then lo else if v ≤ hi then v else hi
section
variable {T : List Nat} {L d : Nat} {m : q_M} {g : q_G} {K : Option Value → q_G → q_M → Prop}
theorem c_in (v lo hi : Int32) : q_C 116 d [.int v, .int lo, .int hi] g m K ↔ K (some (.int (z_b (¬ v < lo ∧ v ≤ hi)))) g m := by
  simp only [e116, u116_0, u116_1, u116_2, u116_5, u116_6, u116_7, u116_10, u116_11, u116_14, u116_15, q_push_s, q_push_n, q_sm_0, q_sm_i, q_sm_r, q_sm_n, q_sm_l, q_c1_0, q_c1_i, q_c1_r, q_c1_n, Nat.zero_add, Nat.reduceAdd, Nat.reduceMul, Nat.reduceSub, Nat.reduceLeDiff, Nat.reduceLT, Nat.reduceEqDiff, true_and, and_true, not_false_eq_true, if_true, if_false, ite_true, ite_false, or_true, true_or, or_false, false_or, not_true_eq_false]
  by_cases h1 : v < lo
  · rw [z_b_0 (fun h => h.1 h1)]; simp only [h1, if_true]; exact ⟨fun h => h.2, fun h => ⟨Or.inl rfl, h⟩⟩
  · by_cases h2 : v ≤ hi
    · rw [z_b_1 ⟨h1, h2⟩]; simp only [h1, h2, if_true, if_false]; exact ⟨fun h => h.2, fun h => ⟨Or.inr rfl, h⟩⟩
    · rw [z_b_0 (fun h => h2 h.2)]; simp only [h1, h2, if_false]; exact ⟨fun h => h.2, fun h => ⟨Or.inl rfl, h⟩⟩
theorem c_within (v lo hi : Int32) : q_C 117 d [.int v, .int lo, .int hi] g m K ↔ K (some (.int (z_win v lo hi))) g m := by
  unfold z_win
  simp only [e117, u117_0, u117_1, u117_2, u117_5, u117_6, u117_9, u117_10, u117_11, u117_14, u117_15, u117_18, u117_19, q_push_s, q_push_n, q_sm_0, q_sm_i, q_sm_r, q_sm_n, q_sm_l, q_c1_0, q_c1_i, q_c1_r, q_c1_n, Nat.zero_add, Nat.reduceAdd, Nat.reduceMul, Nat.reduceSub, Nat.reduceLeDiff, Nat.reduceLT, Nat.reduceEqDiff, true_and, and_true, not_false_eq_true, if_true, if_false, ite_true, ite_false, or_true, true_or, or_false, false_or, not_true_eq_false]
  by_cases h1 : v < lo
  · simp only [h1, if_true]
  · by_cases h2 : v ≤ hi
    · simp only [h1, h2, if_true, if_false]
    · simp only [h1, h2, if_false]
theorem c_isMatter8 (v : Int32) : q_C 120 (d + 1) [.int v] g m K ↔ K (some (.int (z_b (z_is v 4)))) g m := by
  simp only [e120, u120_0, u120_1, u120_2, u120_3, u120_6, q_push_s, q_push_n, q_sm_0, q_sm_i, q_sm_r, q_sm_n, q_sm_l, q_c1_0, q_c1_i, q_c1_r, q_c1_n, Nat.zero_add, Nat.reduceAdd, Nat.reduceMul, Nat.reduceSub, Nat.reduceLeDiff, Nat.reduceLT, Nat.reduceEqDiff, true_and, and_true, not_false_eq_true, if_true, if_false, ite_true, ite_false, or_true, true_or, or_false, false_or, not_true_eq_false, c_in, Nat.zero_le, z_b_r]
  rw [z_is_le (n := 3) (by decide)]
theorem c_isByte8 (v : Int32) : q_C 124 (d + 1) [.int v] g m K ↔ K (some (.int (z_b (z_is v 256)))) g m := by
  simp only [e124, u124_0, u124_1, u124_2, u124_5, u124_8, q_push_s, q_push_n, q_sm_0, q_sm_i, q_sm_r, q_sm_n, q_sm_l, q_c1_0, q_c1_i, q_c1_r, q_c1_n, Nat.zero_add, Nat.reduceAdd, Nat.reduceMul, Nat.reduceSub, Nat.reduceLeDiff, Nat.reduceLT, Nat.reduceEqDiff, true_and, and_true, not_false_eq_true, if_true, if_false, ite_true, ite_false, or_true, true_or, or_false, false_or, not_true_eq_false, c_in, Nat.zero_le, z_b_r]
  rw [z_is_le (n := 255) (by decide)]
theorem c_isMatter (v : Int32) : q_C 106 d [.int v] g m K ↔ K (some (.int (z_b (z_is v 4)))) g m := by
  simp only [e106, u106_0, u106_1, u106_4, u106_5, u106_6, u106_9, u106_10, u106_13, u106_14, q_push_s, q_push_n, q_sm_0, q_sm_i, q_sm_r, q_sm_n, q_sm_l, q_c1_0, q_c1_i, q_c1_r, q_c1_n, Nat.zero_add, Nat.reduceAdd, Nat.reduceMul, Nat.reduceSub, Nat.reduceLeDiff, Nat.reduceLT, Nat.reduceEqDiff, true_and, and_true, not_false_eq_true, if_true, if_false, ite_true, ite_false, or_true, true_or, or_false, false_or, not_true_eq_false]
  exact z_b_2 (A := fun x => K (some (.int x)) g m) (z_is_in (by decide))
theorem c_isByte (v : Int32) : q_C 105 d [.int v] g m K ↔ K (some (.int (z_b (z_is v 256)))) g m := by
  simp only [e105, u105_0, u105_1, u105_4, u105_5, u105_8, u105_11, u105_12, u105_15, u105_16, q_push_s, q_push_n, q_sm_0, q_sm_i, q_sm_r, q_sm_n, q_sm_l, q_c1_0, q_c1_i, q_c1_r, q_c1_n, Nat.zero_add, Nat.reduceAdd, Nat.reduceMul, Nat.reduceSub, Nat.reduceLeDiff, Nat.reduceLT, Nat.reduceEqDiff, true_and, and_true, not_false_eq_true, if_true, if_false, ite_true, ite_false, or_true, true_or, or_false, false_or, not_true_eq_false]
  exact z_b_3 (A := fun x => K (some (.int x)) g m) (z_is_le (n := 255) (by decide))
theorem c_areMatters (v : Int32) : q_C 107 d [.int v] g m K ↔ K (some (.int (z_b (z_is v 16)))) g m := by
  simp only [e107, u107_0, u107_1, u107_4, u107_5, u107_7, u107_10, u107_11, u107_14, u107_15, q_push_s, q_push_n, q_sm_0, q_sm_i, q_sm_r, q_sm_n, q_sm_l, q_c1_0, q_c1_i, q_c1_r, q_c1_n, Nat.zero_add, Nat.reduceAdd, Nat.reduceMul, Nat.reduceSub, Nat.reduceLeDiff, Nat.reduceLT, Nat.reduceEqDiff, true_and, and_true, not_false_eq_true, if_true, if_false, ite_true, ite_false, or_true, true_or, or_false, false_or, not_true_eq_false]
  exact z_b_3 (A := fun x => K (some (.int x)) g m) (z_is_le (n := 15) (by decide))
theorem c_isSeed (v : Int32) : q_C 108 d [.int v] g m K ↔ K (some (.int (z_b (z_is v 100000)))) g m := by
  simp only [e108, u108_0, u108_1, u108_4, u108_5, u108_8, u108_11, u108_12, u108_15, u108_16, q_push_s, q_push_n, q_sm_0, q_sm_i, q_sm_r, q_sm_n, q_sm_l, q_c1_0, q_c1_i, q_c1_r, q_c1_n, Nat.zero_add, Nat.reduceAdd, Nat.reduceMul, Nat.reduceSub, Nat.reduceLeDiff, Nat.reduceLT, Nat.reduceEqDiff, true_and, and_true, not_false_eq_true, if_true, if_false, ite_true, ite_false, or_true, true_or, or_false, false_or, not_true_eq_false]
  exact z_b_2 (A := fun x => K (some (.int x)) g m) (z_is_in (by decide))
theorem c_has {n : Nat} (hn : n < 2 ^ 31) (h : m 3 0 = nI n) (v : Int32) : q_C 3 d [.ref 3, .int v] (GG T L) m K ↔ K (some (.int (z_b (z_is v n)))) (GG T L) m := by
  simp only [e3, u3_0, u3_1, u3_4, u3_5, u3_6, u3_9, u3_12, u3_13, u3_16, u3_17, q_push_s, q_push_n, q_sm_0, q_sm_i, q_sm_r, q_sm_n, q_sm_l, q_c1_0, q_c1_i, q_c1_r, q_c1_n, Nat.zero_add, Nat.reduceAdd, Nat.reduceMul, Nat.reduceSub, Nat.reduceLeDiff, Nat.reduceLT, Nat.reduceEqDiff, true_and, and_true, not_false_eq_true, if_true, if_false, ite_true, ite_false, or_true, true_or, or_false, false_or, not_true_eq_false, gf3_0, h]
  exact z_b_2 (A := fun x => K (some (.int x)) (GG T L) m) (z_is_in hn)
theorem c_isGuest {n : Nat} (hn : n < 2 ^ 31) (h : m 38 0 = nI n) (v : Int32) : q_C 119 (d + 1) [.ref 38, .int v] (GG T L) m K ↔ K (some (.int (z_b (z_is v n)))) (GG T L) m := by
  simp only [e119, u119_0, u119_1, u119_2, u119_3, u119_6, u119_7, u119_8, u119_11, q_push_s, q_push_n, q_sm_0, q_sm_i, q_sm_r, q_sm_n, q_sm_l, q_c1_0, q_c1_i, q_c1_r, q_c1_n, Nat.zero_add, Nat.reduceAdd, Nat.reduceMul, Nat.reduceSub, Nat.reduceLeDiff, Nat.reduceLT, Nat.reduceEqDiff, true_and, and_true, not_false_eq_true, if_true, if_false, ite_true, ite_false, or_true, true_or, or_false, false_or, not_true_eq_false, gf38_0, h, c_in, Nat.zero_le, z_b_r]
  rw [z_is_pre hn]
/-- two guests by one number -/
def z_is2 (v : Int32) (n : Nat) : Prop := z_is v 56 ∧ v.toInt.toNat / 10 < n ∧ v.toInt.toNat % 10 < n
theorem z_is2_n {v : Int32} {n : Nat} (h : z_is2 v n) : ∃ a b, a < n ∧ b < n ∧ v = nI (10 * a + b) ∧ b < 10 := by
  obtain ⟨j, hj, rfl⟩ := z_is_n h.1
  have h2 := h.2
  rw [nI_toInt (by omega)] at h2
  exact ⟨j / 10, j % 10, h2.1, h2.2, by congr 1; omega, by omega⟩
theorem z_is2_j {j n : Nat} (h : j < 56) : z_is2 (nI j) n = (j / 10 < n ∧ j % 10 < n) := by
  unfold z_is2
  rw [nI_toInt (by omega), z_is_j (by omega)]
  exact propext ⟨fun q => q.2, fun q => ⟨h, q⟩⟩
theorem c_arePair8 {n : Nat} (hn : n ≤ 6) (h : m 38 0 = nI n) (v : Int32) : q_C 121 (d + 2) [.ref 38, .int v] (GG T L) m K ↔ K (some (.int (z_b (z_is2 v n)))) (GG T L) m := by
  simp only [e121, u121_0, u121_1, u121_2, u121_4, u121_7, u121_10, u121_11, u121_12, u121_14, u121_15, u121_18, u121_21, u121_22, u121_23, u121_25, u121_26, u121_29, u121_32, u121_33, u121_36, u121_37, q_push_s, q_push_n, q_sm_0, q_sm_i, q_sm_r, q_sm_n, q_sm_l, q_c1_0, q_c1_i, q_c1_r, q_c1_n, Nat.zero_add, Nat.reduceAdd, Nat.reduceMul, Nat.reduceSub, Nat.reduceLeDiff, Nat.reduceLT, Nat.reduceEqDiff, true_and, and_true, not_false_eq_true, if_true, if_false, ite_true, ite_false, or_true, true_or, or_false, false_or, not_true_eq_false, c_in, Nat.zero_le, z_is_le (n := 55) (by decide), z_b_z, io38, c_isGuest (n := n) (by omega) h]
  by_cases h1 : z_is v 56
  · obtain ⟨j, hj, rfl⟩ := z_is_n h1
    have e : (nI 10 = 0) = False := by simp only [n_ne0 (i := 10) (by decide) (by decide)]
    simp only [h1, not_true_eq_false, if_false, e, not_false_eq_true, true_and, n_div (a := j) (d := 10) (by omega) (by decide) (by decide), n_rem (a := j) (d := 10) (by omega) (by decide) (by decide), z_is_j (j := j / 10) (n := n) (by omega), z_is_j (j := j % 10) (n := n) (by omega)]
    rw [z_is2_j hj]
    have ex : ∀ A : Prop, ((nI 0 = 0 ∨ nI 0 = 1) ∧ A) = A := fun A => propext ⟨fun h => h.2, fun h => ⟨Or.inl rfl, h⟩⟩
    have ey : ∀ A : Prop, ((nI 1 = 0 ∨ nI 1 = 1) ∧ A) = A := fun A => propext ⟨fun h => h.2, fun h => ⟨Or.inr rfl, h⟩⟩
    simp only [z_b_z, ex, ey]
    by_cases h2 : j / 10 < n
    · by_cases h3 : j % 10 < n
      · simp only [h2, h3, not_true_eq_false, if_false, and_true, z_b_t]
      · simp only [h2, h3, not_true_eq_false, not_false_eq_true, if_false, if_true, and_false, z_b_f]
    · simp only [h2, not_true_eq_false, not_false_eq_true, if_true, if_false, false_and, z_b_f]
  · have e : z_is2 v n = False := eq_false (fun h => h1 h.1)
    simp only [h1, e, not_false_eq_true, if_true, z_b_f]; exact ⟨fun h => h.2, fun h => ⟨Or.inl rfl, h⟩⟩
theorem c_arePair {n : Nat} (hn : n ≤ 6) (h : m 3 0 = nI n) (v : Int32) : q_C 111 (d + 1) [.ref 0, .int v] (GG T L) m K ↔ K (some (.int (z_b (z_is2 v n)))) (GG T L) m := by
  have e : (nI 10 = 0) = False := by simp only [n_ne0 (i := 10) (by decide) (by decide)]
  by_cases h1 : v < nI 0
  · have e : z_is2 v n = False := eq_false (fun h => by
      have := h.1.1
      rw [Int32.lt_iff_toInt_lt, nI_toInt (by decide)] at h1
      omega)
    simp only [e111, u111_0, u111_1, u111_4, u111_5, u111_8, u111_9, u111_11, u111_12, u111_15, u111_18, u111_19, u111_22, u111_23, u111_25, u111_26, u111_29, u111_32, u111_33, u111_36, u111_37, q_push_s, q_push_n, q_sm_0, q_sm_i, q_sm_r, q_sm_n, q_sm_l, q_c1_0, q_c1_i, q_c1_r, q_c1_n, Nat.zero_add, Nat.reduceAdd, Nat.reduceMul, Nat.reduceSub, Nat.reduceLeDiff, Nat.reduceLT, Nat.reduceEqDiff, true_and, and_true, not_false_eq_true, if_true, if_false, ite_true, ite_false, or_true, true_or, or_false, false_or, not_true_eq_false, h1, e, z_b_f, z_r0]
  · obtain ⟨j, hj, rfl⟩ := nI_of (x := v) (by rw [← nI_0]; exact h1)
    have e2 : z_is2 (nI j) n = (j / 10 < n ∧ j % 10 < n) := by
      unfold z_is2
      rw [nI_toInt hj, z_is_j hj]
      exact propext ⟨fun q => q.2, fun q => ⟨by omega, q⟩⟩
    simp only [e111, u111_0, u111_1, u111_4, u111_5, u111_8, u111_9, u111_11, u111_12, u111_15, u111_18, u111_19, u111_22, u111_23, u111_25, u111_26, u111_29, u111_32, u111_33, u111_36, u111_37, q_push_s, q_push_n, q_sm_0, q_sm_i, q_sm_r, q_sm_n, q_sm_l, q_c1_0, q_c1_i, q_c1_r, q_c1_n, Nat.zero_add, Nat.reduceAdd, Nat.reduceMul, Nat.reduceSub, Nat.reduceLeDiff, Nat.reduceLT, Nat.reduceEqDiff, true_and, and_true, not_false_eq_true, if_true, if_false, ite_true, ite_false, or_true, true_or, or_false, false_or, not_true_eq_false, h1, e, e2, gf0_2, io3, Nat.zero_le, c_has (n := n) (by omega) h, n_div (a := j) (d := 10) (by omega) (by decide) (by decide), n_rem (a := j) (d := 10) (by omega) (by decide) (by decide), z_is_j (j := j / 10) (n := n) (by omega), z_is_j (j := j % 10) (n := n) (by omega), z_b_z, z_r0, z_r1]
    by_cases h2 : j / 10 < n
    · by_cases h3 : j % 10 < n
      · simp only [h2, h3, not_true_eq_false, if_false, and_true, z_b_t]
      · simp only [h2, h3, not_true_eq_false, not_false_eq_true, if_false, if_true, and_false, z_b_f]
    · simp only [h2, not_true_eq_false, not_false_eq_true, if_true, if_false, false_and, z_b_f]
theorem n_shr {a k : Nat} (ha : a < 2 ^ 31) (hk : k < 32) : nI a >>> (nI k &&& 31) = nI (a / 2 ^ k) := by
  have e : ∀ k, k < 32 → ((nI k &&& 31).toBitVec.smod 32).toNat = k := by decide +kernel
  exact pk_shrN ha _ k (e k hk)
theorem n_and3 {a : Nat} (ha : a < 2 ^ 31) : nI a &&& nI 3 = nI (a % 4) := pk_andN (by omega) 2 (by decide +kernel)
def z_an (v j : Nat) : Nat := v / 2 ^ (6 - 2 * j) % 4
theorem z_an_lt (v j : Nat) : z_an v j < 4 := Nat.mod_lt _ (by decide)
theorem c_answer {v j : Nat} (hv : v < 256) (hj : j < 4) : q_C 122 d [.int (nI v), .int (nI j)] g m K ↔ K (some (.int (nI (z_an v j)))) g m := by
  have h1 : v / 2 ^ (6 - 2 * j) ≤ v := Nat.div_le_self _ _
  simp only [e122, u122_0, u122_1, u122_3, u122_4, u122_5, u122_6, u122_7, u122_8, u122_9, u122_10, q_push_s, q_push_n, q_sm_0, q_sm_i, q_sm_r, q_sm_n, q_sm_l, q_c1_0, q_c1_i, q_c1_r, q_c1_n, Nat.zero_add, Nat.reduceAdd, Nat.reduceMul, Nat.reduceSub, Nat.reduceLeDiff, Nat.reduceLT, Nat.reduceEqDiff, true_and, and_true, not_false_eq_true, if_true, if_false, ite_true, ite_false, or_true, true_or, or_false, false_or, not_true_eq_false, n_mul, n_sub (a := 6) (b := 2 * j) (by omega), n_shr (a := v) (k := 6 - 2 * j) (by omega) (by omega), n_and3 (a := v / 2 ^ (6 - 2 * j)) (by omega)]
  exact Iff.rfl
theorem c_answerOf {v j : Nat} (hv : v < 256) (hj : j < 4) : q_C 104 d [.int (nI v), .int (nI j)] g m K ↔ K (some (.int (nI (z_an v j)))) g m := by
  have h1 : v / 2 ^ (6 - 2 * j) ≤ v := Nat.div_le_self _ _
  have h2 : 2 * (3 - j) = 6 - 2 * j := by omega
  simp only [e104, u104_0, u104_1, u104_2, u104_3, u104_4, u104_5, u104_6, u104_7, u104_8, u104_9, q_push_s, q_push_n, q_sm_0, q_sm_i, q_sm_r, q_sm_n, q_sm_l, q_c1_0, q_c1_i, q_c1_r, q_c1_n, Nat.zero_add, Nat.reduceAdd, Nat.reduceMul, Nat.reduceSub, Nat.reduceLeDiff, Nat.reduceLT, Nat.reduceEqDiff, true_and, and_true, not_false_eq_true, if_true, if_false, ite_true, ite_false, or_true, true_or, or_false, false_or, not_true_eq_false, n_sub (a := 3) (b := j) (by omega), n_mul, h2, n_shr (a := v) (k := 6 - 2 * j) (by omega) (by omega), n_and3 (a := v / 2 ^ (6 - 2 * j)) (by omega)]
  exact Iff.rfl
end
