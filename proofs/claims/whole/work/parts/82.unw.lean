/-! ===== the reference's signs that wait ===== -/
def y_rk (s : Nat) : Nat := if s = 0 then 0 else if s = 11 then 1 else if s = 12 then 2 else if s = 13 then 3 else if s ≤ 15 then 4 else if s ≤ 17 then 5 else if s = 18 then 6 else 7
theorem y_rk_lt (s : Nat) : y_rk s < 8 := by
  unfold y_rk
  repeat' split
  all_goals omega
def y_uw (l : Nat) : List Nat → List Nat → List Nat × List Nat
  | [], out => ([], out)
  | s :: H, out => if l ≤ y_rk s then y_uw l H (out ++ [s]) else (s :: H, out)
def y_io (s : Nat) : Nat := if s = 13 ∨ s = 19 ∨ s = 0 then 1 else 0
def y_op : List Nat → Nat
  | [] => 0
  | s :: H => y_op H + y_io s
def y_hd (m : q_M) : List Nat → Prop
  | [] => True
  | s :: H => m 52 H.length = nI s ∧ s < 20 ∧ y_hd m H
def y_cd (n : Nat) (out : List Nat) (m : q_M) : Prop := ∀ i (h : i < out.length), m 44 (200 * n + i) = nI out[i]
def y_Q (n : Nat) (H out : List Nat) (m : q_M) : Prop := (m 38 10 = nI n ∧ n ≤ 5) ∧ (out.length + H.length ≤ 160) ∧ m 38 27 = nI H.length ∧ m 38 28 = nI (y_op H) ∧ m 38 29 = nI out.length ∧ y_hd m H ∧ y_cd n out m
/-- what eRead changes, the tape's reading aside -/
def YE (n : Nat) (m m' : q_M) : Prop := (∀ p, p ≠ 38 → p ≠ 44 → p ≠ 52 → m' p = m p) ∧ (∀ f, f ≠ 27 → f ≠ 28 → f ≠ 29 → m' 38 f = m 38 f) ∧ ∀ i, i < 200 * n → m' 44 i = m 44 i
theorem YE.refl (n : Nat) (m : q_M) : YE n m m := ⟨fun _ _ _ _ => rfl, fun _ _ _ _ => rfl, fun _ _ => rfl⟩
theorem YE.trans {n : Nat} {a b c : q_M} (h : YE n a b) (h' : YE n b c) : YE n a c := ⟨fun p h1 h2 h3 => (h'.1 p h1 h2 h3).trans (h.1 p h1 h2 h3), fun f h1 h2 h3 => (h'.2.1 f h1 h2 h3).trans (h.2.1 f h1 h2 h3), fun i hi => (h'.2.2 i hi).trans (h.2.2 i hi)⟩
theorem YE.up {n : Nat} (m : q_M) {f : Nat} (v : Int32) (hf : f = 27 ∨ f = 28 ∨ f = 29) : YE n m (q_up m 38 f v) := ⟨fun p h1 h2 h3 => by rw [q_up_f _ _ _ h1], fun f' h1 h2 h3 => q_up_i _ _ (by omega) _, fun i hi => by rw [q_up_f _ _ _ (by decide)]⟩
theorem YE.up44 {n i : Nat} (m : q_M) (v : Int32) (hi : 200 * n ≤ i) : YE n m (q_up m 44 i v) := ⟨fun p h1 h2 h3 => by rw [q_up_f _ _ _ h2], fun f' h1 h2 h3 => by rw [q_up_f _ _ _ (by decide)], fun i' hi' => q_up_i _ _ (by omega) _⟩
theorem YE.up52 {n i : Nat} (m : q_M) (v : Int32) : YE n m (q_up m 52 i v) := ⟨fun p h1 h2 h3 => by rw [q_up_f _ _ _ h3], fun f' h1 h2 h3 => by rw [q_up_f _ _ _ (by decide)], fun i' hi' => by rw [q_up_f _ _ _ (by decide)]⟩
theorem y_hd_fr {m m' : q_M} : ∀ (H : List Nat), (∀ i, i < H.length → m' 52 i = m 52 i) → y_hd m H → y_hd m' H
  | [], _, _ => trivial
  | s :: H, hm, ⟨h1, h2, h3⟩ => ⟨by rw [hm _ (by show H.length < H.length + 1; omega)]; exact h1, h2, y_hd_fr H (fun i hi => hm i (by show i < H.length + 1; omega)) h3⟩
theorem y_cd_app {n c : Nat} {out : List Nat} {m m' : q_M} (h : y_cd n out m) (hm : ∀ i, i < out.length → m' 44 (200 * n + i) = m 44 (200 * n + i)) (hc : m' 44 (200 * n + out.length) = nI c) : y_cd n (out ++ [c]) m' := fun i hi => by
  rw [List.length_append] at hi
  by_cases q : i < out.length
  · rw [hm i q, h i q, List.getElem_append_left q]
  · have e : i = out.length := by simp only [List.length_cons, List.length_nil] at hi; omega
    subst e
    rw [hc]
    simp
theorem y_op_le : ∀ H : List Nat, y_op H ≤ H.length
  | [] => Nat.le_refl _
  | s :: H => by
    have := y_op_le H
    have h1 : y_io s ≤ 1 := by unfold y_io; split <;> omega
    simp only [y_op, List.length_cons]
    omega
theorem y_uw_len (l : Nat) : ∀ H out, (y_uw l H out).2.length + (y_uw l H out).1.length = out.length + H.length
  | [], out => rfl
  | s :: H, out => by
    unfold y_uw
    split
    · rw [y_uw_len l H, List.length_append]
      simp only [List.length_cons, List.length_nil]
      omega
    · rfl
section
variable {T : List Nat} {L d : Nat} {m : q_M} {g : q_G} {n : Nat} {K : Option Value → q_G → q_M → Prop}
theorem c_rank {s : Nat} (hs : s < 20) : q_C 128 d [.int (nI s)] g m K ↔ K (some (.int (nI (y_rk s)))) g m := by
  have hq : ∀ v, v < 20 → (nI s = nI v) = (s = v) := fun v hv => n_eq (by omega) (by omega)
  have hq0 := hq 0 (by decide)
  have hq11 := hq 11 (by decide)
  have hq12 := hq 12 (by decide)
  have hq13 := hq 13 (by decide)
  have hq18 := hq 18 (by decide)
  have h15 := n_le (i := s) (j := 15) (by omega) (by decide)
  have h17 := n_le (i := s) (j := 17) (by omega) (by decide)
  unfold y_rk
  by_cases q0 : s = 0
  · subst q0; simp only [e128, e128, u128_0, u128_1, u128_4, u128_5, u128_8, u128_9, u128_11, u128_14, u128_15, u128_18, u128_19, u128_21, u128_24, u128_25, u128_28, u128_29, u128_31, u128_34, u128_35, u128_38, u128_39, u128_41, u128_44, u128_45, u128_48, u128_49, u128_51, u128_54, u128_55, u128_58, u128_59, u128_61, u128_64, u128_66, u128_69, u128_71, q_push_s, q_push_n, q_sm_0, q_sm_i, q_sm_r, q_sm_n, q_sm_l, q_c1_0, q_c1_i, q_c1_r, q_c1_n, Nat.zero_add, Nat.reduceAdd, Nat.reduceMul, Nat.reduceSub, Nat.reduceLeDiff, Nat.reduceLT, Nat.reduceEqDiff, true_and, and_true, not_false_eq_true, if_true, if_false, ite_true, ite_false, or_true, true_or, or_false, false_or, not_true_eq_false, eq_self, lq_0_1, lq_0_2, lq_0_3, lq_0_4, lq_0_5, lq_0_6, lq_1_0, lq_1_2, lq_1_3, lq_1_4, lq_1_5, lq_1_6, lq_2_0, lq_2_1, lq_2_3, lq_2_4, lq_2_5, lq_2_6, lq_3_0, lq_3_1, lq_3_2, lq_3_4, lq_3_5, lq_3_6, lq_4_0, lq_4_1, lq_4_2, lq_4_3, lq_4_5, lq_4_6, lq_5_0, lq_5_1, lq_5_2, lq_5_3, lq_5_4, lq_5_6, lq_6_0, lq_6_1, lq_6_2, lq_6_3, lq_6_4, lq_6_5, ll_0_0, ll_0_1, ll_0_2, ll_0_3, ll_0_4, ll_0_5, ll_0_6, ll_1_0, ll_1_1, ll_1_2, ll_1_3, ll_1_4, ll_1_5, ll_1_6, ll_2_0, ll_2_1, ll_2_2, ll_2_3, ll_2_4, ll_2_5, ll_2_6, ll_3_0, ll_3_1, ll_3_2, ll_3_3, ll_3_4, ll_3_5, ll_3_6, ll_4_0, ll_4_1, ll_4_2, ll_4_3, ll_4_4, ll_4_5, ll_4_6, ll_5_0, ll_5_1, ll_5_2, ll_5_3, ll_5_4, ll_5_5, ll_5_6, ll_6_0, ll_6_1, ll_6_2, ll_6_3, ll_6_4, ll_6_5, ll_6_6, le_0_0, le_0_1, le_0_2, le_0_3, le_0_4, le_0_5, le_0_6, le_1_0, le_1_1, le_1_2, le_1_3, le_1_4, le_1_5, le_1_6, le_2_0, le_2_1, le_2_2, le_2_3, le_2_4, le_2_5, le_2_6, le_3_0, le_3_1, le_3_2, le_3_3, le_3_4, le_3_5, le_3_6, le_4_0, le_4_1, le_4_2, le_4_3, le_4_4, le_4_5, le_4_6, le_5_0, le_5_1, le_5_2, le_5_3, le_5_4, le_5_5, le_5_6, le_6_0, le_6_1, le_6_2, le_6_3, le_6_4, le_6_5, le_6_6]
  by_cases q1 : s = 11
  · subst q1; simp only [e128, e128, u128_0, u128_1, u128_4, u128_5, u128_8, u128_9, u128_11, u128_14, u128_15, u128_18, u128_19, u128_21, u128_24, u128_25, u128_28, u128_29, u128_31, u128_34, u128_35, u128_38, u128_39, u128_41, u128_44, u128_45, u128_48, u128_49, u128_51, u128_54, u128_55, u128_58, u128_59, u128_61, u128_64, u128_66, u128_69, u128_71, q_push_s, q_push_n, q_sm_0, q_sm_i, q_sm_r, q_sm_n, q_sm_l, q_c1_0, q_c1_i, q_c1_r, q_c1_n, Nat.zero_add, Nat.reduceAdd, Nat.reduceMul, Nat.reduceSub, Nat.reduceLeDiff, Nat.reduceLT, Nat.reduceEqDiff, true_and, and_true, not_false_eq_true, if_true, if_false, ite_true, ite_false, or_true, true_or, or_false, false_or, not_true_eq_false, hq0, Nat.reduceEqDiff]
  by_cases q2 : s = 12
  · subst q2; simp only [e128, e128, u128_0, u128_1, u128_4, u128_5, u128_8, u128_9, u128_11, u128_14, u128_15, u128_18, u128_19, u128_21, u128_24, u128_25, u128_28, u128_29, u128_31, u128_34, u128_35, u128_38, u128_39, u128_41, u128_44, u128_45, u128_48, u128_49, u128_51, u128_54, u128_55, u128_58, u128_59, u128_61, u128_64, u128_66, u128_69, u128_71, q_push_s, q_push_n, q_sm_0, q_sm_i, q_sm_r, q_sm_n, q_sm_l, q_c1_0, q_c1_i, q_c1_r, q_c1_n, Nat.zero_add, Nat.reduceAdd, Nat.reduceMul, Nat.reduceSub, Nat.reduceLeDiff, Nat.reduceLT, Nat.reduceEqDiff, true_and, and_true, not_false_eq_true, if_true, if_false, ite_true, ite_false, or_true, true_or, or_false, false_or, not_true_eq_false, hq0, hq11, Nat.reduceEqDiff]
  by_cases q3 : s = 13
  · subst q3; simp only [e128, e128, u128_0, u128_1, u128_4, u128_5, u128_8, u128_9, u128_11, u128_14, u128_15, u128_18, u128_19, u128_21, u128_24, u128_25, u128_28, u128_29, u128_31, u128_34, u128_35, u128_38, u128_39, u128_41, u128_44, u128_45, u128_48, u128_49, u128_51, u128_54, u128_55, u128_58, u128_59, u128_61, u128_64, u128_66, u128_69, u128_71, q_push_s, q_push_n, q_sm_0, q_sm_i, q_sm_r, q_sm_n, q_sm_l, q_c1_0, q_c1_i, q_c1_r, q_c1_n, Nat.zero_add, Nat.reduceAdd, Nat.reduceMul, Nat.reduceSub, Nat.reduceLeDiff, Nat.reduceLT, Nat.reduceEqDiff, true_and, and_true, not_false_eq_true, if_true, if_false, ite_true, ite_false, or_true, true_or, or_false, false_or, not_true_eq_false, hq0, hq11, hq12, Nat.reduceEqDiff]
  by_cases q4 : s ≤ 15
  · simp only [e128, e128, u128_0, u128_1, u128_4, u128_5, u128_8, u128_9, u128_11, u128_14, u128_15, u128_18, u128_19, u128_21, u128_24, u128_25, u128_28, u128_29, u128_31, u128_34, u128_35, u128_38, u128_39, u128_41, u128_44, u128_45, u128_48, u128_49, u128_51, u128_54, u128_55, u128_58, u128_59, u128_61, u128_64, u128_66, u128_69, u128_71, q_push_s, q_push_n, q_sm_0, q_sm_i, q_sm_r, q_sm_n, q_sm_l, q_c1_0, q_c1_i, q_c1_r, q_c1_n, Nat.zero_add, Nat.reduceAdd, Nat.reduceMul, Nat.reduceSub, Nat.reduceLeDiff, Nat.reduceLT, Nat.reduceEqDiff, true_and, and_true, not_false_eq_true, if_true, if_false, ite_true, ite_false, or_true, true_or, or_false, false_or, not_true_eq_false, hq0, hq11, hq12, hq13, h15, q0, q1, q2, q3, q4]
  by_cases q5 : s ≤ 17
  · simp only [e128, e128, u128_0, u128_1, u128_4, u128_5, u128_8, u128_9, u128_11, u128_14, u128_15, u128_18, u128_19, u128_21, u128_24, u128_25, u128_28, u128_29, u128_31, u128_34, u128_35, u128_38, u128_39, u128_41, u128_44, u128_45, u128_48, u128_49, u128_51, u128_54, u128_55, u128_58, u128_59, u128_61, u128_64, u128_66, u128_69, u128_71, q_push_s, q_push_n, q_sm_0, q_sm_i, q_sm_r, q_sm_n, q_sm_l, q_c1_0, q_c1_i, q_c1_r, q_c1_n, Nat.zero_add, Nat.reduceAdd, Nat.reduceMul, Nat.reduceSub, Nat.reduceLeDiff, Nat.reduceLT, Nat.reduceEqDiff, true_and, and_true, not_false_eq_true, if_true, if_false, ite_true, ite_false, or_true, true_or, or_false, false_or, not_true_eq_false, hq0, hq11, hq12, hq13, h15, h17, q0, q1, q2, q3, q4, q5]
  by_cases q6 : s = 18
  · subst q6; simp only [e128, e128, u128_0, u128_1, u128_4, u128_5, u128_8, u128_9, u128_11, u128_14, u128_15, u128_18, u128_19, u128_21, u128_24, u128_25, u128_28, u128_29, u128_31, u128_34, u128_35, u128_38, u128_39, u128_41, u128_44, u128_45, u128_48, u128_49, u128_51, u128_54, u128_55, u128_58, u128_59, u128_61, u128_64, u128_66, u128_69, u128_71, q_push_s, q_push_n, q_sm_0, q_sm_i, q_sm_r, q_sm_n, q_sm_l, q_c1_0, q_c1_i, q_c1_r, q_c1_n, Nat.zero_add, Nat.reduceAdd, Nat.reduceMul, Nat.reduceSub, Nat.reduceLeDiff, Nat.reduceLT, Nat.reduceEqDiff, true_and, and_true, not_false_eq_true, if_true, if_false, ite_true, ite_false, or_true, true_or, or_false, false_or, not_true_eq_false, hq0, hq11, hq12, hq13, h15, h17, Nat.reduceEqDiff, Nat.reduceLeDiff]
  simp only [e128, e128, u128_0, u128_1, u128_4, u128_5, u128_8, u128_9, u128_11, u128_14, u128_15, u128_18, u128_19, u128_21, u128_24, u128_25, u128_28, u128_29, u128_31, u128_34, u128_35, u128_38, u128_39, u128_41, u128_44, u128_45, u128_48, u128_49, u128_51, u128_54, u128_55, u128_58, u128_59, u128_61, u128_64, u128_66, u128_69, u128_71, q_push_s, q_push_n, q_sm_0, q_sm_i, q_sm_r, q_sm_n, q_sm_l, q_c1_0, q_c1_i, q_c1_r, q_c1_n, Nat.zero_add, Nat.reduceAdd, Nat.reduceMul, Nat.reduceSub, Nat.reduceLeDiff, Nat.reduceLT, Nat.reduceEqDiff, true_and, and_true, not_false_eq_true, if_true, if_false, ite_true, ite_false, or_true, true_or, or_false, false_or, not_true_eq_false, hq0, hq11, hq12, hq13, hq18, h15, h17, q0, q1, q2, q3, q4, q5, q6]
theorem c_puts {H out : List Nat} {c : Nat} (Q : y_Q n H out m) (hl : out.length < 200) (hK : ∀ m', YE n m m' → m' 38 27 = m 38 27 → m' 38 28 = m 38 28 → m' 52 = m 52 → m' 38 29 = nI (out ++ [c]).length → y_cd n (out ++ [c]) m' → K none (GG T L) m') : q_C 129 d [.ref 38, .int (nI c)] (GG T L) m K := by
  obtain ⟨⟨q1, q2⟩, q3, q4, q5, q6, q7, q8⟩ := Q
  have cl : (nI (200 * n + out.length)).toNatClampNeg = 200 * n + out.length := n_cl (by omega)
  have e29 : q_up m 44 (200 * n + out.length) (nI c) 38 29 = nI out.length := by rw [q_up_f _ _ _ (by decide)]; exact q6
  simp only [e129, e129, u129_0, u129_1, u129_4, u129_7, u129_8, u129_11, u129_12, u129_13, u129_16, u129_17, u129_18, u129_19, u129_20, u129_20r, u129_21, u129_24, u129_25, u129_26, u129_29, q_push_s, q_push_n, q_sm_0, q_sm_i, q_sm_r, q_sm_n, q_sm_l, q_c1_0, q_c1_i, q_c1_r, q_c1_n, Nat.zero_add, Nat.reduceAdd, Nat.reduceMul, Nat.reduceSub, Nat.reduceLeDiff, Nat.reduceLT, Nat.reduceEqDiff, true_and, and_true, not_false_eq_true, if_true, if_false, ite_true, ite_false, or_true, true_or, or_false, false_or, not_true_eq_false, gf38_8, gf38_10, gf38_29, pf38_29, q1, q6, n_mul, n_add, is44 (i := 200 * n + out.length) (by omega), cl, e29]
  refine hK _ ((YE.up44 _ _ (by omega)).trans (YE.up _ _ (by omega))) ?_ ?_ ?_ ?_ ?_
  · rw [q_up_i _ _ (by decide), q_up_f _ _ _ (by decide)]
  · rw [q_up_i _ _ (by decide), q_up_f _ _ _ (by decide)]
  · rw [q_up_f _ _ _ (by decide), q_up_f _ _ _ (by decide)]
  · rw [q_up_eq, List.length_append]; rfl
  · refine y_cd_app q8 (fun i hi => ?_) ?_
    · rw [q_up_f _ _ _ (by decide), q_up_i _ _ (by omega)]
    · rw [q_up_f _ _ _ (by decide), q_up_eq]
theorem l_unwinds {l : Nat} (hl0 : 1 ≤ l) (hl : l < 20) (d : Nat) : ∀ (H out : List Nat) (m : q_M) (x : Option Value), q_c1 x = true → y_Q n H out m → (∀ m', YE n m m' → m' 52 = m 52 → y_Q n (y_uw l H out).1 (y_uw l H out).2 m' → K none (GG T L) m') →
    q_R 130 0 (d + 1) [some (.ref 38), some (.int (nI l)), x] [] (GG T L) m K
  | [], out, m, x, hx, Q, hK => by
    obtain ⟨⟨q1, q2⟩, q3, q4, q5, q6, q7, q8⟩ := Q
    have q4' : m 38 27 = nI 0 := q4
    rw [u130_0]
    simp only [u130_1, u130_4, u130_79, q_push_s, q_push_n, q_sm_0, q_sm_i, q_sm_r, q_sm_n, q_sm_l, q_c1_0, q_c1_i, q_c1_r, q_c1_n, Nat.zero_add, Nat.reduceAdd, Nat.reduceMul, Nat.reduceSub, Nat.reduceLeDiff, Nat.reduceLT, Nat.reduceEqDiff, true_and, and_true, not_false_eq_true, if_true, if_false, ite_true, ite_false, or_true, true_or, or_false, false_or, not_true_eq_false, gf38_27, q4', Int32.le_refl]
    exact hK m (YE.refl n m) rfl ⟨⟨q1, q2⟩, q3, q4, q5, q6, q7, q8⟩
  | s :: H, out, m, x, hx, Q, hK => by
    have Q0 := Q
    obtain ⟨⟨q1, q2⟩, q3, q4, q5, q6, q7, q8⟩ := Q
    obtain ⟨h1, h2, h3⟩ := q7
    have hlen : H.length + 1 = (s :: H).length := rfl
    have q4' : m 38 27 = nI (H.length + 1) := q4
    have n0 : ¬ nI (H.length + 1) ≤ nI 0 := by rw [n_le (by omega) (by decide)]; omega
    have n1 : nI (H.length + 1) - nI 1 = nI H.length := n_sub (by omega)
    have hr := y_rk_lt s
    have hlt := n_lt (i := y_rk s) (j := l) (by omega) (by omega)
    rw [u130_0]
    by_cases q : l ≤ y_rk s
    · have q' : ¬ y_rk s < l := by omega
      have eu : y_uw l (s :: H) out = y_uw l H (out ++ [s]) := by conv => lhs; unfold y_uw; rw [if_pos q]
      rw [eu] at hK
      have e0 : q_up m 38 27 (nI H.length) 38 27 = nI H.length := q_up_eq _ _ _ _
      have e1 : q_up m 38 27 (nI H.length) 38 28 = nI (y_op H + y_io s) := by rw [q_up_i _ _ (by decide)]; exact q5
      have e2 : q_up m 38 27 (nI H.length) 52 H.length = nI s := by rw [q_up_f _ _ _ (by decide)]; exact h1
      have fin : ∀ v, v = nI (y_op H) → s ≠ 0 → q_R 130 68 (d + 1) [some (.ref 38), some (.int (nI l)), some (.int (nI s))] [.int v, .ref 38] (GG T L) (q_up m 38 27 (nI H.length)) K := by
        intro v hv hs0
        subst hv
        simp only [u130_68, u130_71, u130_72, u130_73, q_push_s, q_push_n, q_sm_0, q_sm_i, q_sm_r, q_sm_n, q_sm_l, q_c1_0, q_c1_i, q_c1_r, q_c1_n, Nat.zero_add, Nat.reduceAdd, Nat.reduceMul, Nat.reduceSub, Nat.reduceLeDiff, Nat.reduceLT, Nat.reduceEqDiff, true_and, and_true, not_false_eq_true, if_true, if_false, ite_true, ite_false, or_true, true_or, or_false, false_or, not_true_eq_false, pf38_28, io38]
        have Q1 : y_Q n H out (q_up (q_up m 38 27 (nI H.length)) 38 28 (nI (y_op H))) := by
          refine ⟨⟨?_, q2⟩, by omega, ?_, ?_, ?_, ?_, ?_⟩
          · rw [q_up_i _ _ (by decide), q_up_i _ _ (by decide)]; exact q1
          · rw [q_up_i _ _ (by decide)]; exact e0
          · exact q_up_eq _ _ _ _
          · rw [q_up_i _ _ (by decide), q_up_i _ _ (by decide)]; exact q6
          · exact y_hd_fr H (fun i hi => by rw [q_up_f _ _ _ (by decide), q_up_f _ _ _ (by decide)]) h3
          · intro i hi; rw [q_up_f _ _ _ (by decide), q_up_f _ _ _ (by decide)]; exact q8 i hi
        refine c_puts Q1 (by omega) (fun m' f a1 a2 a3 a4 a5 => ?_)
        simp only [u130_76, q_push_s, q_push_n, q_sm_0, q_sm_i, q_sm_r, q_sm_n, q_sm_l, q_c1_0, q_c1_i, q_c1_r, q_c1_n, Nat.zero_add, Nat.reduceAdd, Nat.reduceMul, Nat.reduceSub, Nat.reduceLeDiff, Nat.reduceLT, Nat.reduceEqDiff, true_and, and_true, not_false_eq_true, if_true, if_false, ite_true, ite_false, or_true, true_or, or_false, false_or, not_true_eq_false]
        have f1 : YE n m (q_up (q_up m 38 27 (nI H.length)) 38 28 (nI (y_op H))) := (YE.up _ _ (by omega)).trans (YE.up _ _ (by omega))
        obtain ⟨⟨p1, p2⟩, p3, p4, p5, p6, p7, p8⟩ := Q1
        refine l_unwinds hl0 hl d H (out ++ [s]) m' _ rfl ⟨⟨by rw [f.2.1 10 (by decide) (by decide) (by decide)]; exact p1, q2⟩, ?_, by rw [a1]; exact p4, by rw [a2]; exact p5, a4, ?_, a5⟩ (fun m'' f2 b1 b2 => hK m'' ((f1.trans f).trans f2) ?_ b2)
        · rw [List.length_append]; simp only [List.length_cons, List.length_nil]; omega
        · exact y_hd_fr H (fun i hi => by rw [a3]) p7
        · rw [b1, a3, q_up_f _ _ _ (by decide), q_up_f _ _ _ (by decide)]
      have hs13 := n_eq (i := s) (j := 13) (by omega) (by decide)
      have hs19 := n_eq (i := s) (j := 19) (by omega) (by decide)
      simp only [u130_1, u130_4, u130_7, u130_8, u130_11, u130_12, u130_15, u130_16, u130_17, u130_18, u130_21, u130_22, u130_25, u130_26, u130_26r, u130_27, u130_30, u130_31, u130_32, u130_35, u130_36, u130_39, u130_40, u130_43, u130_44, u130_45, u130_46, u130_46r, u130_47, u130_50, q_push_s, q_push_n, q_sm_0, q_sm_i, q_sm_r, q_sm_n, q_sm_l, q_c1_0, q_c1_i, q_c1_r, q_c1_n, Nat.zero_add, Nat.reduceAdd, Nat.reduceMul, Nat.reduceSub, Nat.reduceLeDiff, Nat.reduceLT, Nat.reduceEqDiff, true_and, and_true, not_false_eq_true, if_true, if_false, ite_true, ite_false, or_true, true_or, or_false, false_or, not_true_eq_false, gf38_27, pf38_27, gf38_26, gf38_28, q4', n0, n1, ia52 (i := H.length) (by omega), h1, c_rank h2, hlt, q', e0, e1, e2, hx]
      by_cases r1 : s = 13
      · simp only [u130_51, u130_53, u130_56, u130_57, u130_59, u130_62, u130_63, u130_66, u130_67, q_push_s, q_push_n, q_sm_0, q_sm_i, q_sm_r, q_sm_n, q_sm_l, q_c1_0, q_c1_i, q_c1_r, q_c1_n, Nat.zero_add, Nat.reduceAdd, Nat.reduceMul, Nat.reduceSub, Nat.reduceLeDiff, Nat.reduceLT, Nat.reduceEqDiff, true_and, and_true, not_false_eq_true, if_true, if_false, ite_true, ite_false, or_true, true_or, or_false, false_or, not_true_eq_false, hs13, r1]
        rw [← r1]
        refine fin _ ?_ (by omega)
        rw [show y_io s = 1 by rw [r1]; rfl]
        exact n_sub (by omega)
      · by_cases r2 : s = 19
        · simp only [u130_51, u130_53, u130_56, u130_57, u130_59, u130_62, u130_63, u130_66, u130_67, q_push_s, q_push_n, q_sm_0, q_sm_i, q_sm_r, q_sm_n, q_sm_l, q_c1_0, q_c1_i, q_c1_r, q_c1_n, Nat.zero_add, Nat.reduceAdd, Nat.reduceMul, Nat.reduceSub, Nat.reduceLeDiff, Nat.reduceLT, Nat.reduceEqDiff, true_and, and_true, not_false_eq_true, if_true, if_false, ite_true, ite_false, or_true, true_or, or_false, false_or, not_true_eq_false, hs13, hs19, r1, r2, ite_self]
          rw [← r2]
          refine fin _ ?_ (by omega)
          rw [show y_io s = 1 by rw [r2]; rfl]
          exact n_sub (by omega)
        · have hs0 : s ≠ 0 := by
            intro e
            rw [e] at q
            have : y_rk 0 = 0 := rfl
            omega
          simp only [u130_51, u130_53, u130_56, u130_57, u130_59, u130_62, u130_63, u130_66, u130_67, q_push_s, q_push_n, q_sm_0, q_sm_i, q_sm_r, q_sm_n, q_sm_l, q_c1_0, q_c1_i, q_c1_r, q_c1_n, Nat.zero_add, Nat.reduceAdd, Nat.reduceMul, Nat.reduceSub, Nat.reduceLeDiff, Nat.reduceLT, Nat.reduceEqDiff, true_and, and_true, not_false_eq_true, if_true, if_false, ite_true, ite_false, or_true, true_or, or_false, false_or, not_true_eq_false, hs13, hs19, r1, r2]
          refine fin _ ?_ hs0
          rw [show y_io s = 0 by unfold y_io; rw [if_neg (by omega)]]
          exact n_sub (by omega)
    · have q' : y_rk s < l := by omega
      have eu : y_uw l (s :: H) out = (s :: H, out) := by unfold y_uw; rw [if_neg q]
      rw [eu] at hK
      simp only [u130_1, u130_4, u130_7, u130_8, u130_11, u130_12, u130_15, u130_16, u130_17, u130_18, u130_21, u130_22, u130_79, q_push_s, q_push_n, q_sm_0, q_sm_i, q_sm_r, q_sm_n, q_sm_l, q_c1_0, q_c1_i, q_c1_r, q_c1_n, Nat.zero_add, Nat.reduceAdd, Nat.reduceMul, Nat.reduceSub, Nat.reduceLeDiff, Nat.reduceLT, Nat.reduceEqDiff, true_and, and_true, not_false_eq_true, if_true, if_false, ite_true, ite_false, or_true, true_or, or_false, false_or, not_true_eq_false, gf38_27, gf38_26, q4', n0, n1, ia52 (i := H.length) (by omega), h1, c_rank h2, hlt, q']
      exact hK m (YE.refl n m) rfl Q0
theorem c_unwinds {l : Nat} (hl0 : 1 ≤ l) (hl : l < 20) {H out : List Nat} (Q : y_Q n H out m) (hK : ∀ m', YE n m m' → m' 52 = m 52 → y_Q n (y_uw l H out).1 (y_uw l H out).2 m' → K none (GG T L) m') : q_C 130 (d + 1) [.ref 38, .int (nI l)] (GG T L) m K := by
  simp only [e130]
  exact l_unwinds hl0 hl d H out m none rfl Q hK
theorem c_holds {s : Nat} (hs : s < 20) {H out : List Nat} (Q : y_Q n H out m) (hb : out.length + H.length < 160) (hK : ∀ m', YE n m m' → (m' 38 28 = m 38 28) → (m' 38 27 = nI (s :: H).length ∧ m' 38 29 = m 38 29 ∧ m' 44 = m 44 ∧ y_hd m' (s :: H)) → K none (GG T L) m') : q_C 131 d [.ref 38, .int (nI s)] (GG T L) m K := by
  obtain ⟨⟨q1, q2⟩, q3, q4, q5, q6, q7, q8⟩ := Q
  have cl : (nI H.length).toNatClampNeg = H.length := n_cl (by omega)
  have e27 : q_up m 52 H.length (nI s) 38 27 = nI H.length := by rw [q_up_f _ _ _ (by decide)]; exact q4
  simp only [e131, e131, u131_0, u131_1, u131_4, u131_5, u131_8, u131_9, u131_10, u131_11, u131_11r, u131_12, u131_15, u131_16, u131_17, u131_20, q_push_s, q_push_n, q_sm_0, q_sm_i, q_sm_r, q_sm_n, q_sm_l, q_c1_0, q_c1_i, q_c1_r, q_c1_n, Nat.zero_add, Nat.reduceAdd, Nat.reduceMul, Nat.reduceSub, Nat.reduceLeDiff, Nat.reduceLT, Nat.reduceEqDiff, true_and, and_true, not_false_eq_true, if_true, if_false, ite_true, ite_false, or_true, true_or, or_false, false_or, not_true_eq_false, gf38_26, gf38_27, pf38_27, q4, is52 (i := H.length) (by omega), cl, e27, n_add]
  refine hK _ ((YE.up52 _ _).trans (YE.up _ _ (by omega))) ?_ ⟨?_, ?_, ?_, ?_, hs, ?_⟩
  · rw [q_up_i _ _ (by decide), q_up_f _ _ _ (by decide)]
  · rw [q_up_eq]; rfl
  · rw [q_up_i _ _ (by decide), q_up_f _ _ _ (by decide)]
  · rw [q_up_f _ _ _ (by decide), q_up_f _ _ _ (by decide)]
  · rw [q_up_f _ _ _ (by decide), q_up_eq]
  · exact y_hd_fr H (fun i hi => by rw [q_up_f _ _ _ (by decide), q_up_i _ _ (by omega)]) q7
theorem c_opensOne {s : Nat} (hs : s < 20) (h1 : y_io s = 1) {H out : List Nat} (Q : y_Q n H out m) (hb : out.length + H.length < 160) (h5 : y_op H = 5 → K (some (.int (nI 0))) (GG T L) m) (hK : y_op H ≠ 5 → ∀ m', YE n m m' → y_Q n (s :: H) out m' → K (some (.int (nI 1))) (GG T L) m') : q_C 132 (d + 1) [.ref 38, .int (nI s)] (GG T L) m K := by
  have Q0 := Q
  obtain ⟨⟨q1, q2⟩, q3, q4, q5, q6, q7, q8⟩ := Q
  have hle := y_op_le H
  have heq := n_eq (i := y_op H) (j := 5) (by omega) (by decide)
  by_cases q : y_op H = 5
  · simp only [e132, u132_0, u132_1, u132_4, u132_5, u132_8, u132_9, q_push_s, q_push_n, q_sm_0, q_sm_i, q_sm_r, q_sm_n, q_sm_l, q_c1_0, q_c1_i, q_c1_r, q_c1_n, Nat.zero_add, Nat.reduceAdd, Nat.reduceMul, Nat.reduceSub, Nat.reduceLeDiff, Nat.reduceLT, Nat.reduceEqDiff, true_and, and_true, not_false_eq_true, if_true, if_false, ite_true, ite_false, or_true, true_or, or_false, false_or, not_true_eq_false, gf38_28, q5, heq, q, y_00]
    exact h5 q
  · have Q1 : y_Q n H out (q_up m 38 28 (nI (y_op H + 1))) ∨ True := Or.inr trivial
    simp only [e132, e132, u132_0, u132_1, u132_4, u132_5, u132_8, u132_9, u132_10, u132_11, u132_11r, u132_12, u132_15, u132_16, u132_17, u132_20, u132_21, u132_22, u132_25, u132_26, q_push_s, q_push_n, q_sm_0, q_sm_i, q_sm_r, q_sm_n, q_sm_l, q_c1_0, q_c1_i, q_c1_r, q_c1_n, Nat.zero_add, Nat.reduceAdd, Nat.reduceMul, Nat.reduceSub, Nat.reduceLeDiff, Nat.reduceLT, Nat.reduceEqDiff, true_and, and_true, not_false_eq_true, if_true, if_false, ite_true, ite_false, or_true, true_or, or_false, false_or, not_true_eq_false, gf38_28, pf38_28, q5, heq, q, n_add, io38]
    have f0 : YE n m (q_up m 38 28 (nI (y_op H + 1))) := YE.up _ _ (by omega)
    have cl : (nI H.length).toNatClampNeg = H.length := n_cl (by omega)
    have e27' : q_up m 38 28 (nI (y_op H + 1)) 38 27 = nI H.length := by rw [q_up_i _ _ (by decide)]; exact q4
    have e27 : q_up (q_up m 38 28 (nI (y_op H + 1))) 52 H.length (nI s) 38 27 = nI H.length := by rw [q_up_f _ _ _ (by decide)]; exact e27'
    simp only [e131, e131, u131_0, u131_1, u131_4, u131_5, u131_8, u131_9, u131_10, u131_11, u131_11r, u131_12, u131_15, u131_16, u131_17, u131_20, u132_25, u132_26, q_push_s, q_push_n, q_sm_0, q_sm_i, q_sm_r, q_sm_n, q_sm_l, q_c1_0, q_c1_i, q_c1_r, q_c1_n, Nat.zero_add, Nat.reduceAdd, Nat.reduceMul, Nat.reduceSub, Nat.reduceLeDiff, Nat.reduceLT, Nat.reduceEqDiff, true_and, and_true, not_false_eq_true, if_true, if_false, ite_true, ite_false, or_true, true_or, or_false, false_or, not_true_eq_false, eq_self, lq_0_1, lq_0_2, lq_0_3, lq_0_4, lq_0_5, lq_0_6, lq_1_0, lq_1_2, lq_1_3, lq_1_4, lq_1_5, lq_1_6, lq_2_0, lq_2_1, lq_2_3, lq_2_4, lq_2_5, lq_2_6, lq_3_0, lq_3_1, lq_3_2, lq_3_4, lq_3_5, lq_3_6, lq_4_0, lq_4_1, lq_4_2, lq_4_3, lq_4_5, lq_4_6, lq_5_0, lq_5_1, lq_5_2, lq_5_3, lq_5_4, lq_5_6, lq_6_0, lq_6_1, lq_6_2, lq_6_3, lq_6_4, lq_6_5, ll_0_0, ll_0_1, ll_0_2, ll_0_3, ll_0_4, ll_0_5, ll_0_6, ll_1_0, ll_1_1, ll_1_2, ll_1_3, ll_1_4, ll_1_5, ll_1_6, ll_2_0, ll_2_1, ll_2_2, ll_2_3, ll_2_4, ll_2_5, ll_2_6, ll_3_0, ll_3_1, ll_3_2, ll_3_3, ll_3_4, ll_3_5, ll_3_6, ll_4_0, ll_4_1, ll_4_2, ll_4_3, ll_4_4, ll_4_5, ll_4_6, ll_5_0, ll_5_1, ll_5_2, ll_5_3, ll_5_4, ll_5_5, ll_5_6, ll_6_0, ll_6_1, ll_6_2, ll_6_3, ll_6_4, ll_6_5, ll_6_6, le_0_0, le_0_1, le_0_2, le_0_3, le_0_4, le_0_5, le_0_6, le_1_0, le_1_1, le_1_2, le_1_3, le_1_4, le_1_5, le_1_6, le_2_0, le_2_1, le_2_2, le_2_3, le_2_4, le_2_5, le_2_6, le_3_0, le_3_1, le_3_2, le_3_3, le_3_4, le_3_5, le_3_6, le_4_0, le_4_1, le_4_2, le_4_3, le_4_4, le_4_5, le_4_6, le_5_0, le_5_1, le_5_2, le_5_3, le_5_4, le_5_5, le_5_6, le_6_0, le_6_1, le_6_2, le_6_3, le_6_4, le_6_5, le_6_6, y_11, gf38_26, gf38_27, pf38_27, e27', is52 (i := H.length) (by omega), cl, e27, n_add]
    refine hK q _ ((f0.trans (YE.up52 _ _)).trans (YE.up (f := 27) _ _ (Or.inl rfl))) ⟨⟨?_, q2⟩, ?_, ?_, ?_, ?_, ⟨?_, hs, ?_⟩, ?_⟩
    · rw [q_up_i _ _ (by decide), q_up_f _ _ _ (by decide), q_up_i _ _ (by decide)]; exact q1
    · simp only [List.length_cons]; omega
    · rw [q_up_eq]; rfl
    · rw [q_up_i _ _ (by decide), q_up_f _ _ _ (by decide), q_up_eq]; simp only [y_op, h1]
    · rw [q_up_i _ _ (by decide), q_up_f _ _ _ (by decide), q_up_i _ _ (by decide)]; exact q6
    · rw [q_up_f _ _ _ (by decide), q_up_eq]
    · exact y_hd_fr H (fun i hi => by rw [q_up_f _ _ _ (by decide), q_up_i _ _ (by omega), q_up_f _ _ _ (by decide)]) q7
    · intro i hi
      rw [q_up_f _ _ _ (by decide), q_up_f _ _ _ (by decide), q_up_f _ _ _ (by decide)]; exact q8 i hi
/-- the sign at a token; 99: none -/
def y_sg (t : Nat) : Nat := if t = 4 then 11 else if t = 5 then 12 else if t = 60 then 14 else if t = 61 then 15 else if t = 43 then 16 else if t = 45 then 17 else if t = 42 then 18 else 99
def y_sgI (t : Nat) : Int32 := if y_sg t = 99 then (-1 : Int32) else nI (y_sg t)
theorem c_signOf {t : Nat} (ht : t < 256) (h23 : m 38 23 = y_rt t) : q_C 134 d [.ref 38] (GG T L) m K ↔ K (some (.int (y_sgI t))) (GG T L) m := by
  have hq : ∀ v, v < 200 → v ≠ 7 → (y_rt t = nI v) = (t = v) := fun v hv h7 => by
    unfold y_rt
    by_cases q : t = 7
    · rw [if_pos q]
      refine propext ⟨fun h => ?_, fun h => by omega⟩
      exfalso
      have h2 := congrArg Int32.toInt h
      rw [nI_toInt (by omega)] at h2
      have : (-1 : Int32).toInt = -1 := rfl
      omega
    · rw [if_neg q]; exact n_eq (by omega) (by omega)
  have hq4 := hq 4 (by decide) (by decide)
  have hq5 := hq 5 (by decide) (by decide)
  have hq60 := hq 60 (by decide) (by decide)
  have hq61 := hq 61 (by decide) (by decide)
  have hq43 := hq 43 (by decide) (by decide)
  have hq45 := hq 45 (by decide) (by decide)
  have hq42 := hq 42 (by decide) (by decide)
  by_cases r1 : t = 4
  · subst r1; simp only [e134, e134, u134_0, u134_1, u134_4, u134_5, u134_8, u134_10, u134_13, u134_14, u134_17, u134_18, u134_21, u134_23, u134_26, u134_27, u134_30, u134_32, u134_35, u134_37, u134_40, u134_41, u134_44, u134_46, u134_49, u134_51, u134_54, u134_55, u134_58, u134_60, u134_63, u134_65, u134_68, u134_69, u134_72, u134_74, u134_77, u134_79, u134_82, u134_83, u134_86, u134_88, u134_91, u134_93, u134_96, u134_97, q_push_s, q_push_n, q_sm_0, q_sm_i, q_sm_r, q_sm_n, q_sm_l, q_c1_0, q_c1_i, q_c1_r, q_c1_n, Nat.zero_add, Nat.reduceAdd, Nat.reduceMul, Nat.reduceSub, Nat.reduceLeDiff, Nat.reduceLT, Nat.reduceEqDiff, true_and, and_true, not_false_eq_true, if_true, if_false, ite_true, ite_false, or_true, true_or, or_false, false_or, not_true_eq_false, gf38_23, h23, hq4]; exact Iff.rfl
  by_cases r2 : t = 5
  · subst r2; simp only [e134, e134, u134_0, u134_1, u134_4, u134_5, u134_8, u134_10, u134_13, u134_14, u134_17, u134_18, u134_21, u134_23, u134_26, u134_27, u134_30, u134_32, u134_35, u134_37, u134_40, u134_41, u134_44, u134_46, u134_49, u134_51, u134_54, u134_55, u134_58, u134_60, u134_63, u134_65, u134_68, u134_69, u134_72, u134_74, u134_77, u134_79, u134_82, u134_83, u134_86, u134_88, u134_91, u134_93, u134_96, u134_97, q_push_s, q_push_n, q_sm_0, q_sm_i, q_sm_r, q_sm_n, q_sm_l, q_c1_0, q_c1_i, q_c1_r, q_c1_n, Nat.zero_add, Nat.reduceAdd, Nat.reduceMul, Nat.reduceSub, Nat.reduceLeDiff, Nat.reduceLT, Nat.reduceEqDiff, true_and, and_true, not_false_eq_true, if_true, if_false, ite_true, ite_false, or_true, true_or, or_false, false_or, not_true_eq_false, gf38_23, h23, hq4, hq5, Nat.reduceEqDiff]; exact Iff.rfl
  by_cases r3 : t = 60
  · subst r3; simp only [e134, e134, u134_0, u134_1, u134_4, u134_5, u134_8, u134_10, u134_13, u134_14, u134_17, u134_18, u134_21, u134_23, u134_26, u134_27, u134_30, u134_32, u134_35, u134_37, u134_40, u134_41, u134_44, u134_46, u134_49, u134_51, u134_54, u134_55, u134_58, u134_60, u134_63, u134_65, u134_68, u134_69, u134_72, u134_74, u134_77, u134_79, u134_82, u134_83, u134_86, u134_88, u134_91, u134_93, u134_96, u134_97, q_push_s, q_push_n, q_sm_0, q_sm_i, q_sm_r, q_sm_n, q_sm_l, q_c1_0, q_c1_i, q_c1_r, q_c1_n, Nat.zero_add, Nat.reduceAdd, Nat.reduceMul, Nat.reduceSub, Nat.reduceLeDiff, Nat.reduceLT, Nat.reduceEqDiff, true_and, and_true, not_false_eq_true, if_true, if_false, ite_true, ite_false, or_true, true_or, or_false, false_or, not_true_eq_false, gf38_23, h23, hq4, hq5, hq60, Nat.reduceEqDiff]; exact Iff.rfl
  by_cases r4 : t = 61
  · subst r4; simp only [e134, e134, u134_0, u134_1, u134_4, u134_5, u134_8, u134_10, u134_13, u134_14, u134_17, u134_18, u134_21, u134_23, u134_26, u134_27, u134_30, u134_32, u134_35, u134_37, u134_40, u134_41, u134_44, u134_46, u134_49, u134_51, u134_54, u134_55, u134_58, u134_60, u134_63, u134_65, u134_68, u134_69, u134_72, u134_74, u134_77, u134_79, u134_82, u134_83, u134_86, u134_88, u134_91, u134_93, u134_96, u134_97, q_push_s, q_push_n, q_sm_0, q_sm_i, q_sm_r, q_sm_n, q_sm_l, q_c1_0, q_c1_i, q_c1_r, q_c1_n, Nat.zero_add, Nat.reduceAdd, Nat.reduceMul, Nat.reduceSub, Nat.reduceLeDiff, Nat.reduceLT, Nat.reduceEqDiff, true_and, and_true, not_false_eq_true, if_true, if_false, ite_true, ite_false, or_true, true_or, or_false, false_or, not_true_eq_false, gf38_23, h23, hq4, hq5, hq60, hq61, Nat.reduceEqDiff]; exact Iff.rfl
  by_cases r5 : t = 43
  · subst r5; simp only [e134, e134, u134_0, u134_1, u134_4, u134_5, u134_8, u134_10, u134_13, u134_14, u134_17, u134_18, u134_21, u134_23, u134_26, u134_27, u134_30, u134_32, u134_35, u134_37, u134_40, u134_41, u134_44, u134_46, u134_49, u134_51, u134_54, u134_55, u134_58, u134_60, u134_63, u134_65, u134_68, u134_69, u134_72, u134_74, u134_77, u134_79, u134_82, u134_83, u134_86, u134_88, u134_91, u134_93, u134_96, u134_97, q_push_s, q_push_n, q_sm_0, q_sm_i, q_sm_r, q_sm_n, q_sm_l, q_c1_0, q_c1_i, q_c1_r, q_c1_n, Nat.zero_add, Nat.reduceAdd, Nat.reduceMul, Nat.reduceSub, Nat.reduceLeDiff, Nat.reduceLT, Nat.reduceEqDiff, true_and, and_true, not_false_eq_true, if_true, if_false, ite_true, ite_false, or_true, true_or, or_false, false_or, not_true_eq_false, gf38_23, h23, hq4, hq5, hq60, hq61, hq43, Nat.reduceEqDiff]; exact Iff.rfl
  by_cases r6 : t = 45
  · subst r6; simp only [e134, e134, u134_0, u134_1, u134_4, u134_5, u134_8, u134_10, u134_13, u134_14, u134_17, u134_18, u134_21, u134_23, u134_26, u134_27, u134_30, u134_32, u134_35, u134_37, u134_40, u134_41, u134_44, u134_46, u134_49, u134_51, u134_54, u134_55, u134_58, u134_60, u134_63, u134_65, u134_68, u134_69, u134_72, u134_74, u134_77, u134_79, u134_82, u134_83, u134_86, u134_88, u134_91, u134_93, u134_96, u134_97, q_push_s, q_push_n, q_sm_0, q_sm_i, q_sm_r, q_sm_n, q_sm_l, q_c1_0, q_c1_i, q_c1_r, q_c1_n, Nat.zero_add, Nat.reduceAdd, Nat.reduceMul, Nat.reduceSub, Nat.reduceLeDiff, Nat.reduceLT, Nat.reduceEqDiff, true_and, and_true, not_false_eq_true, if_true, if_false, ite_true, ite_false, or_true, true_or, or_false, false_or, not_true_eq_false, gf38_23, h23, hq4, hq5, hq60, hq61, hq43, hq45, Nat.reduceEqDiff]; exact Iff.rfl
  by_cases r7 : t = 42
  · subst r7; simp only [e134, e134, u134_0, u134_1, u134_4, u134_5, u134_8, u134_10, u134_13, u134_14, u134_17, u134_18, u134_21, u134_23, u134_26, u134_27, u134_30, u134_32, u134_35, u134_37, u134_40, u134_41, u134_44, u134_46, u134_49, u134_51, u134_54, u134_55, u134_58, u134_60, u134_63, u134_65, u134_68, u134_69, u134_72, u134_74, u134_77, u134_79, u134_82, u134_83, u134_86, u134_88, u134_91, u134_93, u134_96, u134_97, q_push_s, q_push_n, q_sm_0, q_sm_i, q_sm_r, q_sm_n, q_sm_l, q_c1_0, q_c1_i, q_c1_r, q_c1_n, Nat.zero_add, Nat.reduceAdd, Nat.reduceMul, Nat.reduceSub, Nat.reduceLeDiff, Nat.reduceLT, Nat.reduceEqDiff, true_and, and_true, not_false_eq_true, if_true, if_false, ite_true, ite_false, or_true, true_or, or_false, false_or, not_true_eq_false, gf38_23, h23, hq4, hq5, hq60, hq61, hq43, hq45, hq42, Nat.reduceEqDiff]; exact Iff.rfl
  have e : y_sg t = 99 := by unfold y_sg; rw [if_neg r1, if_neg r2, if_neg r3, if_neg r4, if_neg r5, if_neg r6, if_neg r7]
  simp only [e134, e134, u134_0, u134_1, u134_4, u134_5, u134_8, u134_10, u134_13, u134_14, u134_17, u134_18, u134_21, u134_23, u134_26, u134_27, u134_30, u134_32, u134_35, u134_37, u134_40, u134_41, u134_44, u134_46, u134_49, u134_51, u134_54, u134_55, u134_58, u134_60, u134_63, u134_65, u134_68, u134_69, u134_72, u134_74, u134_77, u134_79, u134_82, u134_83, u134_86, u134_88, u134_91, u134_93, u134_96, u134_97, q_push_s, q_push_n, q_sm_0, q_sm_i, q_sm_r, q_sm_n, q_sm_l, q_c1_0, q_c1_i, q_c1_r, q_c1_n, Nat.zero_add, Nat.reduceAdd, Nat.reduceMul, Nat.reduceSub, Nat.reduceLeDiff, Nat.reduceLT, Nat.reduceEqDiff, true_and, and_true, not_false_eq_true, if_true, if_false, ite_true, ite_false, or_true, true_or, or_false, false_or, not_true_eq_false, gf38_23, h23, hq4, hq5, hq60, hq61, hq43, hq45, hq42, r1, r2, r3, r4, r5, r6, r7]
  unfold y_sgI
  rw [if_pos e]
/-- what comes before a sign -/
def y_lv (s : Nat) : Nat := if y_rk s = 4 then 5 else y_rk s
def y_t4 : List Nat → Prop
  | [] => False
  | s :: _ => y_rk s = 4
theorem c_between {s : Nat} (hs : s < 20) (h0 : y_io s = 0) (h1 : 1 ≤ y_rk s) {H out : List Nat} (Q : y_Q n H out m) (hb : out.length + H.length < 160)
    (hN : y_rk s = 4 → y_t4 (y_uw (y_lv s) H out).1 → ∀ m', YE n m m' → K (some (.int (nI 0))) (GG T L) m') (hK : ¬ (y_rk s = 4 ∧ y_t4 (y_uw (y_lv s) H out).1) → ∀ m', YE n m m' → y_Q n (s :: (y_uw (y_lv s) H out).1) (y_uw (y_lv s) H out).2 m' → K (some (.int (nI 1))) (GG T L) m') : q_C 133 (d + 2) [.ref 38, .int (nI s)] (GG T L) m K := by
  have hr := y_rk_lt s
  have h4 := n_eq (i := y_rk s) (j := 4) (by omega) (by decide)
  have hlen := y_uw_len (y_lv s) H out
  have hl1 : 1 ≤ y_lv s := by unfold y_lv; split <;> omega
  have hl2 : y_lv s < 20 := by unfold y_lv; split <;> omega
  have key : ∀ m', YE n m m' → y_Q n (y_uw (y_lv s) H out).1 (y_uw (y_lv s) H out).2 m' → q_R 133 20 (d + 2) [some (.ref 38), some (.int (nI s))] [] (GG T L) m' K := by
    intro m' f Q'
    generalize y_uw (y_lv s) H out = HO at hlen hN hK Q'
    obtain ⟨H', out'⟩ := HO
    dsimp only at hlen hN hK Q'
    have fin : ¬ (y_rk s = 4 ∧ y_t4 H') → q_R 133 55 (d + 2) [some (.ref 38), some (.int (nI s))] [] (GG T L) m' K := by
      intro hn
      simp only [u133_55, u133_56, u133_57, q_push_s, q_push_n, q_sm_0, q_sm_i, q_sm_r, q_sm_n, q_sm_l, q_c1_0, q_c1_i, q_c1_r, q_c1_n, Nat.zero_add, Nat.reduceAdd, Nat.reduceMul, Nat.reduceSub, Nat.reduceLeDiff, Nat.reduceLT, Nat.reduceEqDiff, true_and, and_true, not_false_eq_true, if_true, if_false, ite_true, ite_false, or_true, true_or, or_false, false_or, not_true_eq_false, io38]
      refine c_holds hs Q' (by omega) (fun m2 f2 a1 ⟨a2, a3, a4, a5⟩ => ?_)
      simp only [u133_60, u133_61, q_push_s, q_push_n, q_sm_0, q_sm_i, q_sm_r, q_sm_n, q_sm_l, q_c1_0, q_c1_i, q_c1_r, q_c1_n, Nat.zero_add, Nat.reduceAdd, Nat.reduceMul, Nat.reduceSub, Nat.reduceLeDiff, Nat.reduceLT, Nat.reduceEqDiff, true_and, and_true, not_false_eq_true, if_true, if_false, ite_true, ite_false, or_true, true_or, or_false, false_or, not_true_eq_false, eq_self, lq_0_1, lq_0_2, lq_0_3, lq_0_4, lq_0_5, lq_0_6, lq_1_0, lq_1_2, lq_1_3, lq_1_4, lq_1_5, lq_1_6, lq_2_0, lq_2_1, lq_2_3, lq_2_4, lq_2_5, lq_2_6, lq_3_0, lq_3_1, lq_3_2, lq_3_4, lq_3_5, lq_3_6, lq_4_0, lq_4_1, lq_4_2, lq_4_3, lq_4_5, lq_4_6, lq_5_0, lq_5_1, lq_5_2, lq_5_3, lq_5_4, lq_5_6, lq_6_0, lq_6_1, lq_6_2, lq_6_3, lq_6_4, lq_6_5, ll_0_0, ll_0_1, ll_0_2, ll_0_3, ll_0_4, ll_0_5, ll_0_6, ll_1_0, ll_1_1, ll_1_2, ll_1_3, ll_1_4, ll_1_5, ll_1_6, ll_2_0, ll_2_1, ll_2_2, ll_2_3, ll_2_4, ll_2_5, ll_2_6, ll_3_0, ll_3_1, ll_3_2, ll_3_3, ll_3_4, ll_3_5, ll_3_6, ll_4_0, ll_4_1, ll_4_2, ll_4_3, ll_4_4, ll_4_5, ll_4_6, ll_5_0, ll_5_1, ll_5_2, ll_5_3, ll_5_4, ll_5_5, ll_5_6, ll_6_0, ll_6_1, ll_6_2, ll_6_3, ll_6_4, ll_6_5, ll_6_6, le_0_0, le_0_1, le_0_2, le_0_3, le_0_4, le_0_5, le_0_6, le_1_0, le_1_1, le_1_2, le_1_3, le_1_4, le_1_5, le_1_6, le_2_0, le_2_1, le_2_2, le_2_3, le_2_4, le_2_5, le_2_6, le_3_0, le_3_1, le_3_2, le_3_3, le_3_4, le_3_5, le_3_6, le_4_0, le_4_1, le_4_2, le_4_3, le_4_4, le_4_5, le_4_6, le_5_0, le_5_1, le_5_2, le_5_3, le_5_4, le_5_5, le_5_6, le_6_0, le_6_1, le_6_2, le_6_3, le_6_4, le_6_5, le_6_6, y_11]
      obtain ⟨⟨q1, q2⟩, q3, q4, q5, q6, q7, q8⟩ := Q'
      refine hK hn m2 (f.trans f2) ⟨⟨by rw [f2.2.1 10 (by decide) (by decide) (by decide)]; exact q1, q2⟩, by simp only [List.length_cons]; omega, a2, ?_, by rw [a3]; exact q6, a5, fun i hi => by rw [a4]; exact q8 i hi⟩
      rw [a1]
      simp only [y_op, h0, Nat.add_zero]
      exact q5
    by_cases q : y_rk s = 4
    · match H', hN, hK, Q', fin, hlen with
      | [], hN, hK, Q', fin, hlen =>
        obtain ⟨⟨q1, q2⟩, q3, q4, q5, q6, q7, q8⟩ := Q'
        have q4' : m' 38 27 = nI 0 := q4
        simp only [u133_20, u133_21, u133_24, u133_25, u133_28, u133_29, u133_32, q_push_s, q_push_n, q_sm_0, q_sm_i, q_sm_r, q_sm_n, q_sm_l, q_c1_0, q_c1_i, q_c1_r, q_c1_n, Nat.zero_add, Nat.reduceAdd, Nat.reduceMul, Nat.reduceSub, Nat.reduceLeDiff, Nat.reduceLT, Nat.reduceEqDiff, true_and, and_true, not_false_eq_true, if_true, if_false, ite_true, ite_false, or_true, true_or, or_false, false_or, not_true_eq_false, c_rank hs, h4, q, gf38_27, q4', Int32.le_refl]
        exact fin (fun e => e.2)
      | s' :: H', hN, hK, Q', fin, hlen =>
        obtain ⟨⟨q1, q2⟩, q3, q4, q5, q6, q7, q8⟩ := Q'
        obtain ⟨x1, x2, x3⟩ := q7
        have hlen2 : (s' :: H').length = H'.length + 1 := rfl
        have q4' : m' 38 27 = nI (H'.length + 1) := q4
        have n0 : ¬ nI (H'.length + 1) ≤ nI 0 := by rw [n_le (by omega) (by decide)]; omega
        have n1 : nI (H'.length + 1) - nI 1 = nI H'.length := n_sub (by omega)
        have hr' := y_rk_lt s'
        have h4' := n_eq (i := y_rk s') (j := 4) (by omega) (by decide)
        by_cases r : y_rk s' = 4
        · simp only [u133_20, u133_21, u133_24, u133_25, u133_28, u133_29, u133_32, u133_35, u133_36, u133_39, u133_40, u133_43, u133_44, u133_45, u133_46, u133_49, u133_50, u133_53, u133_54, q_push_s, q_push_n, q_sm_0, q_sm_i, q_sm_r, q_sm_n, q_sm_l, q_c1_0, q_c1_i, q_c1_r, q_c1_n, Nat.zero_add, Nat.reduceAdd, Nat.reduceMul, Nat.reduceSub, Nat.reduceLeDiff, Nat.reduceLT, Nat.reduceEqDiff, true_and, and_true, not_false_eq_true, if_true, if_false, ite_true, ite_false, or_true, true_or, or_false, false_or, not_true_eq_false, eq_self, lq_0_1, lq_0_2, lq_0_3, lq_0_4, lq_0_5, lq_0_6, lq_1_0, lq_1_2, lq_1_3, lq_1_4, lq_1_5, lq_1_6, lq_2_0, lq_2_1, lq_2_3, lq_2_4, lq_2_5, lq_2_6, lq_3_0, lq_3_1, lq_3_2, lq_3_4, lq_3_5, lq_3_6, lq_4_0, lq_4_1, lq_4_2, lq_4_3, lq_4_5, lq_4_6, lq_5_0, lq_5_1, lq_5_2, lq_5_3, lq_5_4, lq_5_6, lq_6_0, lq_6_1, lq_6_2, lq_6_3, lq_6_4, lq_6_5, ll_0_0, ll_0_1, ll_0_2, ll_0_3, ll_0_4, ll_0_5, ll_0_6, ll_1_0, ll_1_1, ll_1_2, ll_1_3, ll_1_4, ll_1_5, ll_1_6, ll_2_0, ll_2_1, ll_2_2, ll_2_3, ll_2_4, ll_2_5, ll_2_6, ll_3_0, ll_3_1, ll_3_2, ll_3_3, ll_3_4, ll_3_5, ll_3_6, ll_4_0, ll_4_1, ll_4_2, ll_4_3, ll_4_4, ll_4_5, ll_4_6, ll_5_0, ll_5_1, ll_5_2, ll_5_3, ll_5_4, ll_5_5, ll_5_6, ll_6_0, ll_6_1, ll_6_2, ll_6_3, ll_6_4, ll_6_5, ll_6_6, le_0_0, le_0_1, le_0_2, le_0_3, le_0_4, le_0_5, le_0_6, le_1_0, le_1_1, le_1_2, le_1_3, le_1_4, le_1_5, le_1_6, le_2_0, le_2_1, le_2_2, le_2_3, le_2_4, le_2_5, le_2_6, le_3_0, le_3_1, le_3_2, le_3_3, le_3_4, le_3_5, le_3_6, le_4_0, le_4_1, le_4_2, le_4_3, le_4_4, le_4_5, le_4_6, le_5_0, le_5_1, le_5_2, le_5_3, le_5_4, le_5_5, le_5_6, le_6_0, le_6_1, le_6_2, le_6_3, le_6_4, le_6_5, le_6_6, y_00, c_rank hs, h4, q, gf38_26, gf38_27, q4', n0, n1, ia52 (i := H'.length) (by omega), x1, c_rank x2, h4', r]
          exact hN q r m' f
        · simp only [u133_20, u133_21, u133_24, u133_25, u133_28, u133_29, u133_32, u133_35, u133_36, u133_39, u133_40, u133_43, u133_44, u133_45, u133_46, u133_49, u133_50, q_push_s, q_push_n, q_sm_0, q_sm_i, q_sm_r, q_sm_n, q_sm_l, q_c1_0, q_c1_i, q_c1_r, q_c1_n, Nat.zero_add, Nat.reduceAdd, Nat.reduceMul, Nat.reduceSub, Nat.reduceLeDiff, Nat.reduceLT, Nat.reduceEqDiff, true_and, and_true, not_false_eq_true, if_true, if_false, ite_true, ite_false, or_true, true_or, or_false, false_or, not_true_eq_false, eq_self, lq_0_1, lq_0_2, lq_0_3, lq_0_4, lq_0_5, lq_0_6, lq_1_0, lq_1_2, lq_1_3, lq_1_4, lq_1_5, lq_1_6, lq_2_0, lq_2_1, lq_2_3, lq_2_4, lq_2_5, lq_2_6, lq_3_0, lq_3_1, lq_3_2, lq_3_4, lq_3_5, lq_3_6, lq_4_0, lq_4_1, lq_4_2, lq_4_3, lq_4_5, lq_4_6, lq_5_0, lq_5_1, lq_5_2, lq_5_3, lq_5_4, lq_5_6, lq_6_0, lq_6_1, lq_6_2, lq_6_3, lq_6_4, lq_6_5, ll_0_0, ll_0_1, ll_0_2, ll_0_3, ll_0_4, ll_0_5, ll_0_6, ll_1_0, ll_1_1, ll_1_2, ll_1_3, ll_1_4, ll_1_5, ll_1_6, ll_2_0, ll_2_1, ll_2_2, ll_2_3, ll_2_4, ll_2_5, ll_2_6, ll_3_0, ll_3_1, ll_3_2, ll_3_3, ll_3_4, ll_3_5, ll_3_6, ll_4_0, ll_4_1, ll_4_2, ll_4_3, ll_4_4, ll_4_5, ll_4_6, ll_5_0, ll_5_1, ll_5_2, ll_5_3, ll_5_4, ll_5_5, ll_5_6, ll_6_0, ll_6_1, ll_6_2, ll_6_3, ll_6_4, ll_6_5, ll_6_6, le_0_0, le_0_1, le_0_2, le_0_3, le_0_4, le_0_5, le_0_6, le_1_0, le_1_1, le_1_2, le_1_3, le_1_4, le_1_5, le_1_6, le_2_0, le_2_1, le_2_2, le_2_3, le_2_4, le_2_5, le_2_6, le_3_0, le_3_1, le_3_2, le_3_3, le_3_4, le_3_5, le_3_6, le_4_0, le_4_1, le_4_2, le_4_3, le_4_4, le_4_5, le_4_6, le_5_0, le_5_1, le_5_2, le_5_3, le_5_4, le_5_5, le_5_6, le_6_0, le_6_1, le_6_2, le_6_3, le_6_4, le_6_5, le_6_6, y_00, c_rank hs, h4, q, gf38_26, gf38_27, q4', n0, n1, ia52 (i := H'.length) (by omega), x1, c_rank x2, h4', r]
          exact fin (fun e => r e.2)
    · simp only [u133_20, u133_21, u133_24, u133_25, q_push_s, q_push_n, q_sm_0, q_sm_i, q_sm_r, q_sm_n, q_sm_l, q_c1_0, q_c1_i, q_c1_r, q_c1_n, Nat.zero_add, Nat.reduceAdd, Nat.reduceMul, Nat.reduceSub, Nat.reduceLeDiff, Nat.reduceLT, Nat.reduceEqDiff, true_and, and_true, not_false_eq_true, if_true, if_false, ite_true, ite_false, or_true, true_or, or_false, false_or, not_true_eq_false, c_rank hs, h4, q]
      exact fin (fun e => q e.1)
  by_cases q : y_rk s = 4
  · have e5 : y_lv s = 5 := by unfold y_lv; rw [if_pos q]
    rw [e5] at key
    simp only [e133, u133_0, u133_1, u133_2, u133_5, u133_6, u133_9, u133_10, u133_13, u133_14, u133_17, q_push_s, q_push_n, q_sm_0, q_sm_i, q_sm_r, q_sm_n, q_sm_l, q_c1_0, q_c1_i, q_c1_r, q_c1_n, Nat.zero_add, Nat.reduceAdd, Nat.reduceMul, Nat.reduceSub, Nat.reduceLeDiff, Nat.reduceLT, Nat.reduceEqDiff, true_and, and_true, not_false_eq_true, if_true, if_false, ite_true, ite_false, or_true, true_or, or_false, false_or, not_true_eq_false, c_rank hs, h4, q, io38]
    refine c_unwinds (by decide) (by decide) Q (fun m' f a1 a2 => ?_)
    exact key m' f a2
  · have e5 : y_lv s = y_rk s := by unfold y_lv; rw [if_neg q]
    rw [e5] at key
    simp only [e133, u133_0, u133_1, u133_2, u133_5, u133_6, u133_9, u133_10, u133_13, u133_14, u133_17, q_push_s, q_push_n, q_sm_0, q_sm_i, q_sm_r, q_sm_n, q_sm_l, q_c1_0, q_c1_i, q_c1_r, q_c1_n, Nat.zero_add, Nat.reduceAdd, Nat.reduceMul, Nat.reduceSub, Nat.reduceLeDiff, Nat.reduceLT, Nat.reduceEqDiff, true_and, and_true, not_false_eq_true, if_true, if_false, ite_true, ite_false, or_true, true_or, or_false, false_or, not_true_eq_false, c_rank hs, h4, q, io38]
    refine c_unwinds h1 (by omega) Q (fun m' f a1 a2 => ?_)
    exact key m' f a2
end
