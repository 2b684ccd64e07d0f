/-! ===== image, back ===== -/
section
variable {T : List Nat} {L : Nat} {s : ZS} {m : q_M} {K : Option Value → q_G → q_M → Prop}
theorem l_bec1 {c c' : Nat} (hc : (c = 19 ∧ c' = 3) ∨ (c = 3 ∧ c' = 19)) (d : Nat) : ∀ k i m, i + k = 6 → (∀ m', (∀ p, ¬ (c + 2 < p ∧ p < c + 6) → m' p = m p) → (∀ r, r < 5 → 2 ≤ r → ∀ g, g < 6 → m' (c + 1 + r) g = if i ≤ g then m (c' + 1 + r) g else m (c + 1 + r) g) → q_R 9 91 (d + 1) [some (.ref c), some (.ref c'), some (.int (nI 6))] [] (GG T L) m' K) →
    q_R 9 31 (d + 1) [some (.ref c), some (.ref c'), some (.int (nI i))] [] (GG T L) m K
  | 0, i, m, hi, hK => by
    have h6 : i = 6 := by omega
    subst h6
    simp only [u9_31, u9_32, u9_34, q_push_s, q_push_n, q_sm_0, q_sm_i, q_sm_r, q_sm_n, q_sm_l, q_c1_0, q_c1_i, q_c1_r, q_c1_n, Nat.zero_add, Nat.reduceAdd, Nat.reduceMul, Nat.reduceSub, Nat.reduceLeDiff, Nat.reduceLT, Nat.reduceEqDiff, true_and, and_true, not_false_eq_true, if_true, if_false, ite_true, ite_false, or_true, true_or, or_false, false_or, not_true_eq_false, eq_self, lq_0_1, lq_0_2, lq_0_3, lq_0_4, lq_0_5, lq_0_6, lq_1_0, lq_1_2, lq_1_3, lq_1_4, lq_1_5, lq_1_6, lq_2_0, lq_2_1, lq_2_3, lq_2_4, lq_2_5, lq_2_6, lq_3_0, lq_3_1, lq_3_2, lq_3_4, lq_3_5, lq_3_6, lq_4_0, lq_4_1, lq_4_2, lq_4_3, lq_4_5, lq_4_6, lq_5_0, lq_5_1, lq_5_2, lq_5_3, lq_5_4, lq_5_6, lq_6_0, lq_6_1, lq_6_2, lq_6_3, lq_6_4, lq_6_5, ll_0_0, ll_0_1, ll_0_2, ll_0_3, ll_0_4, ll_0_5, ll_0_6, ll_1_0, ll_1_1, ll_1_2, ll_1_3, ll_1_4, ll_1_5, ll_1_6, ll_2_0, ll_2_1, ll_2_2, ll_2_3, ll_2_4, ll_2_5, ll_2_6, ll_3_0, ll_3_1, ll_3_2, ll_3_3, ll_3_4, ll_3_5, ll_3_6, ll_4_0, ll_4_1, ll_4_2, ll_4_3, ll_4_4, ll_4_5, ll_4_6, ll_5_0, ll_5_1, ll_5_2, ll_5_3, ll_5_4, ll_5_5, ll_5_6, ll_6_0, ll_6_1, ll_6_2, ll_6_3, ll_6_4, ll_6_5, ll_6_6, le_0_0, le_0_1, le_0_2, le_0_3, le_0_4, le_0_5, le_0_6, le_1_0, le_1_1, le_1_2, le_1_3, le_1_4, le_1_5, le_1_6, le_2_0, le_2_1, le_2_2, le_2_3, le_2_4, le_2_5, le_2_6, le_3_0, le_3_1, le_3_2, le_3_3, le_3_4, le_3_5, le_3_6, le_4_0, le_4_1, le_4_2, le_4_3, le_4_4, le_4_5, le_4_6, le_5_0, le_5_1, le_5_2, le_5_3, le_5_4, le_5_5, le_5_6, le_6_0, le_6_1, le_6_2, le_6_3, le_6_4, le_6_5, le_6_6]
    refine hK m (fun _ _ => rfl) (fun r hr hr2 g hg => ?_)
    rw [if_neg (by omega)]
  | k + 1, i, m, hi, hK => by
    have h6 : i < 6 := by omega
    have hfin : ∀ m1, (∀ p, ¬ (c + 2 < p ∧ p < c + 6) → m1 p = m p) → (∀ r, r < 5 → 2 ≤ r → ∀ g, g < 6 → m1 (c + 1 + r) g = if g = i then m (c' + 1 + r) g else m (c + 1 + r) g) → q_R 9 31 (d + 1) [some (.ref c), some (.ref c'), some (.int (nI (i + 1)))] [] (GG T L) m1 K := by
      intro m1 e1 e2
      refine l_bec1 hc d k (i + 1) m1 (by omega) (fun m' h1 h2 => hK m' (fun p hp => (h1 p hp).trans (e1 p hp)) (fun r hr hr2 g hg => ?_))
      have e3 : m1 (c' + 1 + r) = m (c' + 1 + r) := e1 _ (by omega)
      rw [h2 r hr hr2 g hg, e3, e2 r hr hr2 g hg]
      by_cases q : i ≤ g
      · rw [if_pos q]
        by_cases q2 : i + 1 ≤ g
        · rw [if_pos q2]
        · rw [if_neg q2, if_pos (by omega)]
      · rw [if_neg q, if_neg (by omega), if_neg (by omega)]
    rcases hc with ⟨rfl, rfl⟩ | ⟨rfl, rfl⟩
    · rw [u9_31]
      simp only [u9_32, u9_34, u9_37, u9_38, u9_41, u9_42, u9_42n, u9_43, u9_46, u9_47, u9_50, u9_53, u9_54, u9_57, u9_58, u9_58n, u9_59, u9_62, u9_63, u9_66, u9_69, u9_70, u9_73, u9_74, u9_74n, u9_75, u9_78, u9_79, u9_82, u9_85, u9_88, q_push_s, q_push_n, q_sm_0, q_sm_i, q_sm_r, q_sm_n, q_sm_l, q_c1_0, q_c1_i, q_c1_r, q_c1_n, Nat.zero_add, Nat.reduceAdd, Nat.reduceMul, Nat.reduceSub, Nat.reduceLeDiff, Nat.reduceLT, Nat.reduceEqDiff, true_and, and_true, not_false_eq_true, if_true, if_false, ite_true, ite_false, or_true, true_or, or_false, false_or, not_true_eq_false, n_lt (i := i) (j := 6) (by omega) (by decide), h6, gf3_5, gf3_6, gf3_7, gf19_5, gf19_6, gf19_7, Nat.zero_le, c_at (j := i) sh6 (by decide) (by decide) h6, c_at (j := i) sh7 (by decide) (by decide) h6, c_at (j := i) sh8 (by decide) (by decide) h6, c_put (j := i) sh22 (by decide) (by decide) h6, c_put (j := i) sh23 (by decide) (by decide) h6, c_put (j := i) sh24 (by decide) (by decide) h6, n_add]
      refine hfin _ (fun p hp => ?_) (fun r hr hr2 g hg => ?_)
      · rw [q_up_f _ _ _ (by omega), q_up_f _ _ _ (by omega), q_up_f _ _ _ (by omega)]
      · have hr' : r = 2 ∨ r = 3 ∨ r = 4 := by omega
        by_cases q : g = i
        · rw [if_pos q, q]
          rcases hr' with rfl | rfl | rfl <;> simp [q_up]
        · rw [if_neg q]
          rcases hr' with rfl | rfl | rfl <;> simp [q_up, q]
    · rw [u9_31]
      simp only [u9_32, u9_34, u9_37, u9_38, u9_41, u9_42, u9_42n, u9_43, u9_46, u9_47, u9_50, u9_53, u9_54, u9_57, u9_58, u9_58n, u9_59, u9_62, u9_63, u9_66, u9_69, u9_70, u9_73, u9_74, u9_74n, u9_75, u9_78, u9_79, u9_82, u9_85, u9_88, q_push_s, q_push_n, q_sm_0, q_sm_i, q_sm_r, q_sm_n, q_sm_l, q_c1_0, q_c1_i, q_c1_r, q_c1_n, Nat.zero_add, Nat.reduceAdd, Nat.reduceMul, Nat.reduceSub, Nat.reduceLeDiff, Nat.reduceLT, Nat.reduceEqDiff, true_and, and_true, not_false_eq_true, if_true, if_false, ite_true, ite_false, or_true, true_or, or_false, false_or, not_true_eq_false, n_lt (i := i) (j := 6) (by omega) (by decide), h6, gf3_5, gf3_6, gf3_7, gf19_5, gf19_6, gf19_7, Nat.zero_le, c_put (j := i) sh6 (by decide) (by decide) h6, c_put (j := i) sh7 (by decide) (by decide) h6, c_put (j := i) sh8 (by decide) (by decide) h6, c_at (j := i) sh22 (by decide) (by decide) h6, c_at (j := i) sh23 (by decide) (by decide) h6, c_at (j := i) sh24 (by decide) (by decide) h6, n_add]
      refine hfin _ (fun p hp => ?_) (fun r hr hr2 g hg => ?_)
      · rw [q_up_f _ _ _ (by omega), q_up_f _ _ _ (by omega), q_up_f _ _ _ (by omega)]
      · have hr' : r = 2 ∨ r = 3 ∨ r = 4 := by omega
        by_cases q : g = i
        · rw [if_pos q, q]
          rcases hr' with rfl | rfl | rfl <;> simp [q_up]
        · rw [if_neg q]
          rcases hr' with rfl | rfl | rfl <;> simp [q_up, q]
theorem l_bec2 {c c' : Nat} (hc : (c = 19 ∧ c' = 3) ∨ (c = 3 ∧ c' = 19)) (d : Nat) : ∀ k i m, i + k = 36 → (∀ m', (∀ p, p ≠ c + 6 → m' p = m p) → (∀ g, g < 36 → m' (c + 6) g = if i ≤ g then m (c' + 6) g else m (c + 6) g) → q_R 9 122 (d + 1) [some (.ref c), some (.ref c'), some (.int (nI 36))] [] (GG T L) m' K) →
    q_R 9 93 (d + 1) [some (.ref c), some (.ref c'), some (.int (nI i))] [] (GG T L) m K
  | 0, i, m, hi, hK => by
    have h6 : i = 36 := by omega
    have e36 : (nI 36 < nI 36) = False := eq_false (by decide)
    subst h6
    have hq := hK m (fun _ _ => rfl) (fun g hg => by rw [if_neg (by omega)])
    rcases hc with ⟨rfl, rfl⟩ | ⟨rfl, rfl⟩
    · simp only [u9_93, u9_94, u9_95, u9_98, u9_99, q_push_s, q_push_n, q_sm_0, q_sm_i, q_sm_r, q_sm_n, q_sm_l, q_c1_0, q_c1_i, q_c1_r, q_c1_n, Nat.zero_add, Nat.reduceAdd, Nat.reduceMul, Nat.reduceSub, Nat.reduceLeDiff, Nat.reduceLT, Nat.reduceEqDiff, true_and, and_true, not_false_eq_true, if_true, if_false, ite_true, ite_false, or_true, true_or, or_false, false_or, not_true_eq_false, gf19_8, al25, e36]; exact hq
    · simp only [u9_93, u9_94, u9_95, u9_98, u9_99, q_push_s, q_push_n, q_sm_0, q_sm_i, q_sm_r, q_sm_n, q_sm_l, q_c1_0, q_c1_i, q_c1_r, q_c1_n, Nat.zero_add, Nat.reduceAdd, Nat.reduceMul, Nat.reduceSub, Nat.reduceLeDiff, Nat.reduceLT, Nat.reduceEqDiff, true_and, and_true, not_false_eq_true, if_true, if_false, ite_true, ite_false, or_true, true_or, or_false, false_or, not_true_eq_false, gf3_8, al9, e36]; exact hq
  | k + 1, i, m, hi, hK => by
    have h6 : i < 36 := by omega
    have ci : (nI i).toNatClampNeg = i := n_cl (by omega)
    have hfin : ∀ m1, (∀ p, p ≠ c + 6 → m1 p = m p) → (∀ g, g < 36 → m1 (c + 6) g = if g = i then m (c' + 6) g else m (c + 6) g) → q_R 9 93 (d + 1) [some (.ref c), some (.ref c'), some (.int (nI (i + 1)))] [] (GG T L) m1 K := by
      intro m1 e1 e2
      refine l_bec2 hc d k (i + 1) m1 (by omega) (fun m' h1 h2 => hK m' (fun p hp => (h1 p hp).trans (e1 p hp)) (fun g hg => ?_))
      have e3 : m1 (c' + 6) = m (c' + 6) := e1 _ (by omega)
      rw [h2 g hg, e3, e2 g hg]
      by_cases q : i ≤ g
      · rw [if_pos q]
        by_cases q2 : i + 1 ≤ g
        · rw [if_pos q2]
        · rw [if_neg q2, if_pos (by omega)]
      · rw [if_neg q, if_neg (by omega), if_neg (by omega)]
    rcases hc with ⟨rfl, rfl⟩ | ⟨rfl, rfl⟩
    · rw [u9_93]
      simp only [u9_94, u9_95, u9_98, u9_99, u9_102, u9_103, u9_106, u9_107, u9_107n, u9_108, u9_111, u9_112, u9_115, u9_116, u9_119, q_push_s, q_push_n, q_sm_0, q_sm_i, q_sm_r, q_sm_n, q_sm_l, q_c1_0, q_c1_i, q_c1_r, q_c1_n, Nat.zero_add, Nat.reduceAdd, Nat.reduceMul, Nat.reduceSub, Nat.reduceLeDiff, Nat.reduceLT, Nat.reduceEqDiff, true_and, and_true, not_false_eq_true, if_true, if_false, ite_true, ite_false, or_true, true_or, or_false, false_or, not_true_eq_false, n_lt (i := i) (j := 36) (by omega) (by decide), h6, gf3_8, gf19_8, al25, Nat.zero_le, c_at (j := i) sh9 (by decide) (by decide) h6, is25 (i := i) h6, ci, n_add]
      refine hfin _ (fun p hp => q_up_f _ _ _ hp) (fun g hg => ?_)
      by_cases q : g = i
      · rw [if_pos q, q, q_up_eq]
      · rw [if_neg q, q_up_i _ _ q]
    · rw [u9_93]
      simp only [u9_94, u9_95, u9_98, u9_99, u9_102, u9_103, u9_106, u9_107, u9_107n, u9_108, u9_111, u9_112, u9_115, u9_116, u9_119, q_push_s, q_push_n, q_sm_0, q_sm_i, q_sm_r, q_sm_n, q_sm_l, q_c1_0, q_c1_i, q_c1_r, q_c1_n, Nat.zero_add, Nat.reduceAdd, Nat.reduceMul, Nat.reduceSub, Nat.reduceLeDiff, Nat.reduceLT, Nat.reduceEqDiff, true_and, and_true, not_false_eq_true, if_true, if_false, ite_true, ite_false, or_true, true_or, or_false, false_or, not_true_eq_false, n_lt (i := i) (j := 36) (by omega) (by decide), h6, gf3_8, gf19_8, al9, Nat.zero_le, c_at (j := i) sh25 (by decide) (by decide) h6, is9 (i := i) h6, ci, n_add]
      refine hfin _ (fun p hp => q_up_f _ _ _ hp) (fun g hg => ?_)
      by_cases q : g = i
      · rw [if_pos q, q, q_up_eq]
      · rw [if_neg q, q_up_i _ _ q]
theorem c_become {c c' : Nat} (hc : (c = 19 ∧ c' = 3) ∨ (c = 3 ∧ c' = 19)) {d : Nat} (hC : ICk c' s m) (h6 : s.1 0 ≤ 6) (hK : ∀ m', (∀ p, p = c + 1 ∨ p = c + 2 ∨ ¬ (c ≤ p ∧ p < c + 7) → m' p = m p) → ICk c s m' → K none (GG T L) m') : q_C 9 (d + 1) [.ref c, .ref c'] (GG T L) m K := by
  have hfin : ∀ m1, (∀ p, p ≠ c → m1 p = m p) → (∀ f, f < 3 → m1 c f = nI (s.1 f)) → q_R 9 31 (d + 1) [some (.ref c), some (.ref c'), some (.int (nI 0))] [] (GG T L) m1 K := by
    intro m1 e1 e2
    refine l_bec1 hc d 6 0 m1 rfl (fun m2 f1 f2 => ?_)
    simp only [u9_91, u9_92, q_push_s, q_push_n, q_sm_0, q_sm_i, q_sm_r, q_sm_n, q_sm_l, q_c1_0, q_c1_i, q_c1_r, q_c1_n, Nat.zero_add, Nat.reduceAdd, Nat.reduceMul, Nat.reduceSub, Nat.reduceLeDiff, Nat.reduceLT, Nat.reduceEqDiff, true_and, and_true, not_false_eq_true, if_true, if_false, ite_true, ite_false, or_true, true_or, or_false, false_or, not_true_eq_false]
    refine l_bec2 hc d 36 0 m2 rfl (fun m3 g1 g2 => ?_)
    simp only [u9_122, q_push_s, q_push_n, q_sm_0, q_sm_i, q_sm_r, q_sm_n, q_sm_l, q_c1_0, q_c1_i, q_c1_r, q_c1_n, Nat.zero_add, Nat.reduceAdd, Nat.reduceMul, Nat.reduceSub, Nat.reduceLeDiff, Nat.reduceLT, Nat.reduceEqDiff, true_and, and_true, not_false_eq_true, if_true, if_false, ite_true, ite_false, or_true, true_or, or_false, false_or, not_true_eq_false]
    refine hK m3 (fun p hp => ?_) ⟨fun f hf => ?_, fun r hr hr2 g hg => ?_, fun i hi => ?_⟩
    · rw [g1 p (by omega), f1 p (by omega), e1 p (by omega)]
    · rw [g1 c (by omega), f1 c (by omega)]; exact e2 f hf
    · rw [g1 (c + 1 + r) (by omega), f2 r hr hr2 g (by omega), if_pos (by omega), e1 (c' + 1 + r) (by omega)]
      exact hC.2.1 r hr hr2 g hg
    · rw [g2 i hi, if_pos (by omega), f1 (c' + 6) (by omega), e1 (c' + 6) (by omega)]
      exact hC.2.2 i hi
  have h0 := hC.1 0 (by decide)
  have h1 := hC.1 1 (by decide)
  have h2 := hC.1 2 (by decide)
  rcases hc with ⟨rfl, rfl⟩ | ⟨rfl, rfl⟩
  · simp only [e9, u9_0, u9_0n, u9_1n, u9_1, u9_4, u9_5, u9_6, u9_6n, u9_7, u9_10, u9_13, u9_14, u9_14n, u9_15, u9_18, u9_21, u9_22, u9_22n, u9_23, u9_26, u9_29, u9_30, q_push_s, q_push_n, q_sm_0, q_sm_i, q_sm_r, q_sm_n, q_sm_l, q_c1_0, q_c1_i, q_c1_r, q_c1_n, Nat.zero_add, Nat.reduceAdd, Nat.reduceMul, Nat.reduceSub, Nat.reduceLeDiff, Nat.reduceLT, Nat.reduceEqDiff, true_and, and_true, not_false_eq_true, if_true, if_false, ite_true, ite_false, or_true, true_or, or_false, false_or, not_true_eq_false, gf3_0, gf3_1, gf3_2, pf19_0, pf19_1, pf19_2, q_up_f, ne_eq, Nat.reduceEqDiff, h0, h1, h2]
    refine hfin _ (fun p hp => by rw [q_up_f _ _ _ hp, q_up_f _ _ _ hp, q_up_f _ _ _ hp]) (fun f hf => ?_)
    have hf' : f = 0 ∨ f = 1 ∨ f = 2 := by omega
    rcases hf' with rfl | rfl | rfl <;> simp [q_up]
  · simp only [e9, u9_0, u9_0n, u9_1n, u9_1, u9_4, u9_5, u9_6, u9_6n, u9_7, u9_10, u9_13, u9_14, u9_14n, u9_15, u9_18, u9_21, u9_22, u9_22n, u9_23, u9_26, u9_29, u9_30, q_push_s, q_push_n, q_sm_0, q_sm_i, q_sm_r, q_sm_n, q_sm_l, q_c1_0, q_c1_i, q_c1_r, q_c1_n, Nat.zero_add, Nat.reduceAdd, Nat.reduceMul, Nat.reduceSub, Nat.reduceLeDiff, Nat.reduceLT, Nat.reduceEqDiff, true_and, and_true, not_false_eq_true, if_true, if_false, ite_true, ite_false, or_true, true_or, or_false, false_or, not_true_eq_false, gf19_0, gf19_1, gf19_2, pf3_0, pf3_1, pf3_2, q_up_f, ne_eq, Nat.reduceEqDiff, h0, h1, h2]
    refine hfin _ (fun p hp => by rw [q_up_f _ _ _ hp, q_up_f _ _ _ hp, q_up_f _ _ _ hp]) (fun f hf => ?_)
    have hf' : f = 0 ∨ f = 1 ∨ f = 2 := by omega
    rcases hf' with rfl | rfl | rfl <;> simp [q_up]
/-! the reference's copying loops -/
theorem l_img1 (d : Nat) : ∀ k i m, i + k = 18 → (∀ m', (∀ p, p ≠ 46 → m' p = m p) → (∀ x, m' 46 x = if i ≤ x ∧ x < 18 then m 41 x else m 46 x) → q_R 193 55 d [some (.ref 38), some (.int (nI 18))] [] (GG T L) m' K) →
    q_R 193 31 d [some (.ref 38), some (.int (nI i))] [] (GG T L) m K
  | 0, i, m, hi, hK => by
    have h6 : i = 18 := by omega
    have e36 : (nI 18 < nI 18) = False := eq_false (by decide)
    subst h6
    simp only [u193_31, u193_32, u193_34, q_push_s, q_push_n, q_sm_0, q_sm_i, q_sm_r, q_sm_n, q_sm_l, q_c1_0, q_c1_i, q_c1_r, q_c1_n, Nat.zero_add, Nat.reduceAdd, Nat.reduceMul, Nat.reduceSub, Nat.reduceLeDiff, Nat.reduceLT, Nat.reduceEqDiff, true_and, and_true, not_false_eq_true, if_true, if_false, ite_true, ite_false, or_true, true_or, or_false, false_or, not_true_eq_false, e36]
    exact hK m (fun _ _ => rfl) (fun g => by rw [if_neg (by omega)])
  | k + 1, i, m, hi, hK => by
    have h6 : i < 18 := by omega
    have ci : (nI i).toNatClampNeg = i := n_cl (by omega)
    rw [u193_31]
    simp only [u193_32, u193_34, u193_37, u193_38, u193_41, u193_42, u193_43, u193_46, u193_47, u193_48, u193_49, u193_52, q_push_s, q_push_n, q_sm_0, q_sm_i, q_sm_r, q_sm_n, q_sm_l, q_c1_0, q_c1_i, q_c1_r, q_c1_n, Nat.zero_add, Nat.reduceAdd, Nat.reduceMul, Nat.reduceSub, Nat.reduceLeDiff, Nat.reduceLT, Nat.reduceEqDiff, true_and, and_true, not_false_eq_true, if_true, if_false, ite_true, ite_false, or_true, true_or, or_false, false_or, not_true_eq_false, n_lt (i := i) (j := 18) (by omega) (by decide), h6, gf38_16, gf38_3, ia41 (i := i) h6, is46 (i := i) (by omega), ci, n_add]
    refine l_img1 d k (i + 1) _ (by omega) (fun m' h1 h2 => hK m' (fun p hp => (h1 p hp).trans (q_up_f _ _ _ hp)) (fun x => ?_))
    rw [h2 x, q_up_f _ _ _ (show 41 ≠ 46 by decide)]
    by_cases q : x = i
    · subst q; rw [if_neg (by omega), if_pos (by omega), q_up_eq]
    · rw [q_up_i _ _ q]
      by_cases q2 : i ≤ x ∧ x < 18
      · rw [if_pos q2, if_pos (by omega)]
      · rw [if_neg q2, if_neg (by omega)]
theorem l_img2 (d : Nat) : ∀ k i m, i + k = 36 → (∀ m', (∀ p, p ≠ 46 → m' p = m p) → (∀ x, m' 46 x = if 18 + i ≤ x ∧ x < 54 then m 42 (x - 18) else m 46 x) → q_R 193 84 d [some (.ref 38), some (.int (nI 36))] [] (GG T L) m' K) →
    q_R 193 57 d [some (.ref 38), some (.int (nI i))] [] (GG T L) m K
  | 0, i, m, hi, hK => by
    have h6 : i = 36 := by omega
    have e36 : (nI 36 < nI 36) = False := eq_false (by decide)
    subst h6
    simp only [u193_57, u193_58, u193_60, q_push_s, q_push_n, q_sm_0, q_sm_i, q_sm_r, q_sm_n, q_sm_l, q_c1_0, q_c1_i, q_c1_r, q_c1_n, Nat.zero_add, Nat.reduceAdd, Nat.reduceMul, Nat.reduceSub, Nat.reduceLeDiff, Nat.reduceLT, Nat.reduceEqDiff, true_and, and_true, not_false_eq_true, if_true, if_false, ite_true, ite_false, or_true, true_or, or_false, false_or, not_true_eq_false, e36]
    exact hK m (fun _ _ => rfl) (fun g => by rw [if_neg (by omega)])
  | k + 1, i, m, hi, hK => by
    have h6 : i < 36 := by omega
    have ci : (nI (18 + i)).toNatClampNeg = 18 + i := n_cl (by omega)
    rw [u193_57]
    simp only [u193_58, u193_60, u193_63, u193_64, u193_67, u193_69, u193_70, u193_71, u193_72, u193_75, u193_76, u193_77, u193_78, u193_81, q_push_s, q_push_n, q_sm_0, q_sm_i, q_sm_r, q_sm_n, q_sm_l, q_c1_0, q_c1_i, q_c1_r, q_c1_n, Nat.zero_add, Nat.reduceAdd, Nat.reduceMul, Nat.reduceSub, Nat.reduceLeDiff, Nat.reduceLT, Nat.reduceEqDiff, true_and, and_true, not_false_eq_true, if_true, if_false, ite_true, ite_false, or_true, true_or, or_false, false_or, not_true_eq_false, n_lt (i := i) (j := 36) (by omega) (by decide), h6, gf38_16, gf38_4, ia42 (i := i) h6, is46 (i := 18 + i) (by omega), ci, n_add]
    refine l_img2 d k (i + 1) _ (by omega) (fun m' h1 h2 => hK m' (fun p hp => (h1 p hp).trans (q_up_f _ _ _ hp)) (fun x => ?_))
    rw [h2 x, q_up_f _ _ _ (show 42 ≠ 46 by decide)]
    by_cases q : x = 18 + i
    · subst q; rw [if_neg (by omega), if_pos (by omega), q_up_eq, Nat.add_sub_cancel_left]
    · rw [q_up_i _ _ q]
      by_cases q2 : 18 + i ≤ x ∧ x < 54
      · rw [if_pos q2, if_pos (by omega)]
      · rw [if_neg q2, if_neg (by omega)]
theorem l_bck1 (d : Nat) : ∀ k i m, i + k = 18 → (∀ m', (∀ p, p ≠ 41 → m' p = m p) → (∀ x, m' 41 x = if i ≤ x ∧ x < 18 then m 46 x else m 41 x) → q_R 194 60 d [some (.ref 38), some (.int (nI 18))] [] (GG T L) m' K) →
    q_R 194 36 d [some (.ref 38), some (.int (nI i))] [] (GG T L) m K
  | 0, i, m, hi, hK => by
    have h6 : i = 18 := by omega
    have e36 : (nI 18 < nI 18) = False := eq_false (by decide)
    subst h6
    simp only [u194_36, u194_37, u194_39, q_push_s, q_push_n, q_sm_0, q_sm_i, q_sm_r, q_sm_n, q_sm_l, q_c1_0, q_c1_i, q_c1_r, q_c1_n, Nat.zero_add, Nat.reduceAdd, Nat.reduceMul, Nat.reduceSub, Nat.reduceLeDiff, Nat.reduceLT, Nat.reduceEqDiff, true_and, and_true, not_false_eq_true, if_true, if_false, ite_true, ite_false, or_true, true_or, or_false, false_or, not_true_eq_false, e36]
    exact hK m (fun _ _ => rfl) (fun g => by rw [if_neg (by omega)])
  | k + 1, i, m, hi, hK => by
    have h6 : i < 18 := by omega
    have ci : (nI i).toNatClampNeg = i := n_cl (by omega)
    rw [u194_36]
    simp only [u194_37, u194_39, u194_42, u194_43, u194_46, u194_47, u194_48, u194_51, u194_52, u194_53, u194_54, u194_57, q_push_s, q_push_n, q_sm_0, q_sm_i, q_sm_r, q_sm_n, q_sm_l, q_c1_0, q_c1_i, q_c1_r, q_c1_n, Nat.zero_add, Nat.reduceAdd, Nat.reduceMul, Nat.reduceSub, Nat.reduceLeDiff, Nat.reduceLT, Nat.reduceEqDiff, true_and, and_true, not_false_eq_true, if_true, if_false, ite_true, ite_false, or_true, true_or, or_false, false_or, not_true_eq_false, n_lt (i := i) (j := 18) (by omega) (by decide), h6, gf38_16, gf38_3, ia46 (i := i) (by omega), is41 (i := i) (by omega), ci, n_add]
    refine l_bck1 d k (i + 1) _ (by omega) (fun m' h1 h2 => hK m' (fun p hp => (h1 p hp).trans (q_up_f _ _ _ hp)) (fun x => ?_))
    rw [h2 x, q_up_f _ _ _ (show 46 ≠ 41 by decide)]
    by_cases q : x = i
    · subst q; rw [if_neg (by omega), if_pos (by omega), q_up_eq]
    · rw [q_up_i _ _ q]
      by_cases q2 : i ≤ x ∧ x < 18
      · rw [if_pos q2, if_pos (by omega)]
      · rw [if_neg q2, if_neg (by omega)]
theorem l_bck2 (d : Nat) : ∀ k i m, i + k = 36 → (∀ m', (∀ p, p ≠ 42 → m' p = m p) → (∀ x, m' 42 x = if i ≤ x ∧ x < 36 then m 46 (18 + x) else m 42 x) → q_R 194 89 d [some (.ref 38), some (.int (nI 36))] [] (GG T L) m' K) →
    q_R 194 62 d [some (.ref 38), some (.int (nI i))] [] (GG T L) m K
  | 0, i, m, hi, hK => by
    have h6 : i = 36 := by omega
    have e36 : (nI 36 < nI 36) = False := eq_false (by decide)
    subst h6
    simp only [u194_62, u194_63, u194_65, q_push_s, q_push_n, q_sm_0, q_sm_i, q_sm_r, q_sm_n, q_sm_l, q_c1_0, q_c1_i, q_c1_r, q_c1_n, Nat.zero_add, Nat.reduceAdd, Nat.reduceMul, Nat.reduceSub, Nat.reduceLeDiff, Nat.reduceLT, Nat.reduceEqDiff, true_and, and_true, not_false_eq_true, if_true, if_false, ite_true, ite_false, or_true, true_or, or_false, false_or, not_true_eq_false, e36]
    exact hK m (fun _ _ => rfl) (fun g => by rw [if_neg (by omega)])
  | k + 1, i, m, hi, hK => by
    have h6 : i < 36 := by omega
    have ci : (nI i).toNatClampNeg = i := n_cl (by omega)
    rw [u194_62]
    simp only [u194_63, u194_65, u194_68, u194_69, u194_72, u194_73, u194_74, u194_77, u194_79, u194_80, u194_81, u194_82, u194_83, u194_86, q_push_s, q_push_n, q_sm_0, q_sm_i, q_sm_r, q_sm_n, q_sm_l, q_c1_0, q_c1_i, q_c1_r, q_c1_n, Nat.zero_add, Nat.reduceAdd, Nat.reduceMul, Nat.reduceSub, Nat.reduceLeDiff, Nat.reduceLT, Nat.reduceEqDiff, true_and, and_true, not_false_eq_true, if_true, if_false, ite_true, ite_false, or_true, true_or, or_false, false_or, not_true_eq_false, n_lt (i := i) (j := 36) (by omega) (by decide), h6, gf38_16, gf38_4, ia46 (i := 18 + i) (by omega), is42 (i := i) (by omega), ci, n_add]
    refine l_bck2 d k (i + 1) _ (by omega) (fun m' h1 h2 => hK m' (fun p hp => (h1 p hp).trans (q_up_f _ _ _ hp)) (fun x => ?_))
    rw [h2 x, q_up_f _ _ _ (show 46 ≠ 42 by decide)]
    by_cases q : x = i
    · subst q; rw [if_neg (by omega), if_pos (by omega), q_up_eq]
    · rw [q_up_i _ _ q]
      by_cases q2 : i ≤ x ∧ x < 36
      · rw [if_pos q2, if_pos (by omega)]
      · rw [if_neg q2, if_neg (by omega)]
end
section
variable {T : List Nat} {L d : Nat} {xs : Nat → Int32} {s : ZS} {tx : Nat → Nat → List Nat} {n : Nat} {tp : Nat → Nat} {z : Nat} {h : ZH} {wd : Nat → Int32} {m : q_M} {K : Option Value → Option Value → q_G → q_M → Prop}
theorem p_image (l : LJ T L xs s tx n tp z h wd m) (hK : ∀ r m', LJ T L xs s tx n tp z h wd m' → K (some (.int r)) (some (.int r)) (GG T L) m') :
    q_C 93 (d + 3) [.ref 0] (GG T L) m (fun v g m => q_C 193 (d + 3) [.ref 38] g m (fun v' g m => K v v' g m)) := by
  have h6 := l.bz.1
  simp only [e93, u93_0, u93_1, u93_4, u93_5, u93_8, q_push_s, q_push_n, q_sm_0, q_sm_i, q_sm_r, q_sm_n, q_sm_l, q_c1_0, q_c1_i, q_c1_r, q_c1_n, Nat.zero_add, Nat.reduceAdd, Nat.reduceMul, Nat.reduceSub, Nat.reduceLeDiff, Nat.reduceLT, Nat.reduceEqDiff, true_and, and_true, not_false_eq_true, if_true, if_false, ite_true, ite_false, or_true, true_or, or_false, false_or, not_true_eq_false, gf0_2, gf0_3, io19, Nat.zero_le, Nat.reduceLeDiff]
  refine c_become (Or.inl ⟨rfl, rfl⟩) l.cl.ck h6 (fun m1 f1 hC => ?_)
  have q0 : m1 38 = m 38 := f1 38 (by decide)
  have e30 : m1 3 0 = nI (s.1 0) := by rw [f1 3 (by decide)]; exact l.cl.n
  simp only [u93_11, u93_12, u93_13, u93_16, u93_17, u93_20, u93_23, q_push_s, q_push_n, q_sm_0, q_sm_i, q_sm_r, q_sm_n, q_sm_l, q_c1_0, q_c1_i, q_c1_r, q_c1_n, Nat.zero_add, Nat.reduceAdd, Nat.reduceMul, Nat.reduceSub, Nat.reduceLeDiff, Nat.reduceLT, Nat.reduceEqDiff, true_and, and_true, not_false_eq_true, if_true, if_false, ite_true, ite_false, or_true, true_or, or_false, false_or, not_true_eq_false, eq_self, lq_0_1, lq_0_2, lq_0_3, lq_0_4, lq_0_5, lq_0_6, lq_1_0, lq_1_2, lq_1_3, lq_1_4, lq_1_5, lq_1_6, lq_2_0, lq_2_1, lq_2_3, lq_2_4, lq_2_5, lq_2_6, lq_3_0, lq_3_1, lq_3_2, lq_3_4, lq_3_5, lq_3_6, lq_4_0, lq_4_1, lq_4_2, lq_4_3, lq_4_5, lq_4_6, lq_5_0, lq_5_1, lq_5_2, lq_5_3, lq_5_4, lq_5_6, lq_6_0, lq_6_1, lq_6_2, lq_6_3, lq_6_4, lq_6_5, ll_0_0, ll_0_1, ll_0_2, ll_0_3, ll_0_4, ll_0_5, ll_0_6, ll_1_0, ll_1_1, ll_1_2, ll_1_3, ll_1_4, ll_1_5, ll_1_6, ll_2_0, ll_2_1, ll_2_2, ll_2_3, ll_2_4, ll_2_5, ll_2_6, ll_3_0, ll_3_1, ll_3_2, ll_3_3, ll_3_4, ll_3_5, ll_3_6, ll_4_0, ll_4_1, ll_4_2, ll_4_3, ll_4_4, ll_4_5, ll_4_6, ll_5_0, ll_5_1, ll_5_2, ll_5_3, ll_5_4, ll_5_5, ll_5_6, ll_6_0, ll_6_1, ll_6_2, ll_6_3, ll_6_4, ll_6_5, ll_6_6, le_0_0, le_0_1, le_0_2, le_0_3, le_0_4, le_0_5, le_0_6, le_1_0, le_1_1, le_1_2, le_1_3, le_1_4, le_1_5, le_1_6, le_2_0, le_2_1, le_2_2, le_2_3, le_2_4, le_2_5, le_2_6, le_3_0, le_3_1, le_3_2, le_3_3, le_3_4, le_3_5, le_3_6, le_4_0, le_4_1, le_4_2, le_4_3, le_4_4, le_4_5, le_4_6, le_5_0, le_5_1, le_5_2, le_5_3, le_5_4, le_5_5, le_5_6, le_6_0, le_6_1, le_6_2, le_6_3, le_6_4, le_6_5, le_6_6, z_r1, gf0_2, gf3_0, pfz0_4, q_up_f, ne_eq, e30, e193, u193_0, u193_1, u193_2, u193_5, u193_6, u193_7, u193_10, u193_13, u193_14, u193_15, u193_18, u193_21, u193_22, u193_23, u193_26, u193_29, u193_30, pfz38_12, pf38_13, pf38_14, pf38_15, gf38_0, gf38_5, gf38_11]
  refine l_img1 _ 18 0 _ rfl (fun m2 f2 g2 => ?_)
  simp only [u193_55, u193_56, q_push_s, q_push_n, q_sm_0, q_sm_i, q_sm_r, q_sm_n, q_sm_l, q_c1_0, q_c1_i, q_c1_r, q_c1_n, Nat.zero_add, Nat.reduceAdd, Nat.reduceMul, Nat.reduceSub, Nat.reduceLeDiff, Nat.reduceLT, Nat.reduceEqDiff, true_and, and_true, not_false_eq_true, if_true, if_false, ite_true, ite_false, or_true, true_or, or_false, false_or, not_true_eq_false]
  refine l_img2 _ 36 0 _ rfl (fun m3 f3 g3 => ?_)
  have hm1 : ∀ p, ¬ (19 ≤ p ∧ p < 26) → p ≠ 46 → p ≠ 38 → p ≠ 0 → m3 p = m p := by
    intro p p1 p2 p3 p4
    rw [f3 p p2, f2 p p2, q_up_f _ _ _ p3, q_up_f _ _ _ p3, q_up_f _ _ _ p3, q_up_f _ _ _ p3, q_up_f _ _ _ p4]
    exact f1 p (by omega)
  have h38 : ∀ f, ¬ (12 ≤ f ∧ f < 16) → m3 38 f = m 38 f := by
    intro f hf
    rw [f3 38 (by decide), f2 38 (by decide), q_up_i _ _ (by omega), q_up_i _ _ (by omega), q_up_i _ _ (by omega), q_up_i _ _ (by omega), q_up_f _ _ _ (by decide), q0]
  have h0 : m3 0 4 = nI 1 := by
    rw [f3 0 (by decide), f2 0 (by decide), q_up_f _ _ _ (by decide), q_up_f _ _ _ (by decide), q_up_f _ _ _ (by decide), q_up_f _ _ _ (by decide), q_up_eq]
  have h12 : m3 38 12 = nI 1 ∧ m3 38 13 = nI (s.1 0) ∧ m3 38 14 = nI (s.1 1) ∧ m3 38 15 = nI (s.1 2) := by
    rw [f3 38 (by decide), f2 38 (by decide)]
    simp [q_up, q0, l.mo.n, l.mo.nt, l.mo.lw]
  have h46a : ∀ x, x < 18 → m3 46 x = m 41 x := by
    intro x hx
    rw [g3 x, if_neg (by omega), g2 x, if_pos (by omega)]
    simp only [q_up_f, ne_eq, Nat.reduceEqDiff, not_false_eq_true]
    rw [f1 41 (by decide)]
  have h46b : ∀ x, x < 36 → m3 46 (18 + x) = m 42 x := by
    intro x hx
    rw [g3 (18 + x), if_pos (by omega), Nat.add_sub_cancel_left, f2 42 (by decide)]
    simp only [q_up_f, ne_eq, Nat.reduceEqDiff, not_false_eq_true]
    rw [f1 42 (by decide)]
  have hl : LJ T L xs s tx n tp z h wd m3 := by
    refine l.gen (fun k q => hm1 k (by omega) (by omega) (by omega) (by omega)) (by rw [hm1 2 (by decide) (by decide) (by decide) (by decide)]) (h38 10 (by decide)) l.bz l.iw.2.2.1 (l.cl.fr (fun k k1 k2 => hm1 k (by omega) (by omega) (by omega) (by omega))) (l.mo.fr (h38 0 (by decide)) (h38 5 (by decide)) (h38 11 (by decide)) (fun k k1 k2 => hm1 k (by omega) (by omega) (by omega) (by omega))) ?_ ?_ ?_
    · exact l.tpe.fr (by rw [hm1 26 (by decide) (by decide) (by decide) (by decide)]) (h38 7 (by decide)) (hm1 27 (by decide) (by decide) (by decide) (by decide)) (hm1 43 (by decide) (by decide) (by decide) (by decide))
    · refine Or.inr ⟨s, h0, h12.1, l.bz, l.iw.2.2.1, Nat.le_refl _, fun g _ => ⟨rfl, rfl⟩, hC.fr2 (fun k k1 k2 => ?_), h12.2.1, h12.2.2.1, h12.2.2.2, fun g hg r hr => ?_, fun i hi => ?_⟩
      · rw [f3 k (by omega), f2 k (by omega), q_up_f _ _ _ (by omega), q_up_f _ _ _ (by omega), q_up_f _ _ _ (by omega), q_up_f _ _ _ (by omega), q_up_f _ _ _ (by omega)]
      · rw [h46a _ (by omega)]; exact l.mo.2.2.1 g hg r hr
      · rw [h46b _ hi]; exact l.mo.of i hi
    · exact l.sh.fr (fun k k1 k2 => hm1 k (by omega) (by omega) (by omega) (by omega)) (hm1 47 (by decide) (by decide) (by decide) (by decide)) (hm1 48 (by decide) (by decide) (by decide) (by decide)) (hm1 49 (by decide) (by decide) (by decide) (by decide))
  simp only [u193_84, u193_85, u193_88, q_push_s, q_push_n, q_sm_0, q_sm_i, q_sm_r, q_sm_n, q_sm_l, q_c1_0, q_c1_i, q_c1_r, q_c1_n, Nat.zero_add, Nat.reduceAdd, Nat.reduceMul, Nat.reduceSub, Nat.reduceLeDiff, Nat.reduceLT, Nat.reduceEqDiff, true_and, and_true, not_false_eq_true, if_true, if_false, ite_true, ite_false, or_true, true_or, or_false, false_or, not_true_eq_false, gf38_0, hl.mo.n]
  exact hK _ _ hl
theorem p_back (l : LJ T L xs s tx n tp z h wd m) (hK : ∀ r s' m', LJ T L xs s' tx n tp z h wd m' → K (some (.int r)) (some (.int r)) (GG T L) m') :
    q_C 94 (d + 3) [.ref 0] (GG T L) m (fun v g m => q_C 194 (d + 3) [.ref 38] g m (fun v' g m => K v v' g m)) := by
  have h6 := l.bz.1
  rcases l.im with ⟨i1, i2⟩ | ⟨si, i1, i2, i3, i4, i5, i6, i7, i8, i9, i10, i11, i12⟩
  · simp only [e94, u94_0, u94_1, u94_4, u94_7, u94_9, u94_10, u94_11, u94_14, u94_15, u94_18, u94_21, u94_22, u94_25, u94_28, e94, e194, u194_0, u194_1, u194_4, u194_7, u194_9, q_push_s, q_push_n, q_sm_0, q_sm_i, q_sm_r, q_sm_n, q_sm_l, q_c1_0, q_c1_i, q_c1_r, q_c1_n, Nat.zero_add, Nat.reduceAdd, Nat.reduceMul, Nat.reduceSub, Nat.reduceLeDiff, Nat.reduceLT, Nat.reduceEqDiff, true_and, and_true, not_false_eq_true, if_true, if_false, ite_true, ite_false, or_true, true_or, or_false, false_or, not_true_eq_false, eq_self, lq_0_1, lq_0_2, lq_0_3, lq_0_4, lq_0_5, lq_0_6, lq_1_0, lq_1_2, lq_1_3, lq_1_4, lq_1_5, lq_1_6, lq_2_0, lq_2_1, lq_2_3, lq_2_4, lq_2_5, lq_2_6, lq_3_0, lq_3_1, lq_3_2, lq_3_4, lq_3_5, lq_3_6, lq_4_0, lq_4_1, lq_4_2, lq_4_3, lq_4_5, lq_4_6, lq_5_0, lq_5_1, lq_5_2, lq_5_3, lq_5_4, lq_5_6, lq_6_0, lq_6_1, lq_6_2, lq_6_3, lq_6_4, lq_6_5, ll_0_0, ll_0_1, ll_0_2, ll_0_3, ll_0_4, ll_0_5, ll_0_6, ll_1_0, ll_1_1, ll_1_2, ll_1_3, ll_1_4, ll_1_5, ll_1_6, ll_2_0, ll_2_1, ll_2_2, ll_2_3, ll_2_4, ll_2_5, ll_2_6, ll_3_0, ll_3_1, ll_3_2, ll_3_3, ll_3_4, ll_3_5, ll_3_6, ll_4_0, ll_4_1, ll_4_2, ll_4_3, ll_4_4, ll_4_5, ll_4_6, ll_5_0, ll_5_1, ll_5_2, ll_5_3, ll_5_4, ll_5_5, ll_5_6, ll_6_0, ll_6_1, ll_6_2, ll_6_3, ll_6_4, ll_6_5, ll_6_6, le_0_0, le_0_1, le_0_2, le_0_3, le_0_4, le_0_5, le_0_6, le_1_0, le_1_1, le_1_2, le_1_3, le_1_4, le_1_5, le_1_6, le_2_0, le_2_1, le_2_2, le_2_3, le_2_4, le_2_5, le_2_6, le_3_0, le_3_1, le_3_2, le_3_3, le_3_4, le_3_5, le_3_6, le_4_0, le_4_1, le_4_2, le_4_3, le_4_4, le_4_5, le_4_6, le_5_0, le_5_1, le_5_2, le_5_3, le_5_4, le_5_5, le_5_6, le_6_0, le_6_1, le_6_2, le_6_3, le_6_4, le_6_5, le_6_6, gf0_4, gf38_12, i1, i2]
    exact hK _ _ _ l
  · have hs6 : si.1 0 ≤ 6 := i3.1
    simp only [e94, u94_0, u94_1, u94_4, u94_7, u94_9, u94_10, u94_11, u94_14, u94_15, u94_18, q_push_s, q_push_n, q_sm_0, q_sm_i, q_sm_r, q_sm_n, q_sm_l, q_c1_0, q_c1_i, q_c1_r, q_c1_n, Nat.zero_add, Nat.reduceAdd, Nat.reduceMul, Nat.reduceSub, Nat.reduceLeDiff, Nat.reduceLT, Nat.reduceEqDiff, true_and, and_true, not_false_eq_true, if_true, if_false, ite_true, ite_false, or_true, true_or, or_false, false_or, not_true_eq_false, eq_self, lq_0_1, lq_0_2, lq_0_3, lq_0_4, lq_0_5, lq_0_6, lq_1_0, lq_1_2, lq_1_3, lq_1_4, lq_1_5, lq_1_6, lq_2_0, lq_2_1, lq_2_3, lq_2_4, lq_2_5, lq_2_6, lq_3_0, lq_3_1, lq_3_2, lq_3_4, lq_3_5, lq_3_6, lq_4_0, lq_4_1, lq_4_2, lq_4_3, lq_4_5, lq_4_6, lq_5_0, lq_5_1, lq_5_2, lq_5_3, lq_5_4, lq_5_6, lq_6_0, lq_6_1, lq_6_2, lq_6_3, lq_6_4, lq_6_5, ll_0_0, ll_0_1, ll_0_2, ll_0_3, ll_0_4, ll_0_5, ll_0_6, ll_1_0, ll_1_1, ll_1_2, ll_1_3, ll_1_4, ll_1_5, ll_1_6, ll_2_0, ll_2_1, ll_2_2, ll_2_3, ll_2_4, ll_2_5, ll_2_6, ll_3_0, ll_3_1, ll_3_2, ll_3_3, ll_3_4, ll_3_5, ll_3_6, ll_4_0, ll_4_1, ll_4_2, ll_4_3, ll_4_4, ll_4_5, ll_4_6, ll_5_0, ll_5_1, ll_5_2, ll_5_3, ll_5_4, ll_5_5, ll_5_6, ll_6_0, ll_6_1, ll_6_2, ll_6_3, ll_6_4, ll_6_5, ll_6_6, le_0_0, le_0_1, le_0_2, le_0_3, le_0_4, le_0_5, le_0_6, le_1_0, le_1_1, le_1_2, le_1_3, le_1_4, le_1_5, le_1_6, le_2_0, le_2_1, le_2_2, le_2_3, le_2_4, le_2_5, le_2_6, le_3_0, le_3_1, le_3_2, le_3_3, le_3_4, le_3_5, le_3_6, le_4_0, le_4_1, le_4_2, le_4_3, le_4_4, le_4_5, le_4_6, le_5_0, le_5_1, le_5_2, le_5_3, le_5_4, le_5_5, le_5_6, le_6_0, le_6_1, le_6_2, le_6_3, le_6_4, le_6_5, le_6_6, gf0_2, gf0_3, gf0_4, i1, io3, Nat.zero_le, Nat.reduceLeDiff]
    refine c_become (Or.inr ⟨rfl, rfl⟩) i7 hs6 (fun m1 f1 hC => ?_)
    have q0 : m1 38 = m 38 := f1 38 (by decide)
    have e30 : m1 3 0 = nI (si.1 0) := hC.1 0 (by decide)
    have hCl : ICl 3 si m1 := by
      refine ⟨hC.1, fun r hr g hg => ?_, hC.2.2⟩
      by_cases q : 2 ≤ r
      · exact hC.2.1 r hr q g hg
      · have hr' : r = 0 ∨ r = 1 := by omega
        rcases hr' with rfl | rfl
        · rw [f1 (3 + 1 + 0) (by omega), (i6 g hg).1]; exact l.cl.2.1 0 (by decide) g (by omega)
        · rw [f1 (3 + 1 + 1) (by omega), (i6 g hg).2]; exact l.cl.2.1 1 (by decide) g (by omega)
    simp only [u94_21, u94_22, u94_25, u94_28, q_push_s, q_push_n, q_sm_0, q_sm_i, q_sm_r, q_sm_n, q_sm_l, q_c1_0, q_c1_i, q_c1_r, q_c1_n, Nat.zero_add, Nat.reduceAdd, Nat.reduceMul, Nat.reduceSub, Nat.reduceLeDiff, Nat.reduceLT, Nat.reduceEqDiff, true_and, and_true, not_false_eq_true, if_true, if_false, ite_true, ite_false, or_true, true_or, or_false, false_or, not_true_eq_false, eq_self, lq_0_1, lq_0_2, lq_0_3, lq_0_4, lq_0_5, lq_0_6, lq_1_0, lq_1_2, lq_1_3, lq_1_4, lq_1_5, lq_1_6, lq_2_0, lq_2_1, lq_2_3, lq_2_4, lq_2_5, lq_2_6, lq_3_0, lq_3_1, lq_3_2, lq_3_4, lq_3_5, lq_3_6, lq_4_0, lq_4_1, lq_4_2, lq_4_3, lq_4_5, lq_4_6, lq_5_0, lq_5_1, lq_5_2, lq_5_3, lq_5_4, lq_5_6, lq_6_0, lq_6_1, lq_6_2, lq_6_3, lq_6_4, lq_6_5, ll_0_0, ll_0_1, ll_0_2, ll_0_3, ll_0_4, ll_0_5, ll_0_6, ll_1_0, ll_1_1, ll_1_2, ll_1_3, ll_1_4, ll_1_5, ll_1_6, ll_2_0, ll_2_1, ll_2_2, ll_2_3, ll_2_4, ll_2_5, ll_2_6, ll_3_0, ll_3_1, ll_3_2, ll_3_3, ll_3_4, ll_3_5, ll_3_6, ll_4_0, ll_4_1, ll_4_2, ll_4_3, ll_4_4, ll_4_5, ll_4_6, ll_5_0, ll_5_1, ll_5_2, ll_5_3, ll_5_4, ll_5_5, ll_5_6, ll_6_0, ll_6_1, ll_6_2, ll_6_3, ll_6_4, ll_6_5, ll_6_6, le_0_0, le_0_1, le_0_2, le_0_3, le_0_4, le_0_5, le_0_6, le_1_0, le_1_1, le_1_2, le_1_3, le_1_4, le_1_5, le_1_6, le_2_0, le_2_1, le_2_2, le_2_3, le_2_4, le_2_5, le_2_6, le_3_0, le_3_1, le_3_2, le_3_3, le_3_4, le_3_5, le_3_6, le_4_0, le_4_1, le_4_2, le_4_3, le_4_4, le_4_5, le_4_6, le_5_0, le_5_1, le_5_2, le_5_3, le_5_4, le_5_5, le_5_6, le_6_0, le_6_1, le_6_2, le_6_3, le_6_4, le_6_5, le_6_6, gf0_2, gf3_0, e30, e194, u194_0, u194_1, u194_4, u194_7, u194_9, u194_10, u194_11, u194_12, u194_15, u194_18, u194_19, u194_20, u194_23, u194_26, u194_27, u194_28, u194_31, u194_34, u194_35, pf38_0, pf38_5, pf38_11, gf38_12, gf38_13, gf38_14, gf38_15, q0, i2]
    refine l_bck1 _ 18 0 _ rfl (fun m2 f2 g2 => ?_)
    simp only [u194_60, u194_61, q_push_s, q_push_n, q_sm_0, q_sm_i, q_sm_r, q_sm_n, q_sm_l, q_c1_0, q_c1_i, q_c1_r, q_c1_n, Nat.zero_add, Nat.reduceAdd, Nat.reduceMul, Nat.reduceSub, Nat.reduceLeDiff, Nat.reduceLT, Nat.reduceEqDiff, true_and, and_true, not_false_eq_true, if_true, if_false, ite_true, ite_false, or_true, true_or, or_false, false_or, not_true_eq_false]
    refine l_bck2 _ 36 0 _ rfl (fun m3 f3 g3 => ?_)
    have hm1 : ∀ p, ¬ (3 ≤ p ∧ p < 10) → p ≠ 41 → p ≠ 42 → p ≠ 38 → m3 p = m p := by
      intro p p1 p2 p3 p4
      rw [f3 p p3, f2 p p2, q_up_f _ _ _ p4, q_up_f _ _ _ p4, q_up_f _ _ _ p4]
      exact f1 p (by omega)
    have h38 : ∀ f, f ≠ 0 → f ≠ 5 → f ≠ 11 → m3 38 f = m 38 f := by
      intro f q1 q2 q3
      rw [f3 38 (by decide), f2 38 (by decide), q_up_i _ _ q3, q_up_i _ _ q2, q_up_i _ _ q1, q0]
    have h12 : m3 38 0 = nI (si.1 0) ∧ m3 38 5 = nI (si.1 1) ∧ m3 38 11 = nI (si.1 2) := by
      rw [f3 38 (by decide), f2 38 (by decide)]
      simp [q_up, q0, i8, i9, i10]
    have hl : LJ T L xs si tx n tp z h wd m3 := by
      refine l.gen (fun k q => hm1 k (by omega) (by omega) (by omega) (by omega)) (by rw [hm1 2 (by decide) (by decide) (by decide) (by decide)]) (h38 10 (by decide) (by decide) (by decide)) i3 i4 (hCl.fr (fun k k1 k2 => ?_)) ⟨h12, fun g hg => ?_, fun g hg r hr => ?_, fun i hi => ?_⟩ ?_ ?_ ?_
      · rw [f3 k (by omega), f2 k (by omega), q_up_f _ _ _ (by omega), q_up_f _ _ _ (by omega), q_up_f _ _ _ (by omega)]
      · rw [hm1 39 (by decide) (by decide) (by decide) (by decide), hm1 40 (by decide) (by decide) (by decide) (by decide), (i6 g hg).1, (i6 g hg).2]
        exact l.mo.2.1 g (by omega)
      · rw [f3 41 (by decide), g2 _, if_pos (by omega)]
        simp only [q_up_f, ne_eq, Nat.reduceEqDiff, not_false_eq_true]
        rw [f1 46 (by decide)]; exact i11 g hg r hr
      · rw [g3 _, if_pos (by omega), f2 46 (by decide)]
        simp only [q_up_f, ne_eq, Nat.reduceEqDiff, not_false_eq_true]
        rw [f1 46 (by decide)]; exact i12 i hi
      · exact l.tpe.fr (by rw [hm1 26 (by decide) (by decide) (by decide) (by decide)]) (h38 7 (by decide) (by decide) (by decide)) (hm1 27 (by decide) (by decide) (by decide) (by decide)) (hm1 43 (by decide) (by decide) (by decide) (by decide))
      · refine Or.inr ⟨si, ?_, ?_, i3, i4, Nat.le_refl _, fun g _ => ⟨rfl, rfl⟩, i7.fr2 (fun k k1 k2 => hm1 k (by omega) (by omega) (by omega) (by omega)), ?_, ?_, ?_, ?_⟩
        · rw [hm1 0 (by decide) (by decide) (by decide) (by decide)]; exact i1
        · rw [h38 12 (by decide) (by decide) (by decide)]; exact i2
        · rw [h38 13 (by decide) (by decide) (by decide)]; exact i8
        · rw [h38 14 (by decide) (by decide) (by decide)]; exact i9
        · rw [h38 15 (by decide) (by decide) (by decide)]; exact i10
        · rw [hm1 46 (by decide) (by decide) (by decide) (by decide)]; exact ⟨i11, i12⟩
      · exact l.sh.fr (fun k k1 k2 => hm1 k (by omega) (by omega) (by omega) (by omega)) (hm1 47 (by decide) (by decide) (by decide) (by decide)) (hm1 48 (by decide) (by decide) (by decide) (by decide)) (hm1 49 (by decide) (by decide) (by decide) (by decide))
    simp only [u194_89, u194_90, u194_93, q_push_s, q_push_n, q_sm_0, q_sm_i, q_sm_r, q_sm_n, q_sm_l, q_c1_0, q_c1_i, q_c1_r, q_c1_n, Nat.zero_add, Nat.reduceAdd, Nat.reduceMul, Nat.reduceSub, Nat.reduceLeDiff, Nat.reduceLT, Nat.reduceEqDiff, true_and, and_true, not_false_eq_true, if_true, if_false, ite_true, ite_false, or_true, true_or, or_false, false_or, not_true_eq_false, gf38_0, hl.mo.n]
    exact hK _ _ _ hl
end
