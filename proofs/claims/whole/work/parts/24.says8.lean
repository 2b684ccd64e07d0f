/-! ===== says, the reference's ===== -/
section
variable {T : List Nat} {L : Nat} {K : Option Value → q_G → q_M → Prop}
theorem l_says8 {r p : Nat} (hr : r < 6) (hp : p < 3) (nm : Nat → Int32) (d : Nat) : ∀ (l : List Nat) (m : q_M) (k n b : Nat) (s : Nat → Int32) (a4 : Option Value),
    (∀ i (h : i < l.length), m 44 (200 * r + (k + i)) = nI l[i]) → m 45 (4 * r + p + 1) = nI (k + l.length) → k + l.length ≤ 200 → m 38 11 = nI r → (∀ c, c < 6 → m 54 c = nm c) →
    (∀ i, i < n → m 53 i = s i) → n ≤ 40 → z_rp l n b →
    (∀ m' k' n' a4, (∀ j, j ≠ 53 → m' j = m j) → (∀ i, i < b → m' 53 i = z_ev nm l s n i) → q_R 138 197 (d + 1) [some (.ref 38), some (.int (nI p)), some (.int (nI n')), some (.int (nI k')), a4] [] (GG T L) m' K) →
    q_R 138 16 (d + 1) [some (.ref 38), some (.int (nI p)), some (.int (nI n)), some (.int (nI k)), a4] [] (GG T L) m K
  | [], m, k, n, b, s, a4, hl, he, hk, hrr, hn, hs, hn4, hw, hK => by
    have e : (nI k < nI (k + ([] : List Nat).length)) = False := eq_false (by rw [List.length_nil, Nat.add_zero]; exact nI_nlt (Nat.le_refl k) (by simp only [List.length_nil, Nat.add_zero] at hk; omega))
    rw [u138_16]
    simp only [u138_17, u138_18, u138_21, u138_22, u138_23, u138_26, u138_27, u138_28, u138_29, u138_30, u138_31, u138_32, q_push_s, q_push_n, q_sm_0, q_sm_i, q_sm_r, q_sm_n, q_sm_l, q_c1_0, q_c1_i, q_c1_r, q_c1_n, Nat.zero_add, Nat.reduceAdd, Nat.reduceMul, Nat.reduceSub, Nat.reduceLeDiff, Nat.reduceLT, Nat.reduceEqDiff, true_and, and_true, not_false_eq_true, if_true, if_false, ite_true, ite_false, or_true, true_or, or_false, false_or, not_true_eq_false, gf38_9, gf38_11, hrr, n_mul, n_add, ia45 (i := 4 * r + p + 1) (by omega), he, e]
    have hw' : n = b := hw
    subst hw'
    exact hK m k n a4 (fun j _ => rfl) hs
  | c :: l, m, k, n, b, s, a4, hl, he, hk, hrr, hn, hs, hn4, hw, hK => by
    rw [List.length_cons] at he hk
    have e : (nI k < nI (k + (l.length + 1))) = True := eq_true (nI_lt (by omega) (by omega))
    have hc : m 44 (200 * r + k) = nI c := hl 0 (by rw [List.length_cons]; omega)
    have hl2 : ∀ (m' : q_M), m' 44 = m 44 → ∀ i (h : i < l.length), m' 44 (200 * r + (k + 1 + i)) = nI l[i] := by
      intro m' e i h
      have := hl (i + 1) (by rw [List.length_cons]; omega)
      rw [List.getElem_cons_succ] at this
      rw [e, ← this]
      congr 1
      omega
    rw [u138_16]
    simp only [u138_17, u138_18, u138_21, u138_22, u138_23, u138_26, u138_27, u138_28, u138_29, u138_30, u138_31, u138_32, q_push_s, q_push_n, q_sm_0, q_sm_i, q_sm_r, q_sm_n, q_sm_l, q_c1_0, q_c1_i, q_c1_r, q_c1_n, Nat.zero_add, Nat.reduceAdd, Nat.reduceMul, Nat.reduceSub, Nat.reduceLeDiff, Nat.reduceLT, Nat.reduceEqDiff, true_and, and_true, not_false_eq_true, if_true, if_false, ite_true, ite_false, or_true, true_or, or_false, false_or, not_true_eq_false, gf38_9, gf38_11, hrr, n_mul, n_add, ia45 (i := 4 * r + p + 1) (by omega), he, e]
    simp only [u138_35, u138_36, u138_39, u138_42, u138_43, u138_46, u138_47, u138_48, u138_49, u138_50, q_push_s, q_push_n, q_sm_0, q_sm_i, q_sm_r, q_sm_n, q_sm_l, q_c1_0, q_c1_i, q_c1_r, q_c1_n, Nat.zero_add, Nat.reduceAdd, Nat.reduceMul, Nat.reduceSub, Nat.reduceLeDiff, Nat.reduceLT, Nat.reduceEqDiff, true_and, and_true, not_false_eq_true, if_true, if_false, ite_true, ite_false, or_true, true_or, or_false, false_or, not_true_eq_false, gf38_8, gf38_11, hrr, n_mul, n_add, ia44 (i := 200 * r + k) (by omega), hc]
    have hc8 : c < 110000 := by
      simp only [z_rp] at hw
      by_cases h : c < 6 ∨ (100000 ≤ c ∧ c < 110000)
      · omega
      · rw [if_neg h] at hw
        by_cases h2 : c = 13 ∨ c = 19
        · omega
        · rw [if_neg h2] at hw
          omega
    have i1 : (nI c < nI 100000) = (c < 100000) := n_lt (by omega) (by decide)
    have i2 : (nI c < nI 11) = (c < 11) := n_lt (by omega) (by decide)
    have i3 : (nI c = nI 13) = (c = 13) := n_eq (by omega) (by decide)
    have i4 : (nI c = nI 19) = (c = 19) := n_eq (by omega) (by decide)
    simp only [z_rp] at hw
    by_cases h : c < 6 ∨ (100000 ≤ c ∧ c < 110000)
    · rw [if_pos h] at hw
      have h' : c < 11 ∨ 100000 ≤ c := by omega
      have hK2 := fun m1 (e1 : ∀ j, j ≠ 53 → m1 j = m j) e2 (e3 : ∀ i, i < n + 1 → m1 53 i = z_u s n (z_pv nm c) i) => l_says8 hr hp nm d l m1 (k + 1) (n + 1) b (z_u s n (z_pv nm c)) e2 (hl2 m1 (e1 44 (by decide))) (by rw [e1 45 (by decide), he]; congr 1; omega) (by omega) (by rw [e1 38 (by decide)]; exact hrr) (fun c hc => by rw [e1 54 (by decide)]; exact hn c hc) e3 (by omega) hw.2
        (fun m' k' n' a4 h1 h2 => hK m' k' n' a4 (fun j hj => (h1 j hj).trans (e1 j hj)) (fun i hi => by rw [h2 i hi, z_ev, if_pos h']))
      have hfin : ∀ x, x = z_pv nm c → q_R 138 16 (d + 1) [some (.ref 38), some (.int (nI p)), some (.int (nI (n + 1))), some (.int (nI (k + 1))), some (.int (nI c))] [] (GG T L) (q_up m 53 n x) K := by
        intro x hx
        refine hK2 (q_up m 53 n x) (fun j hj => by funext i; exact q_up_k m n x hj i) _ (fun i hi => ?_)
        unfold z_u
        by_cases hin : i = n
        · rw [if_pos hin, hin, q_up_eq, hx]
        · rw [if_neg hin, q_up_i m x hin]; exact hs i (by omega)
      have hnc : (nI n).toNatClampNeg = n := n_cl (by omega)
      by_cases h2 : c < 11
      · have h3 : c < 100000 := by omega
        have hx : m 54 c = z_pv nm c := by unfold z_pv; rw [if_pos h2]; exact hn c (by omega)
        simp only [u138_52, u138_54, u138_56, u138_59, u138_61, u138_63, u138_66, u138_67, u138_70, u138_71, u138_73, u138_75, u138_78, u138_79, u138_82, u138_84, u138_85, u138_88, u138_90, u138_92, u138_93, u138_94, u138_97, u138_191, u138_194, q_push_s, q_push_n, q_sm_0, q_sm_i, q_sm_r, q_sm_n, q_sm_l, q_c1_0, q_c1_i, q_c1_r, q_c1_n, Nat.zero_add, Nat.reduceAdd, Nat.reduceMul, Nat.reduceSub, Nat.reduceLeDiff, Nat.reduceLT, Nat.reduceEqDiff, true_and, and_true, not_false_eq_true, if_true, if_false, ite_true, ite_false, or_true, true_or, or_false, false_or, not_true_eq_false, i1, i2, h2, h3, gf38_30, gf38_31, ia54 (i := c) (by omega), is53 (i := n) (by omega), hnc, n_add]
        exact hfin _ hx
      · have h3 : (c < 100000) = False := eq_false (by omega)
        have hx : nI c - nI 100000 = z_pv nm c := by unfold z_pv; rw [if_neg h2, n_sub (by omega)]
        simp only [u138_52, u138_54, u138_56, u138_59, u138_61, u138_63, u138_66, u138_67, u138_70, u138_71, u138_73, u138_75, u138_78, u138_79, u138_82, u138_84, u138_85, u138_88, u138_90, u138_92, u138_93, u138_94, u138_97, u138_191, u138_194, q_push_s, q_push_n, q_sm_0, q_sm_i, q_sm_r, q_sm_n, q_sm_l, q_c1_0, q_c1_i, q_c1_r, q_c1_n, Nat.zero_add, Nat.reduceAdd, Nat.reduceMul, Nat.reduceSub, Nat.reduceLeDiff, Nat.reduceLT, Nat.reduceEqDiff, true_and, and_true, not_false_eq_true, if_true, if_false, ite_true, ite_false, or_true, true_or, or_false, false_or, not_true_eq_false, i1, i2, h2, h3, gf38_30, is53 (i := n) (by omega), hnc, n_add]
        exact hfin _ hx
    · rw [if_neg h] at hw
      have h' : ¬ (c < 11 ∨ 100000 ≤ c) := by
        by_cases h2 : c = 13 ∨ c = 19
        · omega
        · rw [if_neg h2] at hw
          omega
      have j1 : (c < 100000) = True := eq_true (by omega)
      have j2 : (c < 11) = False := eq_false (by omega)
      by_cases h2 : c = 13 ∨ c = 19
      · rw [if_pos h2] at hw
        have hnc : (nI (n - 1)).toNatClampNeg = n - 1 := n_cl (by omega)
        have hsv : m 53 (n - 1) = s (n - 1) := hs _ (by omega)
        have hfin : ∀ x s', (∀ i, i < n → z_u s (n - 1) x i = s' i) → (∀ i, z_ev nm (c :: l) s n i = z_ev nm l s' n i) → q_R 138 16 (d + 1) [some (.ref 38), some (.int (nI p)), some (.int (nI n)), some (.int (nI (k + 1))), some (.int (nI c))] [] (GG T L) (q_up m 53 (n - 1) x) K := by
          intro x s' hx he2
          have e1 : ∀ j, j ≠ 53 → q_up m 53 (n - 1) x j = m j := fun j hj => by funext i; exact q_up_k m _ x hj i
          refine l_says8 hr hp nm d l _ (k + 1) n b s' _ (hl2 _ (e1 44 (by decide))) (by rw [e1 45 (by decide), he]; congr 1; omega) (by omega) (by rw [e1 38 (by decide)]; exact hrr) (fun c hc => by rw [e1 54 (by decide)]; exact hn c hc) (fun i hi => ?_) hn4 hw.2
            (fun m' k' n' a4 h1 h2 => hK m' k' n' a4 (fun j hj => (h1 j hj).trans (e1 j hj)) (fun i hi => by rw [h2 i hi, he2 i]))
          rw [← hx i hi]
          unfold z_u
          by_cases hin : i = n - 1
          · rw [if_pos hin, hin, q_up_eq]
          · rw [if_neg hin, q_up_i m x hin]; exact hs i hi
        by_cases h3 : c = 13
        · subst h3
          by_cases h4 : s (n - 1) = nI 0
          · simp only [u138_52, u138_54, u138_56, u138_59, u138_61, u138_63, u138_100, u138_102, u138_104, u138_107, u138_108, u138_111, u138_112, u138_113, u138_114, u138_115, u138_118, u138_119, u138_120, u138_121, u138_122, u138_125, u138_126, u138_129, u138_130, u138_131, u138_191, u138_194, q_push_s, q_push_n, q_sm_0, q_sm_i, q_sm_r, q_sm_n, q_sm_l, q_c1_0, q_c1_i, q_c1_r, q_c1_n, Nat.zero_add, Nat.reduceAdd, Nat.reduceMul, Nat.reduceSub, Nat.reduceLeDiff, Nat.reduceLT, Nat.reduceEqDiff, true_and, and_true, not_false_eq_true, if_true, if_false, ite_true, ite_false, or_true, true_or, or_false, false_or, not_true_eq_false, i1, i2, i3, j1, j2, gf38_30, n_sub (a := n) (b := 1) (by omega), ia53 (i := n - 1) (by omega), is53 (i := n - 1) (by omega), hnc, hsv, h4, n_add]
            exact hfin _ _ (fun i _ => rfl) (fun i => by rw [z_ev, if_neg h', if_pos rfl, if_pos h4])
          · simp only [u138_52, u138_54, u138_56, u138_59, u138_61, u138_63, u138_100, u138_102, u138_104, u138_107, u138_108, u138_111, u138_112, u138_113, u138_114, u138_115, u138_118, u138_119, u138_120, u138_121, u138_122, u138_125, u138_126, u138_129, u138_130, u138_131, u138_191, u138_194, q_push_s, q_push_n, q_sm_0, q_sm_i, q_sm_r, q_sm_n, q_sm_l, q_c1_0, q_c1_i, q_c1_r, q_c1_n, Nat.zero_add, Nat.reduceAdd, Nat.reduceMul, Nat.reduceSub, Nat.reduceLeDiff, Nat.reduceLT, Nat.reduceEqDiff, true_and, and_true, not_false_eq_true, if_true, if_false, ite_true, ite_false, or_true, true_or, or_false, false_or, not_true_eq_false, i1, i2, i3, j1, j2, gf38_30, n_sub (a := n) (b := 1) (by omega), ia53 (i := n - 1) (by omega), is53 (i := n - 1) (by omega), hnc, hsv, h4, n_add]
            exact hfin _ _ (fun i _ => rfl) (fun i => by rw [z_ev, if_neg h', if_pos rfl, if_neg h4])
        · have h4 : c = 19 := by omega
          subst h4
          simp only [u138_52, u138_54, u138_56, u138_59, u138_61, u138_63, u138_100, u138_102, u138_104, u138_134, u138_136, u138_138, u138_141, u138_142, u138_145, u138_146, u138_147, u138_148, u138_149, u138_152, u138_153, u138_154, u138_155, u138_156, u138_157, u138_158, u138_191, u138_194, q_push_s, q_push_n, q_sm_0, q_sm_i, q_sm_r, q_sm_n, q_sm_l, q_c1_0, q_c1_i, q_c1_r, q_c1_n, Nat.zero_add, Nat.reduceAdd, Nat.reduceMul, Nat.reduceSub, Nat.reduceLeDiff, Nat.reduceLT, Nat.reduceEqDiff, true_and, and_true, not_false_eq_true, if_true, if_false, ite_true, ite_false, or_true, true_or, or_false, false_or, not_true_eq_false, i1, i2, i3, i4, j1, j2, h3, gf38_30, n_sub (a := n) (b := 1) (by omega), ia53 (i := n - 1) (by omega), is53 (i := n - 1) (by omega), hnc, hsv, n_add]
          exact hfin _ _ (fun i _ => rfl) (fun i => by rw [z_ev, if_neg h', if_neg (by decide), if_pos rfl])
      · rw [if_neg h2] at hw
        have k1 : (c = 13) = False := eq_false (by omega)
        have k2 : (c = 19) = False := eq_false (by omega)
        have hn1 : nI n + (-1 : Int32) = nI (n - 1) := by
          have := pk_m1 (n - 1)
          rw [Nat.sub_add_cancel (by omega)] at this
          exact this
        have hnc : (nI (n - 2)).toNatClampNeg = n - 2 := n_cl (by omega)
        have hsa : m 53 (n - 2) = s (n - 2) := hs _ (by omega)
        have hsb : m 53 (n - 1) = s (n - 1) := hs _ (by omega)
        have hnn : n - 1 - 1 = n - 2 := by omega
        simp only [u138_52, u138_54, u138_56, u138_59, u138_61, u138_63, u138_100, u138_102, u138_104, u138_134, u138_136, u138_138, u138_161, u138_164, u138_165, u138_168, u138_169, u138_170, u138_171, u138_173, u138_174, u138_177, u138_178, u138_179, u138_180, u138_181, u138_182, u138_185, u138_186, u138_187, u138_190, u138_191, u138_194, q_push_s, q_push_n, q_sm_0, q_sm_i, q_sm_r, q_sm_n, q_sm_l, q_c1_0, q_c1_i, q_c1_r, q_c1_n, Nat.zero_add, Nat.reduceAdd, Nat.reduceMul, Nat.reduceSub, Nat.reduceLeDiff, Nat.reduceLT, Nat.reduceEqDiff, true_and, and_true, not_false_eq_true, if_true, if_false, ite_true, ite_false, or_true, true_or, or_false, false_or, not_true_eq_false, i1, i2, i3, i4, j1, j2, k1, k2, gf38_30, hn1, n_sub (a := n - 1) (b := 1) (by omega), hnn, ia53 (i := n - 1) (by omega), ia53 (i := n - 2) (by omega), is53 (i := n - 2) (by omega), hnc, hsa, hsb, n_add, Nat.zero_le, Nat.reduceLeDiff, c_two hw.1]
        have e1 : ∀ x j, j ≠ 53 → q_up m 53 (n - 2) x j = m j := fun x j hj => by funext i; exact q_up_k m _ x hj i
        refine l_says8 hr hp nm d l _ (k + 1) (n - 1) b (z_u s (n - 2) (z_two c (s (n - 2)) (s (n - 1)))) _ (hl2 _ (e1 _ 44 (by decide))) (by rw [e1 _ 45 (by decide), he]; congr 1; omega) (by omega) (by rw [e1 _ 38 (by decide)]; exact hrr) (fun c hc => by rw [e1 _ 54 (by decide)]; exact hn c hc) (fun i hi => ?_) (by omega) hw.2.2
            (fun m' k' n' a4 h1 h3 => hK m' k' n' a4 (fun j hj => (h1 j hj).trans (e1 _ j hj)) (fun i hi => by rw [h3 i hi, z_ev, if_neg h', if_neg (by omega), if_neg (by omega)]))
        unfold z_u
        by_cases hin : i = n - 2
        · rw [if_pos hin, hin, q_up_eq]
        · rw [if_neg hin, q_up_i m _ hin]; exact hs i (by omega)
end
