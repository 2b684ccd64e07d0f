/-! ===== says, the class's ===== -/
section
variable {T : List Nat} {L : Nat} {K : Option Value → q_G → q_M → Prop}
theorem gft0 {m : q_M} {P S : Nat} {F : Value → Prop} (hs : (GG T L).1 P = .inr (.inr (6, [some (.ref S), none, none]))) : q_gf 6 0 (GG T L) m P F ↔ F (.ref S) := by
  unfold q_gf
  rw [hs]
  exact ⟨fun h => h.2, fun h => ⟨rfl, h⟩⟩
theorem gft1 {m : q_M} {P S : Nat} {F : Value → Prop} (hs : (GG T L).1 P = .inr (.inr (6, [some (.ref S), none, none]))) : q_gf 6 1 (GG T L) m P F ↔ F (.int (m P 1)) := by
  unfold q_gf
  rw [hs]
  exact ⟨fun h => h.2, fun h => ⟨rfl, h⟩⟩
theorem gft2 {m : q_M} {P S : Nat} {F : Value → Prop} (hs : (GG T L).1 P = .inr (.inr (6, [some (.ref S), none, none]))) : q_gf 6 2 (GG T L) m P F ↔ F (.int (m P 2)) := by
  unfold q_gf
  rw [hs]
  exact ⟨fun h => h.2, fun h => ⟨rfl, h⟩⟩
theorem c_named {m : q_M} {d c : Nat} (hc : c < 6) : q_C 1 d [.ref 13, .int (z_cc c)] (GG T L) m K ↔ K (some (.int (m 13 c))) (GG T L) m := by
  have ez0 : (z_cc 0).toInt = -1 := by decide +kernel
  have ez1 : (z_cc 1).toInt = -2 := by decide +kernel
  have ez2 : (z_cc 2).toInt = -3 := by decide +kernel
  have ez3 : (z_cc 3).toInt = -4 := by decide +kernel
  have ez4 : (z_cc 4).toInt = -5 := by decide +kernel
  have ez5 : (z_cc 5).toInt = -6 := by decide +kernel
  have hc' : c = 0 ∨ c = 1 ∨ c = 2 ∨ c = 3 ∨ c = 4 ∨ c = 5 := by omega
  rcases hc' with rfl | rfl | rfl | rfl | rfl | rfl <;> simp only [e1, u1_0, u1_1, u1_40, u1_41, u1_44, u1_45, u1_46, u1_49, u1_50, u1_51, u1_54, u1_55, u1_56, u1_59, u1_60, u1_61, u1_64, u1_65, u1_66, u1_69, u1_70, u1_71, q_push_s, q_push_n, q_sm_0, q_sm_i, q_sm_r, q_sm_n, q_sm_l, q_c1_0, q_c1_i, q_c1_r, q_c1_n, Nat.zero_add, Nat.reduceAdd, Nat.reduceMul, Nat.reduceSub, Nat.reduceLeDiff, Nat.reduceLT, Nat.reduceEqDiff, true_and, and_true, not_false_eq_true, if_true, if_false, ite_true, ite_false, or_true, true_or, or_false, false_or, not_true_eq_false, ez0, ez1, ez2, ez3, ez4, ez5, Int.reduceEq, Int.reduceNeg, gf13_0, gf13_1, gf13_2, gf13_3, gf13_4, gf13_5]
theorem z_cc_n {c : Nat} (h : c < 6) : (z_cc c = (-20 : Int32)) = False ∧ (z_cc c ≤ (-10 : Int32)) = False ∧ (z_cc c < nI 0) = True := by
  have hc' : c = 0 ∨ c = 1 ∨ c = 2 ∨ c = 3 ∨ c = 4 ∨ c = 5 := by omega
  rcases hc' with rfl | rfl | rfl | rfl | rfl | rfl <;> exact ⟨eq_false (by decide +kernel), eq_false (by decide +kernel), eq_true (by decide +kernel)⟩
theorem z_cc_b {c : Nat} (h : 100000 ≤ c) : z_cc c = nI (c - 100000) := by unfold z_cc; rw [if_pos h]
theorem z_nb {c : Nat} (h : c < 10000) : (nI c = (-20 : Int32)) = False ∧ (nI c ≤ (-10 : Int32)) = False ∧ (nI c < nI 0) = False := by
  have e1 : (-20 : Int32).toInt = -20 := by decide +kernel
  have e2 : (-10 : Int32).toInt = -10 := by decide +kernel
  refine ⟨eq_false (fun e => ?_), eq_false (fun e => ?_), n_lt0 (by omega)⟩
  · have := congrArg Int32.toInt e
    rw [nI_toInt (by omega), e1] at this
    omega
  · rw [Int32.le_iff_toInt_le, nI_toInt (by omega), e2] at e
    omega
theorem z_ccs : (z_cc 13 = (-20 : Int32)) = False ∧ (z_cc 13 ≤ (-10 : Int32)) = True ∧ (z_cc 13 = (-10 : Int32)) = False ∧ (z_cc 13 = (-11 : Int32)) = True ∧
    (z_cc 19 = (-20 : Int32)) = False ∧ (z_cc 19 ≤ (-10 : Int32)) = True ∧ (z_cc 19 = (-10 : Int32)) = True :=
  ⟨eq_false (by decide +kernel), eq_true (by decide +kernel), eq_false (by decide +kernel), eq_true (by decide +kernel), eq_false (by decide +kernel), eq_true (by decide +kernel), eq_true (by decide +kernel)⟩
theorem z_cc_2 {c : Nat} (hc : c = 11 ∨ c = 12 ∨ c = 14 ∨ c = 15 ∨ c = 16 ∨ c = 17 ∨ c = 18) : (z_cc c = (-20 : Int32)) = False ∧ (z_cc c ≤ (-10 : Int32)) = True ∧ (z_cc c = (-10 : Int32)) = False ∧ (z_cc c = (-11 : Int32)) = False := by
  rcases hc with rfl | rfl | rfl | rfl | rfl | rfl | rfl <;> exact ⟨eq_false (by decide +kernel), eq_true (by decide +kernel), eq_false (by decide +kernel), eq_false (by decide +kernel)⟩
theorem l_says {P S len : Nat} (hS : (GG T L).1 S = .inl len) (hS9 : S < 930) (hS14 : S ≠ 14) (hS13 : S ≠ 13) (hlen : len < 2 ^ 30) (hP : (GG T L).1 P = .inr (.inr (6, [some (.ref S), none, none]))) (p fr : Int32) (nm : Nat → Int32) (d : Nat) : ∀ (l : List Nat) (m : q_M) (k n b : Nat) (s : Nat → Int32) (a7 : Option Value),
    (∀ i (h : i < l.length), m S (k + i) = z_cc l[i]) → m S (k + l.length) = (-20 : Int32) → k + l.length < len → (∀ c, c < 6 → m 13 c = nm c) →
    (∀ i, i < n → m 14 i = s i) → n ≤ 40 → z_rp l n b →
    (∀ m' k' n' a7, (∀ j, j ≠ 14 → m' j = m j) → (∀ i, i < b → m' 14 i = z_ev nm l s n i) → q_R 57 214 (d + 2) [some (.ref P), some (.int p), some (.ref 13), some (.ref 14), some (.int (nI n')), some (.int fr), some (.int (nI k')), a7] [] (GG T L) m' K) →
    q_R 57 44 (d + 2) [some (.ref P), some (.int p), some (.ref 13), some (.ref 14), some (.int (nI n)), some (.int fr), some (.int (nI k)), a7] [] (GG T L) m K
  | [], m, k, n, b, s, a7, hl, he, hk, hn, hs, hn4, hw, hK => by
    rw [List.length_nil, Nat.add_zero] at he hk
    rw [u57_44]
    simp only [u57_46, u57_49, u57_51, u57_52, u57_55, u57_56, u57_59, u57_60, u57_63, u57_65, u57_66, u57_68, q_push_s, q_push_n, q_sm_0, q_sm_i, q_sm_r, q_sm_n, q_sm_l, q_c1_0, q_c1_i, q_c1_r, q_c1_n, Nat.zero_add, Nat.reduceAdd, Nat.reduceMul, Nat.reduceSub, Nat.reduceLeDiff, Nat.reduceLT, Nat.reduceEqDiff, true_and, and_true, not_false_eq_true, if_true, if_false, ite_true, ite_false, or_true, true_or, or_false, false_or, not_true_eq_false, gft0 hP, al_of hS, ia_of hS hS9 (by omega) hk, n_lt0 (j := k) (by omega), n_lt (i := k) (j := len) (by omega) (by omega), hk, he]
    have hw' : n = b := hw
    subst hw'
    exact hK m k n a7 (fun j _ => rfl) hs
  | c :: l, m, k, n, b, s, a7, hl, he, hk, hn, hs, hn4, hw, hK => by
    rw [List.length_cons] at he hk
    have hkl : k < len := by omega
    have hc : m S k = z_cc c := hl 0 (by rw [List.length_cons]; omega)
    have hl2 : ∀ (m' : q_M), m' S = m S → ∀ i (h : i < l.length), m' S (k + 1 + i) = z_cc l[i] := by
      intro m' e i h
      have := hl (i + 1) (by rw [List.length_cons]; omega)
      rw [List.getElem_cons_succ] at this
      rw [e, ← this]
      congr 1
      omega
    have he2 : ∀ (m' : q_M), m' S = m S → m' S (k + 1 + l.length) = (-20 : Int32) := by
      intro m' e
      rw [e, ← he]
      congr 1
      omega
    simp only [z_rp] at hw
    rw [u57_44]
    simp only [u57_46, u57_49, u57_51, u57_52, u57_55, u57_56, u57_59, u57_60, u57_63, u57_65, q_push_s, q_push_n, q_sm_0, q_sm_i, q_sm_r, q_sm_n, q_sm_l, q_c1_0, q_c1_i, q_c1_r, q_c1_n, Nat.zero_add, Nat.reduceAdd, Nat.reduceMul, Nat.reduceSub, Nat.reduceLeDiff, Nat.reduceLT, Nat.reduceEqDiff, true_and, and_true, not_false_eq_true, if_true, if_false, ite_true, ite_false, or_true, true_or, or_false, false_or, not_true_eq_false, gft0 hP, al_of hS, ia_of hS hS9 (by omega) hkl, n_lt0 (j := k) (by omega), n_lt (i := k) (j := len) (by omega) (by omega), hkl, hc]
    by_cases h : c < 6 ∨ (100000 ≤ c ∧ c < 110000)
    · rw [if_pos h] at hw
      have h' : c < 11 ∨ 100000 ≤ c := by omega
      have hfin : ∀ x, x = z_pv nm c → q_R 57 44 (d + 2) [some (.ref P), some (.int p), some (.ref 13), some (.ref 14), some (.int (nI (n + 1))), some (.int fr), some (.int (nI (k + 1))), some (.int (z_cc c))] [] (GG T L) (q_up m 14 n x) K := by
        intro x hx
        have e1 : ∀ j, j ≠ 14 → q_up m 14 n x j = m j := fun j hj => q_up_f m n x hj
        refine l_says hS hS9 hS14 hS13 hlen hP p fr nm d l _ (k + 1) (n + 1) b (z_u s n (z_pv nm c)) _ (hl2 _ (e1 S hS14)) (he2 _ (e1 S hS14)) (by omega) (fun c hc => by rw [e1 13 (by decide)]; exact hn c hc) (fun i hi => ?_) (by omega) hw.2
          (fun m' k' n' a7 h1 h2 => hK m' k' n' a7 (fun j hj => (h1 j hj).trans (e1 j hj)) (fun i hi => by rw [h2 i hi, z_ev, if_pos h']))
        unfold z_u
        by_cases hin : i = n
        · rw [if_pos hin, hin, q_up_eq, hx]
        · rw [if_neg hin, q_up_i m x hin]; exact hs i (by omega)
      by_cases h2 : c < 6
      · obtain ⟨z1, z2, z3⟩ := z_cc_n h2
        have hx : m 13 c = z_pv nm c := by unfold z_pv; rw [if_pos (by omega)]; exact hn c h2
        simp only [u57_66, u57_68, u57_71, u57_72, u57_75, u57_77, u57_78, u57_80, u57_82, u57_84, u57_87, u57_87n, u57_88, u57_90, u57_92, u57_95, u57_97, u57_100, u57_100n, u57_101, u57_103, u57_106, u57_109, u57_112, u57_208, u57_211, q_push_s, q_push_n, q_sm_0, q_sm_i, q_sm_r, q_sm_n, q_sm_l, q_c1_0, q_c1_i, q_c1_r, q_c1_n, Nat.zero_add, Nat.reduceAdd, Nat.reduceMul, Nat.reduceSub, Nat.reduceLeDiff, Nat.reduceLT, Nat.reduceEqDiff, true_and, and_true, not_false_eq_true, if_true, if_false, ite_true, ite_false, or_true, true_or, or_false, false_or, not_true_eq_false, gft0 hP, ia_of hS hS9 (by omega) hkl, hc, z1, z2, z3, io13, Nat.zero_le, c_named h2, c_put sh14 (by decide) (by decide) (show n < 40 by omega), n_add]
        exact hfin _ hx
      · have hc6 : 100000 ≤ c := by omega
        have hcc := z_cc_b hc6
        obtain ⟨z1, z2, z3⟩ := z_nb (c := c - 100000) (by omega)
        have hx : nI (c - 100000) = z_pv nm c := by unfold z_pv; rw [if_neg (by omega)]
        rw [hcc] at hc hfin
        simp only [u57_66, u57_68, u57_71, u57_72, u57_75, u57_77, u57_78, u57_80, u57_82, u57_84, u57_87, u57_87n, u57_88, u57_90, u57_92, u57_95, u57_97, u57_100, u57_100n, u57_101, u57_103, u57_106, u57_109, u57_112, u57_208, u57_211, q_push_s, q_push_n, q_sm_0, q_sm_i, q_sm_r, q_sm_n, q_sm_l, q_c1_0, q_c1_i, q_c1_r, q_c1_n, Nat.zero_add, Nat.reduceAdd, Nat.reduceMul, Nat.reduceSub, Nat.reduceLeDiff, Nat.reduceLT, Nat.reduceEqDiff, true_and, and_true, not_false_eq_true, if_true, if_false, ite_true, ite_false, or_true, true_or, or_false, false_or, not_true_eq_false, gft0 hP, ia_of hS hS9 (by omega) hkl, hc, hcc, z1, z2, z3, io13, Nat.zero_le, c_put sh14 (by decide) (by decide) (show n < 40 by omega), n_add]
        exact hfin _ hx
    · rw [if_neg h] at hw
      have h' : ¬ (c < 11 ∨ 100000 ≤ c) := by
        by_cases h2 : c = 13 ∨ c = 19
        · omega
        · rw [if_neg h2] at hw
          omega
      by_cases h2 : c = 13 ∨ c = 19
      · rw [if_pos h2] at hw
        have hsv : m 14 (n - 1) = s (n - 1) := hs _ (by omega)
        have hfin : ∀ x s', (∀ i, i < n → z_u s (n - 1) x i = s' i) → (∀ i, z_ev nm (c :: l) s n i = z_ev nm l s' n i) → q_R 57 44 (d + 2) [some (.ref P), some (.int p), some (.ref 13), some (.ref 14), some (.int (nI n)), some (.int fr), some (.int (nI (k + 1))), some (.int (z_cc c))] [] (GG T L) (q_up m 14 (n - 1) x) K := by
          intro x s' hx hev
          have e1 : ∀ j, j ≠ 14 → q_up m 14 (n - 1) x j = m j := fun j hj => q_up_f m _ x hj
          refine l_says hS hS9 hS14 hS13 hlen hP p fr nm d l _ (k + 1) n b s' _ (hl2 _ (e1 S hS14)) (he2 _ (e1 S hS14)) (by omega) (fun c hc => by rw [e1 13 (by decide)]; exact hn c hc) (fun i hi => ?_) hn4 hw.2
            (fun m' k' n' a7 h1 h2 => hK m' k' n' a7 (fun j hj => (h1 j hj).trans (e1 j hj)) (fun i hi => by rw [h2 i hi, hev i]))
          rw [← hx i hi]
          unfold z_u
          by_cases hin : i = n - 1
          · rw [if_pos hin, hin, q_up_eq]
          · rw [if_neg hin, q_up_i m x hin]; exact hs i hi
        obtain ⟨z1, z2, z3, z4, z5, z6, z7⟩ := z_ccs
        have hsub := n_sub (a := n) (b := 1) (by omega)
        by_cases h3 : c = 13
        · subst h3
          by_cases h4 : s (n - 1) = nI 0
          · simp only [u57_66, u57_68, u57_71, u57_72, u57_75, u57_77, u57_78, u57_80, u57_82, u57_84, u57_115, u57_117, u57_119, u57_142, u57_144, u57_146, u57_149, u57_149n, u57_150, u57_152, u57_153, u57_154, u57_154n, u57_155, u57_157, u57_158, u57_159, u57_162, u57_165, u57_166, u57_169, u57_170, u57_173, u57_208, u57_211, q_push_s, q_push_n, q_sm_0, q_sm_i, q_sm_r, q_sm_n, q_sm_l, q_c1_0, q_c1_i, q_c1_r, q_c1_n, Nat.zero_add, Nat.reduceAdd, Nat.reduceMul, Nat.reduceSub, Nat.reduceLeDiff, Nat.reduceLT, Nat.reduceEqDiff, true_and, and_true, not_false_eq_true, if_true, if_false, ite_true, ite_false, or_true, true_or, or_false, false_or, not_true_eq_false, gft0 hP, ia_of hS hS9 (by omega) hkl, hc, z1, z2, z3, z4, hsub, Nat.zero_le, Nat.reduceLeDiff, c_at sh14 (by decide) (by decide) (show n - 1 < 40 by omega), hsv, h4, c_put sh14 (by decide) (by decide) (show n - 1 < 40 by omega), n_add]
            exact hfin _ _ (fun i _ => rfl) (fun i => by rw [z_ev, if_neg h', if_pos rfl, if_pos h4])
          · simp only [u57_66, u57_68, u57_71, u57_72, u57_75, u57_77, u57_78, u57_80, u57_82, u57_84, u57_115, u57_117, u57_119, u57_142, u57_144, u57_146, u57_149, u57_149n, u57_150, u57_152, u57_153, u57_154, u57_154n, u57_155, u57_157, u57_158, u57_159, u57_162, u57_165, u57_166, u57_169, u57_170, u57_173, u57_208, u57_211, q_push_s, q_push_n, q_sm_0, q_sm_i, q_sm_r, q_sm_n, q_sm_l, q_c1_0, q_c1_i, q_c1_r, q_c1_n, Nat.zero_add, Nat.reduceAdd, Nat.reduceMul, Nat.reduceSub, Nat.reduceLeDiff, Nat.reduceLT, Nat.reduceEqDiff, true_and, and_true, not_false_eq_true, if_true, if_false, ite_true, ite_false, or_true, true_or, or_false, false_or, not_true_eq_false, gft0 hP, ia_of hS hS9 (by omega) hkl, hc, z1, z2, z3, z4, hsub, Nat.zero_le, Nat.reduceLeDiff, c_at sh14 (by decide) (by decide) (show n - 1 < 40 by omega), hsv, h4, c_put sh14 (by decide) (by decide) (show n - 1 < 40 by omega), n_add]
            exact hfin _ _ (fun i _ => rfl) (fun i => by rw [z_ev, if_neg h', if_pos rfl, if_neg h4])
        · have h4 : c = 19 := by omega
          subst h4
          simp only [u57_66, u57_68, u57_71, u57_72, u57_75, u57_77, u57_78, u57_80, u57_82, u57_84, u57_115, u57_117, u57_119, u57_122, u57_122n, u57_123, u57_125, u57_126, u57_127, u57_127n, u57_128, u57_130, u57_131, u57_132, u57_135, u57_136, u57_139, u57_208, u57_211, q_push_s, q_push_n, q_sm_0, q_sm_i, q_sm_r, q_sm_n, q_sm_l, q_c1_0, q_c1_i, q_c1_r, q_c1_n, Nat.zero_add, Nat.reduceAdd, Nat.reduceMul, Nat.reduceSub, Nat.reduceLeDiff, Nat.reduceLT, Nat.reduceEqDiff, true_and, and_true, not_false_eq_true, if_true, if_false, ite_true, ite_false, or_true, true_or, or_false, false_or, not_true_eq_false, gft0 hP, ia_of hS hS9 (by omega) hkl, hc, z5, z6, z7, hsub, Nat.zero_le, Nat.reduceLeDiff, c_at sh14 (by decide) (by decide) (show n - 1 < 40 by omega), hsv, c_put sh14 (by decide) (by decide) (show n - 1 < 40 by omega), n_add]
          exact hfin _ _ (fun i _ => rfl) (fun i => by rw [z_ev, if_neg h', if_neg (by decide), if_pos rfl])
      · rw [if_neg h2] at hw
        obtain ⟨z1, z2, z3, z4⟩ := z_cc_2 hw.1
        have hn1 : nI n + (-1 : Int32) = nI (n - 1) := by
          have := pk_m1 (n - 1)
          rw [Nat.sub_add_cancel (by omega)] at this
          exact this
        have hsa : m 14 (n - 2) = s (n - 2) := hs _ (by omega)
        have hsb : m 14 (n - 1) = s (n - 1) := hs _ (by omega)
        simp only [u57_66, u57_68, u57_71, u57_72, u57_75, u57_77, u57_78, u57_80, u57_82, u57_84, u57_115, u57_117, u57_119, u57_142, u57_144, u57_146, u57_176, u57_176n, u57_177, u57_179, u57_180, u57_181, u57_183, u57_183n, u57_184, u57_186, u57_187, u57_188, u57_191, u57_191n, u57_192, u57_194, u57_195, u57_196, u57_199, u57_202, u57_205, u57_208, u57_211, q_push_s, q_push_n, q_sm_0, q_sm_i, q_sm_r, q_sm_n, q_sm_l, q_c1_0, q_c1_i, q_c1_r, q_c1_n, Nat.zero_add, Nat.reduceAdd, Nat.reduceMul, Nat.reduceSub, Nat.reduceLeDiff, Nat.reduceLT, Nat.reduceEqDiff, true_and, and_true, not_false_eq_true, if_true, if_false, ite_true, ite_false, or_true, true_or, or_false, false_or, not_true_eq_false, gft0 hP, ia_of hS hS9 (by omega) hkl, hc, z1, z2, z3, z4, hn1, n_sub (a := n) (b := 1) (by omega), n_sub (a := n) (b := 2) (by omega), Nat.zero_le, Nat.reduceLeDiff, c_at sh14 (by decide) (by decide) (show n - 1 < 40 by omega), c_at sh14 (by decide) (by decide) (show n - 2 < 40 by omega), hsa, hsb, c_ofBoth hw.1, c_put sh14 (by decide) (by decide) (show n - 2 < 40 by omega), n_add]
        have e1 : ∀ x j, j ≠ 14 → q_up m 14 (n - 2) x j = m j := fun x j hj => q_up_f m _ x hj
        refine l_says hS hS9 hS14 hS13 hlen hP p fr nm d l _ (k + 1) (n - 1) b (z_u s (n - 2) (z_two c (s (n - 2)) (s (n - 1)))) _ (hl2 _ (e1 _ S hS14)) (he2 _ (e1 _ S hS14)) (by omega) (fun c hc => by rw [e1 _ 13 (by decide)]; exact hn c hc) (fun i hi => ?_) (by omega) hw.2.2
            (fun m' k' n' a7 h1 h3 => hK m' k' n' a7 (fun j hj => (h1 j hj).trans (e1 _ j hj)) (fun i hi => by rw [h3 i hi, z_ev, if_neg h', if_neg (by omega), if_neg (by omega)]))
        unfold z_u
        by_cases hin : i = n - 2
        · rw [if_pos hin, hin, q_up_eq]
        · rw [if_neg hin, q_up_i m _ hin]; exact hs i (by omega)
end
