/-! ===== the class's descent: what it stands on ===== -/
section
variable {tp : Nat → Nat} {z p : Nat}
theorem y_tt_r : y_tt tp z p ≤ 7 ∨ 40 ≤ y_tt tp z p := by
  have wle := y_wn_le (tp := tp) (y_tb tp z p) (y_te tp z p)
  unfold y_tt
  by_cases h : y_tb tp z p < z
  · rw [if_pos h]
    by_cases hl : y_let (tp (y_tb tp z p)) = true
    · rw [if_pos hl]
      repeat' split
      all_goals omega
    · rw [if_neg hl]
      by_cases hd : y_dig (tp (y_tb tp z p)) = true
      · rw [if_pos hd]; split <;> omega
      · rw [if_neg hd]
        by_cases hs : y_sig (tp (y_tb tp z p)) = true
        · rw [if_pos hs]; have := of_decide_eq_true hs; omega
        · rw [if_neg hs]; omega
  · rw [if_neg h]; omega
theorem y_tv3 (h3 : y_tt tp z p = 3) : y_tv tp z p < 3 := by
  have hb : y_tb tp z p < z := y_tt_pos (by omega)
  unfold y_tt at h3
  rw [if_pos hb] at h3
  by_cases hl : y_let (tp (y_tb tp z p)) = true
  · rw [if_pos hl] at h3
    unfold y_tv
    rw [if_pos hl]
    have wle := y_wn_le (tp := tp) (y_tb tp z p) (y_te tp z p)
    generalize y_wn tp (y_tb tp z p) (y_te tp z p) = w at h3 wle ⊢
    by_cases q : w < 3
    · rw [if_pos q]; exact q
    · rw [if_neg q] at h3
      exfalso
      revert h3
      repeat' split
      all_goals omega
  · rw [if_neg hl] at h3
    exfalso
    by_cases hd : y_dig (tp (y_tb tp z p)) = true
    · rw [if_pos hd] at h3; split at h3 <;> omega
    · rw [if_neg hd] at h3
      by_cases hs : y_sig (tp (y_tb tp z p)) = true
      · rw [if_pos hs] at h3; have := of_decide_eq_true hs; omega
      · rw [if_neg hs] at h3; omega
theorem y_ct_a {t v w t' : Nat} (hr : t ≤ 7 ∨ 40 ≤ t) (h3 : t = 3 → v < 3) (h : (w = 2 ∧ t' = 1) ∨ (w = 3 ∧ t' = 2) ∨ (w = 7 ∧ t' = 4) ∨ (w = 8 ∧ t' = 5) ∨ (w = 9 ∧ t' = 6) ∨ (w = 0 ∧ t' = 0) ∨ (40 ≤ w ∧ t' = w)) : (y_ct t v = w) = (t = t') := by
  unfold y_ct
  refine propext ?_
  repeat' split
  all_goals omega
theorem y_ct_k {t v k : Nat} (hr : t ≤ 7 ∨ 40 ≤ t) (h3 : t = 3 → v < 3) (hk : k < 3) : (y_ct t v = 4 + k) = (t = 3 ∧ v = k) := by
  unfold y_ct
  refine propext ?_
  repeat' split
  all_goals omega
theorem y_ct_lt {t v : Nat} (ht : t < 256) (h3 : t = 3 → v < 3) : y_ct t v < 300 := by
  unfold y_ct
  repeat' split
  all_goals omega
end
/-- where the class stands: its token is the one at p; the steps so far -/
def y_D (tp : Nat → Nat) (z : Nat) (m0 : q_M) (p : Nat) (S : List Int32) (m : q_M) : Prop := (∀ k, k ≠ 26 → k ≠ 28 → m k = m0 k) ∧ (m 26 1 = nI z ∧ p ≤ z) ∧ (m 26 6 = nI (y_te tp z p) ∧ m 26 5 = nI (y_tb tp z p) ∧ m 26 4 = nI (y_ct (y_tt tp z p) (y_tv tp z p))) ∧ ((y_tt tp z p = 1 → m 26 7 = nI (y_tv tp z p)) ∧ (y_tt tp z p = 2 → m 26 7 = -(nI (y_tv tp z p + 1)))) ∧ m 26 3 = nI S.length ∧ ∀ i (h : i < S.length), m 28 i = S[i]
def y_B (T : List Nat) (xs : Nat → Int32) (tp : Nat → Nat) (z : Nat) (m0 : q_M) : Prop := T.length ≤ 5 ∧ (∀ k, 900 ≤ k → m0 k = q_xm xs k) ∧ y_C tp z m0
section
variable {T : List Nat} {L d e : Nat} {xs : Nat → Int32} {m m0 : q_M} {tp : Nat → Nat} {z p : Nat} {S : List Int32} {K : Option Value → q_G → q_M → Prop}
theorem y_D.tk (B : y_B T xs tp z m0) (D : y_D tp z m0 p S m) {w t' : Nat} (h : (w = 2 ∧ t' = 1) ∨ (w = 3 ∧ t' = 2) ∨ (w = 7 ∧ t' = 4) ∨ (w = 8 ∧ t' = 5) ∨ (w = 9 ∧ t' = 6) ∨ (w = 0 ∧ t' = 0) ∨ (40 ≤ w ∧ t' = w)) (hw : w < 256) : (m 26 4 = nI w) = (y_tt tp z p = t') := by
  have tlt := y_tt_lt (p := p) (fun i hi => (B.2.2.2.2 i hi).1)
  rw [D.2.2.1.2.2, n_eq (by have := y_ct_lt (v := y_tv tp z p) tlt y_tv3; omega) (by omega)]
  exact y_ct_a y_tt_r y_tv3 h
theorem y_D.C (B : y_B T xs tp z m0) (D : y_D tp z m0 p S m) : y_C tp z m := ⟨B.2.2.1, D.2.1.1, fun i hi => by rw [D.1 27 (by decide) (by decide)]; exact B.2.2.2.2 i hi⟩
theorem d_adv (B : y_B T xs tp z m0) (D : y_D tp z m0 p S m) (hK : ∀ m', y_D tp z m0 (y_te tp z p) S m' → K none (GG T L) m') : q_C 35 (e + 7) [.ref 26] (GG T L) m K := by
  refine c_advance (xs := xs) B.1 (fun k hk => by rw [D.1 k (by omega) (by omega)]; exact B.2.1 k hk) (y_te_le D.2.1.2).1 (D.C B) D.2.2.1.1 (fun m' f a6 a5 a4 a1 a2 => hK m' ⟨fun k k1 k2 => ?_, ⟨?_, (y_te_le D.2.1.2).1⟩, ⟨a6, a5, a4⟩, ⟨a1, a2⟩, ?_, fun i hi => ?_⟩)
  · rw [f.1 k k1]; exact D.1 k k1 k2
  · rw [f.2 1 (by omega)]; exact D.2.1.1
  · rw [f.2 3 (by omega)]; exact D.2.2.2.2.1
  · rw [f.1 28 (by decide)]; exact D.2.2.2.2.2 i hi
theorem d_emit (D : y_D tp z m0 p S m) (hl : S.length < 160) (v : Int32) (hK : ∀ m', y_D tp z m0 p (S ++ [v]) m' → K none (GG T L) m') : q_C 26 (e + 1) [.ref 26, .int v] (GG T L) m K := by
  have h3 := D.2.2.2.2.1
  have hlt := n_lt (i := S.length) (j := 160) (by omega) (by decide)
  have e3 : q_up m 28 S.length v 26 3 = nI S.length := by rw [q_up_f _ _ _ (by decide)]; exact h3
  simp only [e26, e26, u26_0, u26_1, u26_4, u26_5, u26_8, u26_9, u26_12, u26_13, u26_14, u26_17, u26_18, u26_21, u26_22, u26_25, u26_26, u26_26r, u26_27, u26_30, u26_31, u26_32, u26_35, q_push_s, q_push_n, q_sm_0, q_sm_i, q_sm_r, q_sm_n, q_sm_l, q_c1_0, q_c1_i, q_c1_r, q_c1_n, Nat.zero_add, Nat.reduceAdd, Nat.reduceMul, Nat.reduceSub, Nat.reduceLeDiff, Nat.reduceLT, Nat.reduceEqDiff, true_and, and_true, not_false_eq_true, if_true, if_false, ite_true, ite_false, or_true, true_or, or_false, false_or, not_true_eq_false, gf26_2, gf26_3, pf26_3, h3, al_of sh28, hlt, hl, c_put (j := S.length) sh28 (by decide) (by decide) hl, e3, n_add]
  refine hK _ ⟨fun k k1 k2 => ?_, ⟨?_, D.2.1.2⟩, ⟨?_, ?_, ?_⟩, ⟨fun h => ?_, fun h => ?_⟩, ?_, fun i hi => ?_⟩
  · rw [q_up_f _ _ _ k1, q_up_f _ _ _ k2]; exact D.1 k k1 k2
  · rw [q_up_i _ _ (by decide), q_up_f _ _ _ (by decide)]; exact D.2.1.1
  · rw [q_up_i _ _ (by decide), q_up_f _ _ _ (by decide)]; exact D.2.2.1.1
  · rw [q_up_i _ _ (by decide), q_up_f _ _ _ (by decide)]; exact D.2.2.1.2.1
  · rw [q_up_i _ _ (by decide), q_up_f _ _ _ (by decide)]; exact D.2.2.1.2.2
  · rw [q_up_i _ _ (by decide), q_up_f _ _ _ (by decide)]; exact D.2.2.2.1.1 h
  · rw [q_up_i _ _ (by decide), q_up_f _ _ _ (by decide)]; exact D.2.2.2.1.2 h
  · rw [q_up_eq, List.length_append]; rfl
  · rw [List.length_append] at hi
    rw [q_up_f _ _ _ (by decide)]
    by_cases q : i < S.length
    · rw [q_up_i _ _ (by omega), D.2.2.2.2.2 i q, List.getElem_append_left q]
    · have ei : i = S.length := by simp only [List.length_cons, List.length_nil] at hi; omega
      subst ei
      rw [q_up_eq]
      simp
theorem d_take (B : y_B T xs tp z m0) (D : y_D tp z m0 p S m) (w : Int32) (h1 : m 26 4 = w → ∀ m', y_D tp z m0 (y_te tp z p) S m' → K (some (.int (nI 1))) (GG T L) m') (h0 : ¬ m 26 4 = w → K (some (.int (nI 0))) (GG T L) m) : q_C 27 (e + 8) [.ref 26, .int w] (GG T L) m K := by
  by_cases q : m 26 4 = w
  · simp only [e27, u27_0, u27_1, u27_4, u27_5, u27_8, u27_9, u27_10, u27_11, q_push_s, q_push_n, q_sm_0, q_sm_i, q_sm_r, q_sm_n, q_sm_l, q_c1_0, q_c1_i, q_c1_r, q_c1_n, Nat.zero_add, Nat.reduceAdd, Nat.reduceMul, Nat.reduceSub, Nat.reduceLeDiff, Nat.reduceLT, Nat.reduceEqDiff, true_and, and_true, not_false_eq_true, if_true, if_false, ite_true, ite_false, or_true, true_or, or_false, false_or, not_true_eq_false, gf26_4, q, io26]
    refine d_adv B D (fun m' D' => ?_)
    simp only [u27_14, u27_15, q_push_s, q_push_n, q_sm_0, q_sm_i, q_sm_r, q_sm_n, q_sm_l, q_c1_0, q_c1_i, q_c1_r, q_c1_n, Nat.zero_add, Nat.reduceAdd, Nat.reduceMul, Nat.reduceSub, Nat.reduceLeDiff, Nat.reduceLT, Nat.reduceEqDiff, true_and, and_true, not_false_eq_true, if_true, if_false, ite_true, ite_false, or_true, true_or, or_false, false_or, not_true_eq_false, eq_self, lq_0_1, lq_0_2, lq_0_3, lq_0_4, lq_0_5, lq_0_6, lq_1_0, lq_1_2, lq_1_3, lq_1_4, lq_1_5, lq_1_6, lq_2_0, lq_2_1, lq_2_3, lq_2_4, lq_2_5, lq_2_6, lq_3_0, lq_3_1, lq_3_2, lq_3_4, lq_3_5, lq_3_6, lq_4_0, lq_4_1, lq_4_2, lq_4_3, lq_4_5, lq_4_6, lq_5_0, lq_5_1, lq_5_2, lq_5_3, lq_5_4, lq_5_6, lq_6_0, lq_6_1, lq_6_2, lq_6_3, lq_6_4, lq_6_5, ll_0_0, ll_0_1, ll_0_2, ll_0_3, ll_0_4, ll_0_5, ll_0_6, ll_1_0, ll_1_1, ll_1_2, ll_1_3, ll_1_4, ll_1_5, ll_1_6, ll_2_0, ll_2_1, ll_2_2, ll_2_3, ll_2_4, ll_2_5, ll_2_6, ll_3_0, ll_3_1, ll_3_2, ll_3_3, ll_3_4, ll_3_5, ll_3_6, ll_4_0, ll_4_1, ll_4_2, ll_4_3, ll_4_4, ll_4_5, ll_4_6, ll_5_0, ll_5_1, ll_5_2, ll_5_3, ll_5_4, ll_5_5, ll_5_6, ll_6_0, ll_6_1, ll_6_2, ll_6_3, ll_6_4, ll_6_5, ll_6_6, le_0_0, le_0_1, le_0_2, le_0_3, le_0_4, le_0_5, le_0_6, le_1_0, le_1_1, le_1_2, le_1_3, le_1_4, le_1_5, le_1_6, le_2_0, le_2_1, le_2_2, le_2_3, le_2_4, le_2_5, le_2_6, le_3_0, le_3_1, le_3_2, le_3_3, le_3_4, le_3_5, le_3_6, le_4_0, le_4_1, le_4_2, le_4_3, le_4_4, le_4_5, le_4_6, le_5_0, le_5_1, le_5_2, le_5_3, le_5_4, le_5_5, le_5_6, le_6_0, le_6_1, le_6_2, le_6_3, le_6_4, le_6_5, le_6_6, y_11]
    exact h1 q m' D'
  · simp only [e27, u27_0, u27_1, u27_4, u27_5, u27_8, u27_9, q_push_s, q_push_n, q_sm_0, q_sm_i, q_sm_r, q_sm_n, q_sm_l, q_c1_0, q_c1_i, q_c1_r, q_c1_n, Nat.zero_add, Nat.reduceAdd, Nat.reduceMul, Nat.reduceSub, Nat.reduceLeDiff, Nat.reduceLT, Nat.reduceEqDiff, true_and, and_true, not_false_eq_true, if_true, if_false, ite_true, ite_false, or_true, true_or, or_false, false_or, not_true_eq_false, eq_self, lq_0_1, lq_0_2, lq_0_3, lq_0_4, lq_0_5, lq_0_6, lq_1_0, lq_1_2, lq_1_3, lq_1_4, lq_1_5, lq_1_6, lq_2_0, lq_2_1, lq_2_3, lq_2_4, lq_2_5, lq_2_6, lq_3_0, lq_3_1, lq_3_2, lq_3_4, lq_3_5, lq_3_6, lq_4_0, lq_4_1, lq_4_2, lq_4_3, lq_4_5, lq_4_6, lq_5_0, lq_5_1, lq_5_2, lq_5_3, lq_5_4, lq_5_6, lq_6_0, lq_6_1, lq_6_2, lq_6_3, lq_6_4, lq_6_5, ll_0_0, ll_0_1, ll_0_2, ll_0_3, ll_0_4, ll_0_5, ll_0_6, ll_1_0, ll_1_1, ll_1_2, ll_1_3, ll_1_4, ll_1_5, ll_1_6, ll_2_0, ll_2_1, ll_2_2, ll_2_3, ll_2_4, ll_2_5, ll_2_6, ll_3_0, ll_3_1, ll_3_2, ll_3_3, ll_3_4, ll_3_5, ll_3_6, ll_4_0, ll_4_1, ll_4_2, ll_4_3, ll_4_4, ll_4_5, ll_4_6, ll_5_0, ll_5_1, ll_5_2, ll_5_3, ll_5_4, ll_5_5, ll_5_6, ll_6_0, ll_6_1, ll_6_2, ll_6_3, ll_6_4, ll_6_5, ll_6_6, le_0_0, le_0_1, le_0_2, le_0_3, le_0_4, le_0_5, le_0_6, le_1_0, le_1_1, le_1_2, le_1_3, le_1_4, le_1_5, le_1_6, le_2_0, le_2_1, le_2_2, le_2_3, le_2_4, le_2_5, le_2_6, le_3_0, le_3_1, le_3_2, le_3_3, le_3_4, le_3_5, le_3_6, le_4_0, le_4_1, le_4_2, le_4_3, le_4_4, le_4_5, le_4_6, le_5_0, le_5_1, le_5_2, le_5_3, le_5_4, le_5_5, le_5_6, le_6_0, le_6_1, le_6_2, le_6_3, le_6_4, le_6_5, le_6_6, y_00, gf26_4, q]
    exact h0 q
/-- a level's contract -/
def y_con (T : List Nat) (L : Nat) (tp : Nat → Nat) (z : Nat) (m0 : q_M) (j l dd o : Nat) : Prop := ∀ (p : Nat) (S : List Int32) (m : q_M) (K : Option Value → q_G → q_M → Prop), y_D tp z m0 p S m → S.length ≤ p →
  (∀ m' p' cs, y_ok tp z l o p p' cs → y_ex tp z l p' → y_D tp z m0 p' (S ++ cs.map z_cc) m' → K (some (.int (nI 1))) (GG T L) m') → (∀ m' pf S', y_no tp z l o p pf → y_D tp z m0 pf S' m' → K (some (.int (nI 0))) (GG T L) m') → q_C j dd [.ref 26, .int (nI o)] (GG T L) m K
theorem y_cc_code (D : y_D tp z m0 p S m) (h : y_tt tp z p = 1 ∨ y_tt tp z p = 2) : m 26 7 = z_cc (y_code tp z p) := by
  have hb := y_code_b D.2.1.2 h
  unfold y_code at hb ⊢
  rcases h with h | h
  · rw [if_pos h, D.2.2.2.1.1 h]
    unfold z_cc
    rw [if_pos (by omega), show 100000 + y_tv tp z p - 100000 = y_tv tp z p by omega]
  · rw [if_neg (by omega)] at hb ⊢
    rw [D.2.2.2.1.2 h]
    have h6 : y_tv tp z p < 6 ∨ 100000 ≤ y_tv tp z p := by omega
    have : y_tv tp z p < 100000 := by
      unfold y_tv
      have wle := y_wn_le (tp := tp) (y_tb tp z p) (y_te tp z p)
      by_cases hl : y_let (tp (y_tb tp z p)) = true
      · rw [if_pos hl]; split <;> omega
      · exfalso
        have hbb : y_tb tp z p < z := y_tt_pos (by omega)
        have h' := h
        unfold y_tt at h'
        rw [if_pos hbb, if_neg hl] at h'
        by_cases hd : y_dig (tp (y_tb tp z p)) = true
        · rw [if_pos hd] at h'; split at h' <;> omega
        · rw [if_neg hd] at h'
          by_cases hs : y_sig (tp (y_tb tp z p)) = true
          · rw [if_pos hs] at h'; have := of_decide_eq_true hs; omega
          · rw [if_neg hs] at h'; omega
    unfold z_cc
    rw [if_neg (by omega), if_pos (by omega)]
theorem y_tz (h : y_D tp z m0 p S m) (B : y_B T xs tp z m0) (h0 : y_tt tp z p ≠ 0) : p < 160 ∧ p + 1 ≤ y_te tp z p ∧ y_te tp z p ≤ z := by
  have h1 := y_len h.2.1.2 (y_tt_pos h0)
  have h2 := B.2.2.1
  exact ⟨by omega, h1.2⟩
end
