/-! ===== who does what, the class's ===== -/
/-- the kind above each -/
def KA (m : q_M) : Prop := m 901 0 = (-1 : Int32) ∧ m 901 1 = nI 0 ∧ m 901 2 = nI 0 ∧ m 901 3 = nI 1 ∧ m 901 4 = nI 2 ∧ m 901 5 = nI 0
def z_ik (k w : Nat) : Prop := w = 0 ∨ k = w ∨ (w = 1 ∧ k = 3) ∨ (w = 2 ∧ k = 4)
section
variable {T : List Nat} {L d : Nat} {m : q_M} {K : Option Value → q_G → q_M → Prop}
theorem sh901 (hT : T.length ≤ 5) : (GG T L).1 901 = .inl 6 := by
  show q_S T L 901 = _
  unfold q_S
  have h : ¬ 901 < 58 + 2 * T.length := by omega
  simp only [h, if_false]
  rfl
theorem aa12 {t n : Nat} (ht : t < n) (hn : n ≤ 6) (hT : T.length + 1 = n) {F : Value → Prop} : q_aa (GG T L) 12 (nI t) F ↔ F (.ref (z_pl t)) := by
  have h : q_aa (GG T L) 12 (nI t) F ↔ (vp_in (nI t) 6 ∧ 12 < 900 ∧ F (match q_tf T.length (nI t).toNatClampNeg with | some z => .ref z | none => .null)) := Iff.rfl
  rw [h, q_vpI (by omega), nI_clamp (by omega)]
  have e : q_tf T.length t = some (z_pl t) := by
    unfold q_tf z_pl
    by_cases h0 : t = 0
    · rw [if_pos h0, if_pos h0]
    · rw [if_neg h0, if_neg h0, if_pos (by omega)]
  rw [e]
  exact ⟨fun h => h.2.2, fun h => ⟨by omega, by decide, h⟩⟩
theorem z_pl_s {t : Nat} (ht : t < 6) : z_pl t < 900 ∧ z_ps t < 900 ∧ z_ps t ≠ 13 ∧ z_ps t ≠ 14 ∧ z_pl t ≠ 13 ∧ z_pl t ≠ 14 := by
  unfold z_pl z_ps
  by_cases h : t = 0
  · rw [if_pos h, if_pos h]; omega
  · rw [if_neg h, if_neg h]; omega
theorem c_law {s : ZS} {n : Nat} (hC : ICl 3 s m) (hl : s.1 2 < n) (hn : n ≤ 6) (hT : T.length + 1 = n) : q_C 48 d [.ref 2] (GG T L) m K ↔ K (some (.ref (z_pl (s.1 2)))) (GG T L) m := by
  have h := (z_pl_s (t := s.1 2) (by omega)).1
  have h950 : z_pl (s.1 2) ≠ 950 := by omega
  simp only [e48, u48_0, u48_1, u48_4, u48_7, u48_8, u48_9, u48_12, u48_13, u48_14, u48_17, u48_18, u48_21, u48_22, u48_25, u48_26, u48_27, u48_30, u48_31, u48_34, u48_34n, u48_35, u48_35n, u48_36n, u48_36, u48_39, u48_40, u48_43, u48_46, u48_46n, u48_47, u48_47n, q_push_s, q_push_n, q_sm_0, q_sm_i, q_sm_r, q_sm_n, q_sm_l, q_c1_0, q_c1_i, q_c1_r, q_c1_n, Nat.zero_add, Nat.reduceAdd, Nat.reduceMul, Nat.reduceSub, Nat.reduceLeDiff, Nat.reduceLT, Nat.reduceEqDiff, true_and, and_true, not_false_eq_true, if_true, if_false, ite_true, ite_false, or_true, true_or, or_false, false_or, not_true_eq_false, gf2_0, gf3_2, hC.lw, n_lt0 (j := s.1 2) (by omega), gf2_2, al12, n_lt (i := s.1 2) (j := 6) (by omega) (by decide), (show s.1 2 < 6 by omega), aa12 hl hn hT, h950]
theorem c_says {tx : Nat → Nat → List Nat} {n t p : Nat} {nm : Nat → Int32} (hx : TXC T L tx n m) (hw : TXW tx n) (ht : t < n) (hn6 : n ≤ 6) (hp : p < 3) (hn : ∀ c, c < 6 → m 13 c = nm c)
    (hK : ∀ m', (∀ j, j ≠ 14 → m' j = m j) → K (some (.int (nI (z_clip (z_ev nm (tx t p) (fun _ => 0) 0 0) (z_top p))))) (GG T L) m') :
    q_C 57 (d + 2) [.ref (z_pl t), .int (nI p), .ref 13] (GG T L) m K := by
  obtain ⟨h1, h2, h3, h4, h5⟩ := hx t ht
  obtain ⟨h6, h7⟩ := hw t ht
  obtain ⟨q1, q2, q3, q4, q5, q6⟩ := z_pl_s (t := t) (by omega)
  have h8 := z_off3 (tx t) hp
  have hfin : ∀ f, f = nI (z_off (tx t) p + p) → q_R 57 38 (d + 2) [some (.ref (z_pl t)), some (.int (nI p)), some (.ref 13), some (.ref 14), some (.int (nI 0)), none, none, none] [.int f] (GG T L) m K := by
    intro f hf
    subst hf
    simp only [u57_38, u57_40, u57_42, q_push_s, q_push_n, q_sm_0, q_sm_i, q_sm_r, q_sm_n, q_sm_l, q_c1_0, q_c1_i, q_c1_r, q_c1_n, Nat.zero_add, Nat.reduceAdd, Nat.reduceMul, Nat.reduceSub, Nat.reduceLeDiff, Nat.reduceLT, Nat.reduceEqDiff, true_and, and_true, not_false_eq_true, if_true, if_false, ite_true, ite_false, or_true, true_or, or_false, false_or, not_true_eq_false]
    refine l_says h1 (by omega) q4 q3 (by omega) h2 (nI p) _ nm d (tx t p) m (z_off (tx t) p + p) 0 1 (fun _ => 0) none (h5 p hp).2 ?_ (by omega) hn (fun i hi => absurd hi (by omega)) (by omega) (h7 p hp) (fun m' k' n' a4 e1 e2 => ?_)
    · have := (h5 p hp).1
      rw [← this]
      congr 1
      simp only [z_off]
      omega
    · have hq := hK m' e1
      have e3 := e2 0 (by decide)
      by_cases h0 : p = 0
      · subst h0
        simp only [u57_214, u57_214n, u57_215, u57_216, u57_219, u57_220, u57_223, u57_225, u57_228, u57_230, u57_233, q_push_s, q_push_n, q_sm_0, q_sm_i, q_sm_r, q_sm_n, q_sm_l, q_c1_0, q_c1_i, q_c1_r, q_c1_n, Nat.zero_add, Nat.reduceAdd, Nat.reduceMul, Nat.reduceSub, Nat.reduceLeDiff, Nat.reduceLT, Nat.reduceEqDiff, true_and, and_true, not_false_eq_true, if_true, if_false, ite_true, ite_false, or_true, true_or, or_false, false_or, not_true_eq_false, Nat.zero_le, Nat.reduceLeDiff, c_at (j := 0) sh14 (by decide) (by decide) (by decide), e3, c_bounded, z_bnd_n (k := 100) _ (by decide)]
        exact hq
      · have hp0 : (nI p = nI 0) = False := eq_false (fun e => h0 ((nI_eq (by omega) (by decide)).mp e))
        simp only [u57_214, u57_214n, u57_215, u57_216, u57_219, u57_220, u57_223, u57_225, u57_228, u57_230, u57_233, q_push_s, q_push_n, q_sm_0, q_sm_i, q_sm_r, q_sm_n, q_sm_l, q_c1_0, q_c1_i, q_c1_r, q_c1_n, Nat.zero_add, Nat.reduceAdd, Nat.reduceMul, Nat.reduceSub, Nat.reduceLeDiff, Nat.reduceLT, Nat.reduceEqDiff, true_and, and_true, not_false_eq_true, if_true, if_false, ite_true, ite_false, or_true, true_or, or_false, false_or, not_true_eq_false, Nat.zero_le, Nat.reduceLeDiff, c_at (j := 0) sh14 (by decide) (by decide) (by decide), e3, c_bounded, z_bnd_n (k := 99) _ (by decide), hp0]
        unfold z_top at hq
        rw [if_neg h0] at hq
        exact hq
  have hpp : p = 0 ∨ p = 1 ∨ p = 2 := by omega
  rcases hpp with rfl | rfl | rfl
  · simp only [u57_0, u57_0n, u57_1n, u57_1, u57_4, u57_5, u57_6, u57_6n, u57_7, u57_10, u57_10n, u57_11, u57_12, u57_14, u57_15, u57_18, u57_19, u57_22, u57_23, u57_24, u57_27, u57_28, u57_31, u57_34, u57_35, e57, q_push_s, q_push_n, q_sm_0, q_sm_i, q_sm_r, q_sm_n, q_sm_l, q_c1_0, q_c1_i, q_c1_r, q_c1_n, Nat.zero_add, Nat.reduceAdd, Nat.reduceMul, Nat.reduceSub, Nat.reduceLeDiff, Nat.reduceLT, Nat.reduceEqDiff, true_and, and_true, not_false_eq_true, if_true, if_false, ite_true, ite_false, or_true, true_or, or_false, false_or, not_true_eq_false, gf13_6]
    exact hfin _ rfl
  · have z1 : (nI 1 = nI 0) = False := eq_false (by decide)
    simp only [u57_0, u57_0n, u57_1n, u57_1, u57_4, u57_5, u57_6, u57_6n, u57_7, u57_10, u57_10n, u57_11, u57_12, u57_14, u57_15, u57_18, u57_19, u57_22, u57_23, u57_24, u57_27, u57_28, u57_31, u57_34, u57_35, e57, q_push_s, q_push_n, q_sm_0, q_sm_i, q_sm_r, q_sm_n, q_sm_l, q_c1_0, q_c1_i, q_c1_r, q_c1_n, Nat.zero_add, Nat.reduceAdd, Nat.reduceMul, Nat.reduceSub, Nat.reduceLeDiff, Nat.reduceLT, Nat.reduceEqDiff, true_and, and_true, not_false_eq_true, if_true, if_false, ite_true, ite_false, or_true, true_or, or_false, false_or, not_true_eq_false, gf13_6, z1, gft1 h2]
    exact hfin _ h3
  · have z1 : (nI 2 = nI 0) = False := eq_false (by decide)
    have z2 : (nI 2 = nI 1) = False := eq_false (by decide)
    simp only [u57_0, u57_0n, u57_1n, u57_1, u57_4, u57_5, u57_6, u57_6n, u57_7, u57_10, u57_10n, u57_11, u57_12, u57_14, u57_15, u57_18, u57_19, u57_22, u57_23, u57_24, u57_27, u57_28, u57_31, u57_34, u57_35, e57, q_push_s, q_push_n, q_sm_0, q_sm_i, q_sm_r, q_sm_n, q_sm_l, q_c1_0, q_c1_i, q_c1_r, q_c1_n, Nat.zero_add, Nat.reduceAdd, Nat.reduceMul, Nat.reduceSub, Nat.reduceLeDiff, Nat.reduceLT, Nat.reduceEqDiff, true_and, and_true, not_false_eq_true, if_true, if_false, ite_true, ite_false, or_true, true_or, or_false, false_or, not_true_eq_false, gf13_6, z1, z2, gft2 h2]
    exact hfin _ h4
theorem z_m99_q (x : Int32) : q_min (nI 99) x = z_m99 x := by
  unfold q_min z_m99
  by_cases h : x < nI 99
  · have h2 : x ≤ nI 99 := by rw [Int32.lt_iff_toInt_lt] at h; rw [Int32.le_iff_toInt_le]; omega
    rw [if_pos h, if_pos h2]
  · rw [if_neg h]
    by_cases h2 : x ≤ nI 99
    · rw [if_pos h2]
      rw [Int32.lt_iff_toInt_lt] at h
      rw [Int32.le_iff_toInt_le] at h2
      exact Int32.toInt_inj.mp (by omega)
    · rw [if_neg h2]
theorem c_asking {gu o j : Nat} {s : ZS} (hC : ICl 3 s m) (hB : BZ s) (hg : gu < s.1 0) (ho : o < s.1 0)
    (hK : ∀ m', (∀ k, k ≠ 13 → m' k = m k) → (∀ c, c < 6 → m' 13 c = z_nm s gu o j c) → K (some (.ref 13)) (GG T L) m') :
    q_C 49 (d + 2) [.ref 2, .int (nI gu), .int (nI o), .int (nI j)] (GG T L) m K := by
  have h6 := hB.1
  have hb1 := hB.2.2.2 gu hg
  have hb2 := hB.2.2.2 o ho
  have hap : ∀ (d : Nat) (m' : q_M) (K : Option Value → q_G → q_M → Prop), m' 6 = m 6 → (q_C 5 (d + 1) [.ref 3, .int (nI gu), .int (nI o)] (GG T L) m' K ↔ K (some (.int (nI (z_ap (s.2.1 2 gu) (s.2.1 2 o))))) (GG T L) m') :=
    fun d m' K e => c_apart (by omega) (by omega) (by rw [e]; exact hC.ma gu hg) (by rw [e]; exact hC.ma o ho) hb1.2.2.1 hb2.2.2.1
  have hco : gu * 6 + o = 6 * gu + o := by omega
  simp only [e49, u49_0, u49_1, u49_4, u49_5, u49_8, u49_11, u49_12, u49_15, u49_18, u49_19, u49_22, u49_23, u49_26, u49_27, u49_28, u49_31, u49_34, u49_35, u49_38, u49_39, u49_42, u49_43, u49_46, u49_47, u49_50, u49_53, u49_56, u49_57, u49_60, u49_62, u49_63, u49_66, u49_69, u49_70, u49_71, u49_74, u49_77, u49_80, u49_83, u49_84, u49_87, u49_88, u49_91, u49_94, u49_95, u49_98, u49_101, u49_102, u49_105, u49_105n, q_push_s, q_push_n, q_sm_0, q_sm_i, q_sm_r, q_sm_n, q_sm_l, q_c1_0, q_c1_i, q_c1_r, q_c1_n, Nat.zero_add, Nat.reduceAdd, Nat.reduceMul, Nat.reduceSub, Nat.reduceLeDiff, Nat.reduceLT, Nat.reduceEqDiff, true_and, and_true, not_false_eq_true, if_true, if_false, ite_true, ite_false, or_true, true_or, or_false, false_or, not_true_eq_false, gf2_4, gf2_0, gf3_4, gf3_1, gf3_8, gf3_7, io3, Nat.zero_le, Nat.reduceLeDiff, c_at (j := gu) sh5 (by decide) (by decide) (show gu < 6 by omega), c_at (j := gu) sh8 (by decide) (by decide) (show gu < 6 by omega), hap, q_up_f, ne_eq, c_place, hco, c_at (j := 6 * gu + o) sh9 (by decide) (by decide) (show 6 * gu + o < 36 by omega), pf13_0, pf13_1, pf13_2, pf13_3, pf13_4, pf13_5, hC.mo gu hg, hC.nt, hC.of (6 * gu + o) (by omega), hC.pu gu hg, z_m99_q]
  refine hK _ (fun k h => by simp only [q_up_f, ne_eq, h, not_false_eq_true]) (fun c hc => ?_)
  have hc' : c = 0 ∨ c = 1 ∨ c = 2 ∨ c = 3 ∨ c = 4 ∨ c = 5 := by omega
  rcases hc' with rfl | rfl | rfl | rfl | rfl | rfl <;> simp [q_up, z_nm]
end
