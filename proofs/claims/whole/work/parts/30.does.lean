/-! ===== who does what, the class's ===== -/
section
variable {T : List Nat} {L d : Nat} {m : q_M} {K : Option Value → q_G → q_M → Prop}
theorem z_if2 {a b c : Prop} {A : Int32 → Prop} {X : Prop} [ia : Decidable a] [ib : Decidable b] (h : c ↔ a ∨ b) (hX : X ↔ (if a then A (nI 1) else if b then A (nI 1) else A (nI 0))) : X ↔ A (z_b c) := by
  rw [hX]
  by_cases h1 : a
  · rw [if_pos h1, z_b_1 (h.mpr (Or.inl h1))]
  · by_cases h2 : b
    · rw [if_neg h1, if_pos h2, z_b_1 (h.mpr (Or.inr h2))]
    · rw [if_neg h1, if_neg h2, z_b_0 (fun q => (h.mp q).elim h1 h2)]
theorem z_if3 {a b e c : Prop} {A : Int32 → Prop} {X : Prop} [ia : Decidable a] [ib : Decidable b] [ie : Decidable e] (h : c ↔ a ∨ b ∨ e) (hX : X ↔ (if a then A (nI 1) else if b then A (nI 1) else if e then A (nI 1) else A (nI 0))) : X ↔ A (z_b c) := by
  rw [hX]
  by_cases h1 : a
  · rw [if_pos h1, z_b_1 (h.mpr (Or.inl h1))]
  · rw [if_neg h1]
    exact z_if2 (c := c) ⟨fun q => (h.mp q).elim (fun x => absurd x h1) id, fun q => h.mpr (Or.inr q)⟩ Iff.rfl
theorem c_isOneOf (hA : KA m) (hT : T.length ≤ 5) {k w : Nat} (hk : k < 6) (hw : w ≤ 6) : q_C 109 (d + 1) [.int (nI k), .int (nI w)] (GG T L) m K ↔ K (some (.int (z_b (z_ik k w)))) (GG T L) m := by
  obtain ⟨k0, k1, k2, k3, k4, k5⟩ := hA
  have s901 := sh901 (T := T) (L := L) hT
  have stp : ∀ k u, k < 6 → u < 6 → ∀ x0, (q_R 109 4 (d + 1) [some x0, some (.int (nI w)), some (.int (nI k)), some (.int (nI u))] [] (GG T L) m K ↔
      if k = w then K (some (.int (nI 1))) (GG T L) m else q_R 109 4 (d + 1) [some x0, some (.int (nI w)), some (.int (m 901 k)), some (.int (nI (u + 1)))] [] (GG T L) m K) := by
    intro k u hk hu x0
    rw [u109_4]
    simp only [u109_5, u109_7, u109_10, u109_11, u109_14, u109_15, u109_16, u109_19, u109_20, u109_21, u109_24, u109_25, u109_28, u109_29, u109_32, q_push_s, q_push_n, q_sm_0, q_sm_i, q_sm_r, q_sm_n, q_sm_l, q_c1_0, q_c1_i, q_c1_r, q_c1_n, Nat.zero_add, Nat.reduceAdd, Nat.reduceMul, Nat.reduceSub, Nat.reduceLeDiff, Nat.reduceLT, Nat.reduceEqDiff, true_and, and_true, not_false_eq_true, if_true, if_false, ite_true, ite_false, or_true, true_or, or_false, false_or, not_true_eq_false, n_lt (i := u) (j := 6) (by omega) (by decide), hu, n_lt0 (j := k) (by omega), n_eq (i := k) (j := w) (by omega) (by omega), Nat.zero_le, c_at s901 (by decide) (by decide) hk, n_add, z_r1]
  have stop : ∀ u, u < 6 → ∀ x0, (q_R 109 4 (d + 1) [some x0, some (.int (nI w)), some (.int (-1 : Int32)), some (.int (nI u))] [] (GG T L) m K ↔ K (some (.int (nI 0))) (GG T L) m) := by
    intro u hu x0
    have e : ((-1 : Int32) < nI 0) = True := eq_true (by decide)
    simp only [u109_4, u109_5, u109_7, u109_10, u109_11, u109_35, u109_36, q_push_s, q_push_n, q_sm_0, q_sm_i, q_sm_r, q_sm_n, q_sm_l, q_c1_0, q_c1_i, q_c1_r, q_c1_n, Nat.zero_add, Nat.reduceAdd, Nat.reduceMul, Nat.reduceSub, Nat.reduceLeDiff, Nat.reduceLT, Nat.reduceEqDiff, true_and, and_true, not_false_eq_true, if_true, if_false, ite_true, ite_false, or_true, true_or, or_false, false_or, not_true_eq_false, n_lt (i := u) (j := 6) (by omega) (by decide), hu, e, z_r0]
  have ent : q_C 109 (d + 1) [.int (nI k), .int (nI w)] (GG T L) m K ↔ q_R 109 4 (d + 1) [some (.int (nI k)), some (.int (nI w)), some (.int (nI k)), some (.int (nI 0))] [] (GG T L) m K := by
    simp only [e109, u109_0, u109_1, u109_2, u109_3, q_push_s, q_push_n, q_sm_0, q_sm_i, q_sm_r, q_sm_n, q_sm_l, q_c1_0, q_c1_i, q_c1_r, q_c1_n, Nat.zero_add, Nat.reduceAdd, Nat.reduceMul, Nat.reduceSub, Nat.reduceLeDiff, Nat.reduceLT, Nat.reduceEqDiff, true_and, and_true, not_false_eq_true, if_true, if_false, ite_true, ite_false, or_true, true_or, or_false, false_or, not_true_eq_false]
  rw [ent]
  have hk' : k = 0 ∨ k = 1 ∨ k = 2 ∨ k = 3 ∨ k = 4 ∨ k = 5 := by omega
  rcases hk' with rfl | rfl | rfl | rfl | rfl | rfl
  · rw [stp 0 0 (by decide) (by decide), k0, stop 1 (by decide)]
    by_cases h0 : 0 = w
    · rw [if_pos h0, z_b_1 (show z_ik 0 w by unfold z_ik; omega)]
    · rw [if_neg h0, z_b_0 (show ¬ z_ik 0 w by unfold z_ik; omega)]
  · rw [stp 1 0 (by decide) (by decide), k1, stp 0 1 (by decide) (by decide), k0, stop 2 (by decide)]
    exact z_if2 (A := fun x => K (some (.int x)) (GG T L) m) (by unfold z_ik; omega) Iff.rfl
  · rw [stp 2 0 (by decide) (by decide), k2, stp 0 1 (by decide) (by decide), k0, stop 2 (by decide)]
    exact z_if2 (A := fun x => K (some (.int x)) (GG T L) m) (by unfold z_ik; omega) Iff.rfl
  · rw [stp 3 0 (by decide) (by decide), k3, stp 1 1 (by decide) (by decide), k1, stp 0 2 (by decide) (by decide), k0, stop 3 (by decide)]
    exact z_if3 (A := fun x => K (some (.int x)) (GG T L) m) (by unfold z_ik; omega) Iff.rfl
  · rw [stp 4 0 (by decide) (by decide), k4, stp 2 1 (by decide) (by decide), k2, stp 0 2 (by decide) (by decide), k0, stop 3 (by decide)]
    exact z_if3 (A := fun x => K (some (.int x)) (GG T L) m) (by unfold z_ik; omega) Iff.rfl
  · rw [stp 5 0 (by decide) (by decide), k5, stp 0 1 (by decide) (by decide), k0, stop 2 (by decide)]
    exact z_if2 (A := fun x => K (some (.int x)) (GG T L) m) (by unfold z_ik; omega) Iff.rfl
theorem c_passesFrom {gu : Nat} {s : ZS} (hC : ICl 3 s m) (hB : BZ s) (hA : KA m) (hT : T.length ≤ 5) (hg : gu < s.1 0) : q_C 51 (d + 2) [.ref 2, .int (nI gu)] (GG T L) m K ↔ K (some (.int (nI (z_pass s gu)))) (GG T L) m := by
  have h6 := hB.1
  have hb := hB.2.2.2 gu hg
  have e : z_ik (s.2.1 0 gu) 2 = (s.2.1 0 gu = 2 ∨ s.2.1 0 gu = 4) := propext (by unfold z_ik; omega)
  simp only [e51, u51_0, u51_1, u51_4, u51_7, u51_8, u51_11, u51_12, u51_15, u51_18, u51_20, u51_21, u51_22, u51_25, u51_28, u51_29, u51_32, u51_33, u51_34, u51_37, u51_39, q_push_s, q_push_n, q_sm_0, q_sm_i, q_sm_r, q_sm_n, q_sm_l, q_c1_0, q_c1_i, q_c1_r, q_c1_n, Nat.zero_add, Nat.reduceAdd, Nat.reduceMul, Nat.reduceSub, Nat.reduceLeDiff, Nat.reduceLT, Nat.reduceEqDiff, true_and, and_true, not_false_eq_true, if_true, if_false, ite_true, ite_false, or_true, true_or, or_false, false_or, not_true_eq_false, gf2_0, gf3_3, gf3_4, Nat.zero_le, Nat.reduceLeDiff, c_at (j := gu) sh4 (by decide) (by decide) (show gu < 6 by omega), c_at (j := gu) sh5 (by decide) (by decide) (show gu < 6 by omega), hC.k gu hg, hC.mo gu hg, c_isOneOf hA hT (k := s.2.1 0 gu) (w := 2) hb.1 (by decide), z_b_z, e, n_mul, n_add]
  unfold z_pass
  by_cases h2 : s.2.1 0 gu = 2
  · simp only [h2, true_or, not_true_eq_false, if_true, if_false]
  · by_cases h4 : s.2.1 0 gu = 4
    · simp only [h4, or_true, not_true_eq_false, if_true, if_false, Nat.reduceEqDiff]
    · simp only [h2, h4, or_self, not_false_eq_true, if_true, if_false]
theorem c_well {tx : Nat → Nat → List Nat} {n gu o j : Nat} {s : ZS} (hC : ICl 3 s m) (hx : TXC T L tx n m) (hW : IW s tx n) (hT : T.length + 1 = n) (hg : gu < s.1 0) (ho : o < s.1 0)
    (hK : ∀ m', (∀ k, k ≠ 13 → k ≠ 14 → m' k = m k) → K (some (.int (nI (z_well tx s gu o j)))) (GG T L) m') :
    q_C 50 (d + 3) [.ref 2, .int (nI gu), .int (nI o), .int (nI j)] (GG T L) m K := by
  obtain ⟨hB, hw, hr, hn6⟩ := hW
  have h6 := hB.1
  have hb1 := hB.2.2.2 gu hg
  have hb2 := hB.2.2.2 o ho
  have hap := fun (K : Option Value → q_G → q_M → Prop) => c_apart (T := T) (L := L) (d := d + 1) (K := K) (by omega) (by omega) (hC.ma gu hg) (hC.ma o ho) hb1.2.2.1 hb2.2.2.1
  have hap4 := z_ap_le (s.2.1 2 gu) (s.2.1 2 o)
  have hask := z_ask_le tx s 0 gu o j
  obtain ⟨q1, q2, q3, q4, q5, q6⟩ := z_pl_s (t := s.1 2) (by omega)
  simp only [u50_0, u50_1, u50_4, u50_7, u50_8, u50_11, u50_13, u50_14, u50_17, u50_18, u50_19, u50_22, u50_24, u50_25, u50_28, u50_29, u50_30, u50_31, u50_32, u50_33, e50, q_push_s, q_push_n, q_sm_0, q_sm_i, q_sm_r, q_sm_n, q_sm_l, q_c1_0, q_c1_i, q_c1_r, q_c1_n, Nat.zero_add, Nat.reduceAdd, Nat.reduceMul, Nat.reduceSub, Nat.reduceLeDiff, Nat.reduceLT, Nat.reduceEqDiff, true_and, and_true, not_false_eq_true, if_true, if_false, ite_true, ite_false, or_true, true_or, or_false, false_or, not_true_eq_false, gf2_0, gf3_4, io3, io2, Nat.zero_le, Nat.reduceLeDiff, c_at (j := gu) sh5 (by decide) (by decide) (show gu < 6 by omega), hC.mo gu hg, hap, c_law hC hr hn6 hT]
  refine c_asking hC hB hg ho (fun m1 e1 e2 => ?_)
  have hx1 : TXC T L tx n m1 := fun t ht => by
    obtain ⟨p1, p2, p3, p4, p5, p6⟩ := z_pl_s (t := t) (by omega)
    rw [e1 _ p5, e1 _ p3]
    exact hx t ht
  have hio : q_io 6 (GG T L) (z_pl (s.1 2)) ↔ True := by
    have h := (hx (s.1 2) hr).2.1
    unfold q_io
    rw [h]
    exact ⟨fun _ => trivial, fun _ => rfl⟩
  simp only [u50_36, q_push_s, q_push_n, q_sm_0, q_sm_i, q_sm_r, q_sm_n, q_sm_l, q_c1_0, q_c1_i, q_c1_r, q_c1_n, Nat.zero_add, Nat.reduceAdd, Nat.reduceMul, Nat.reduceSub, Nat.reduceLeDiff, Nat.reduceLT, Nat.reduceEqDiff, true_and, and_true, not_false_eq_true, if_true, if_false, ite_true, ite_false, or_true, true_or, or_false, false_or, not_true_eq_false, hio, Nat.zero_le, Nat.reduceLeDiff]
  refine c_says (nm := z_nm s gu o j) hx1 hw hr hn6 (by decide) e2 (fun m' e3 => ?_)
  have e4 : ∀ k, k ≠ 13 → k ≠ 14 → m' k = m k := fun k h1 h2 => (e3 k h2).trans (e1 k h1)
  have hq := hK m' e4
  have hC' : ICl 3 s m' := hC.fr (fun k h1 h2 => e4 k (by omega) (by omega))
  unfold z_well at hq
  have ea : nI (z_clip (z_ev (z_nm s gu o j) (tx (s.1 2) 0) (fun _ => 0) 0 0) (z_top 0)) = nI (z_ask tx s 0 gu o j) := rfl
  rw [ea]
  have ei0 : (nI 0).toInt = 0 := by decide +kernel
  have ei1 : (nI 1).toInt = 1 := by decide +kernel
  have ei2 : (nI 2).toInt = 2 := by decide +kernel
  have ei3 : (nI 3).toInt = 3 := by decide +kernel
  have ei4 : (nI 4).toInt = 4 := by decide +kernel
  have ei5 : (nI 5).toInt = 5 := by decide +kernel
  have z3 : (nI 3 = 0) = False := eq_false (by decide)
  generalize z_ap (s.2.1 2 gu) (s.2.1 2 o) = ap at *
  generalize z_ask tx s 0 gu o j = ask at *
  have f1 : (nI ap ≤ nI 2) = (ap ≤ 2) := n_le (by omega) (by decide)
  have f2 : (nI ap = nI 0) = (ap = 0) := n_eq (by omega) (by decide)
  have hkk : s.2.1 0 gu = 0 ∨ s.2.1 0 gu = 1 ∨ s.2.1 0 gu = 2 ∨ s.2.1 0 gu = 3 ∨ s.2.1 0 gu = 4 ∨ s.2.1 0 gu = 5 := by have := hb1.1; omega
  simp only [u50_39, u50_41, u50_43, u50_44, u50_45, u50_47, u50_48, u50_51, u50_54, u50_55, u50_58, u50_92, u50_94, u50_95, u50_97, u50_98, u50_99, u50_101, u50_104, u50_106, u50_107, u50_110, u50_112, u50_114, u50_115, u50_118, u50_120, u50_121, u50_123, u50_124, u50_125, u50_127, u50_130, u50_132, u50_134, u50_135, u50_137, u50_140, u50_142, u50_145, u50_147, u50_150, u50_152, u50_153, u50_154, u50_156, u50_159, u50_161, u50_163, u50_166, q_push_s, q_push_n, q_sm_0, q_sm_i, q_sm_r, q_sm_n, q_sm_l, q_c1_0, q_c1_i, q_c1_r, q_c1_n, Nat.zero_add, Nat.reduceAdd, Nat.reduceMul, Nat.reduceSub, Nat.reduceLeDiff, Nat.reduceLT, Nat.reduceEqDiff, true_and, and_true, not_false_eq_true, if_true, if_false, ite_true, ite_false, or_true, true_or, or_false, false_or, not_true_eq_false, gf2_0, gf3_3, n_mul, Nat.zero_le, Nat.reduceLeDiff, c_at (j := gu) sh4 (by decide) (by decide) (show gu < 6 by omega), hC'.k gu hg, c_bounded, z_bnd_n (k := 100) _ (by decide)]
  rcases hkk with hv | hv | hv | hv | hv | hv <;> rw [hv] at hq ⊢ <;> simp only [ei0, ei1, ei2, ei3, ei4, ei5, Int.reduceEq, if_true, if_false, z_wv, Nat.reduceEqDiff, f1, f2, z3, not_false_eq_true, true_and] at hq ⊢
  · exact hq
  · exact hq
  · exact hq
  · by_cases h : ap ≤ 2
    · rw [if_pos h] at hq ⊢; exact hq
    · rw [if_neg h] at hq ⊢; exact hq
  · exact hq
  · by_cases h : ap = 0
    · rw [if_pos h] at hq ⊢; exact hq
    · rw [if_neg h] at hq ⊢; exact hq
theorem c_doing {tx : Nat → Nat → List Nat} {n gu o j : Nat} {s : ZS} (hC : ICl 3 s m) (hx : TXC T L tx n m) (hW : IW s tx n) (hA : KA m) (hT : T.length + 1 = n) (hg : gu < s.1 0) (ho : o < s.1 0) (hj : j < 4)
    (hK : ∀ m', (∀ k, k ≠ 13 → k ≠ 14 → m' k = m k) → K (some (.int (nI (z_do tx s gu o j)))) (GG T L) m') :
    q_C 52 (d + 4) [.ref 2, .int (nI gu), .int (nI o), .int (nI j)] (GG T L) m K := by
  have hB := hW.1
  have hn6 := hW.2.2.2
  have h6 := hB.1
  have hb1 := hB.2.2.2 gu hg
  have hb2 := hB.2.2.2 o ho
  have h1 := z_an_lt (s.2.1 2 gu) j
  have h2 := z_an_lt (s.2.1 2 o) j
  simp only [u52_0, u52_1, u52_4, u52_7, u52_8, u52_11, u52_12, u52_15, u52_17, u52_18, u52_19, u52_20, u52_21, e52, q_push_s, q_push_n, q_sm_0, q_sm_i, q_sm_r, q_sm_n, q_sm_l, q_c1_0, q_c1_i, q_c1_r, q_c1_n, Nat.zero_add, Nat.reduceAdd, Nat.reduceMul, Nat.reduceSub, Nat.reduceLeDiff, Nat.reduceLT, Nat.reduceEqDiff, true_and, and_true, not_false_eq_true, if_true, if_false, ite_true, ite_false, or_true, true_or, or_false, false_or, not_true_eq_false, gf2_0, gf3_5, io2, Nat.zero_le, Nat.reduceLeDiff, c_at (j := o) sh6 (by decide) (by decide) (show o < 6 by omega), hC.ma o ho, c_answerOf (v := s.2.1 2 o) (j := j) hb2.2.2.1 hj]
  refine c_well hC hx hW hT hg ho (fun m' e1 => ?_)
  have hq := hK m' e1
  have hC' : ICl 3 s m' := hC.fr (fun k h1 h2 => e1 k (by omega) (by omega))
  have hA' : KA m' := by
    unfold KA
    rw [e1 901 (by decide) (by decide)]
    exact hA
  have hT5 : T.length ≤ 5 := by omega
  have hwl := z_well_le tx s gu o j
  have hps := z_pass_le (s := s) (g := gu) hb1.2.1
  have k2 : ((nI (s.2.1 0 gu)).toInt = 2) = (s.2.1 0 gu = 2) := by rw [nI_toInt (by omega)]; exact propext ⟨fun h => by omega, fun h => by omega⟩
  have k4 : ((nI (s.2.1 0 gu)).toInt = 4) = (s.2.1 0 gu = 4) := by rw [nI_toInt (by omega)]; exact propext ⟨fun h => by omega, fun h => by omega⟩
  simp only [u52_24, u52_25, u52_26, u52_29, u52_32, u52_34, u52_35, u52_36, u52_39, u52_42, u52_43, u52_46, u52_47, u52_50, u52_52, u52_53, u52_56, u52_59, u52_60, u52_63, u52_88, u52_89, u52_90, u52_92, u52_94, u52_95, u52_96, u52_97, u52_98, u52_100, q_push_s, q_push_n, q_sm_0, q_sm_i, q_sm_r, q_sm_n, q_sm_l, q_c1_0, q_c1_i, q_c1_r, q_c1_n, Nat.zero_add, Nat.reduceAdd, Nat.reduceMul, Nat.reduceSub, Nat.reduceLeDiff, Nat.reduceLT, Nat.reduceEqDiff, true_and, and_true, not_false_eq_true, if_true, if_false, ite_true, ite_false, or_true, true_or, or_false, false_or, not_true_eq_false, gf2_0, gf3_5, gf3_3, io2, Nat.zero_le, Nat.reduceLeDiff, c_passesFrom (T := T) hC' hB hA' hT5 hg, n_lt (i := z_well tx s gu o j) (j := z_pass s gu) (by omega) (by omega), c_at (j := gu) sh6 (by decide) (by decide) (show gu < 6 by omega), c_at (j := gu) sh4 (by decide) (by decide) (show gu < 6 by omega), hC'.ma gu hg, hC'.k gu hg, c_answerOf (v := s.2.1 2 gu) (j := j) hb1.2.2.1 hj, k2, k4, n_add, n_and3 (a := z_an (s.2.1 2 gu) j + z_an (s.2.1 2 o) j) (by omega)]
  unfold z_do at hq
  by_cases q1 : z_well tx s gu o j < z_pass s gu
  · rw [if_pos q1] at hq ⊢
    by_cases q2 : s.2.1 0 gu = 2
    · rw [if_pos q2] at hq ⊢; exact hq
    · rw [if_neg q2] at hq ⊢
      by_cases q3 : s.2.1 0 gu = 4
      · rw [if_pos q3] at hq ⊢; exact hq
      · rw [if_neg q3] at hq ⊢; exact hq
  · rw [if_neg q1] at hq ⊢; exact hq
end
