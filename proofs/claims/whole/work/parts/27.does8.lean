/-! ===== who does what, the reference's ===== -/
def z_wv (k more ask ap : Nat) : Int32 :=
  if k = 1 then nI ask - nI (10 * ap) + nI (5 * ap) else if k = 3 then (if ap ≤ 2 then nI ask - nI (10 * ap) + nI (5 * ap) else nI 100 - nI more)
  else if k = 4 then nI ask - nI (10 * ap) + nI more else if k = 5 then (if ap = 0 then nI 100 else (nI ask - nI (10 * ap)) / nI 3) else nI ask - nI (10 * ap)
def z_well (tx : Nat → Nat → List Nat) (s : ZS) (g o j : Nat) : Nat := z_clip (z_wv (s.2.1 0 g) (s.2.1 1 g) (z_ask tx s 0 g o j) (z_ap (s.2.1 2 g) (s.2.1 2 o))) 100
theorem z_well_le (tx : Nat → Nat → List Nat) (s : ZS) (g o j : Nat) : z_well tx s g o j ≤ 100 := z_clip_le _ (by decide)
def z_pass (s : ZS) (g : Nat) : Nat := if s.2.1 0 g = 2 then 50 + 2 * s.2.1 1 g else if s.2.1 0 g = 4 then 50 + 2 * s.2.1 1 g else 50
theorem z_pass_le {s : ZS} {g : Nat} (h : s.2.1 1 g < 10) : z_pass s g ≤ 68 := by
  unfold z_pass
  split
  · omega
  · split <;> omega
def z_do (tx : Nat → Nat → List Nat) (s : ZS) (g o j : Nat) : Nat := if z_well tx s g o j < z_pass s g then (if s.2.1 0 g = 2 then 0 else if s.2.1 0 g = 4 then (z_an (s.2.1 2 g) j + z_an (s.2.1 2 o) j) % 4 else z_an (s.2.1 2 g) j) else z_an (s.2.1 2 o) j
theorem z_do_lt (tx : Nat → Nat → List Nat) (s : ZS) (g o j : Nat) : z_do tx s g o j < 4 := by
  have h1 := z_an_lt (s.2.1 2 g) j
  have h2 := z_an_lt (s.2.1 2 o) j
  unfold z_do
  split
  · split
    · omega
    · split <;> omega
  · omega
section
variable {T : List Nat} {L d : Nat} {m : q_M} {K : Option Value → q_G → q_M → Prop}
theorem c_passesOf {gu : Nat} {s : ZS} (hI : IMo s m) (hB : BZ s) (hg : gu < s.1 0) : q_C 144 d [.ref 38, .int (nI gu)] (GG T L) m K ↔ K (some (.int (nI (z_pass s gu)))) (GG T L) m := by
  have h6 := hB.1
  have hb := hB.2.2.2 gu hg
  simp only [e144, u144_0, u144_1, u144_4, u144_5, u144_6, u144_7, u144_10, u144_11, u144_14, u144_15, u144_16, u144_17, u144_20, u144_22, u144_23, u144_24, u144_27, u144_28, u144_29, u144_30, u144_31, u144_34, u144_36, q_push_s, q_push_n, q_sm_0, q_sm_i, q_sm_r, q_sm_n, q_sm_l, q_c1_0, q_c1_i, q_c1_r, q_c1_n, Nat.zero_add, Nat.reduceAdd, Nat.reduceMul, Nat.reduceSub, Nat.reduceLeDiff, Nat.reduceLT, Nat.reduceEqDiff, true_and, and_true, not_false_eq_true, if_true, if_false, ite_true, ite_false, or_true, true_or, or_false, false_or, not_true_eq_false, gf38_1, gf38_2, ia39 (i := gu) (by omega), ia40 (i := gu) (by omega), hI.k gu hg, hI.mo gu hg, n_mul, n_add, n_eq (i := s.2.1 0 gu) (j := 2) (by omega) (by decide), n_eq (i := s.2.1 0 gu) (j := 4) (by omega) (by decide)]
  unfold z_pass
  by_cases h2 : s.2.1 0 gu = 2
  · simp only [h2, if_true]
  · by_cases h4 : s.2.1 0 gu = 4
    · simp only [h4, if_true, Nat.reduceEqDiff, if_false]
    · simp only [h2, h4, if_false]
theorem c_wellOf {tx : Nat → Nat → List Nat} {n gu o j : Nat} {s : ZS} (hI : IMo s m) (hx : TXM tx n m) (hW : IW s tx n) (hg : gu < s.1 0) (ho : o < s.1 0)
    (hK : ∀ m', (∀ k, k ≠ 53 → k ≠ 54 → m' k = m k) → K (some (.int (nI (z_well tx s gu o j)))) (GG T L) m') :
    q_C 146 (d + 3) [.ref 38, .int (nI gu), .int (nI o), .int (nI j)] (GG T L) m K := by
  obtain ⟨hB, hw, hr, hn6⟩ := hW
  have h6 := hB.1
  have hb1 := hB.2.2.2 gu hg
  have hb2 := hB.2.2.2 o ho
  have hap := fun (K : Option Value → q_G → q_M → Prop) => c_apartOf (T := T) (L := L) (d := d + 1) (K := K) (by omega) (by omega) (hI.ma gu hg) (hI.ma o ho) hb1.2.2.1 hb2.2.2.1
  have hap4 := z_ap_le (s.2.1 2 gu) (s.2.1 2 o)
  have hask := z_ask_le tx s 0 gu o j
  simp only [u146_0, u146_1, u146_2, u146_3, u146_6, u146_8, u146_9, u146_10, u146_11, u146_12, u146_13, e146, q_push_s, q_push_n, q_sm_0, q_sm_i, q_sm_r, q_sm_n, q_sm_l, q_c1_0, q_c1_i, q_c1_r, q_c1_n, Nat.zero_add, Nat.reduceAdd, Nat.reduceMul, Nat.reduceSub, Nat.reduceLeDiff, Nat.reduceLT, Nat.reduceEqDiff, true_and, and_true, not_false_eq_true, if_true, if_false, ite_true, ite_false, or_true, true_or, or_false, false_or, not_true_eq_false, io38, Nat.zero_le, hap]
  refine c_asksOf8 hI hx ⟨hB, hw, hr, hn6⟩ (by decide) hg ho (fun m' e1 => ?_)
  have hq := hK m' e1
  have hk : m' 39 gu = nI (s.2.1 0 gu) := by rw [e1 39 (by decide) (by decide)]; exact hI.k gu hg
  have hmo : m' 40 gu = nI (s.2.1 1 gu) := by rw [e1 40 (by decide) (by decide)]; exact hI.mo gu hg
  unfold z_well at hq
  have e0 : (nI 0).toInt = 0 := by decide +kernel
  have e1 : (nI 1).toInt = 1 := by decide +kernel
  have e2 : (nI 2).toInt = 2 := by decide +kernel
  have e3 : (nI 3).toInt = 3 := by decide +kernel
  have e4 : (nI 4).toInt = 4 := by decide +kernel
  have e5 : (nI 5).toInt = 5 := by decide +kernel
  have z3 : (nI 3 = 0) = False := eq_false (by decide)
  generalize z_ap (s.2.1 2 gu) (s.2.1 2 o) = ap at *
  generalize z_ask tx s 0 gu o j = ask at *
  have f1 : (nI ap ≤ nI 2) = (ap ≤ 2) := n_le (by omega) (by decide)
  have f2 : (nI ap = nI 0) = (ap = 0) := n_eq (by omega) (by decide)
  have hkk : s.2.1 0 gu = 0 ∨ s.2.1 0 gu = 1 ∨ s.2.1 0 gu = 2 ∨ s.2.1 0 gu = 3 ∨ s.2.1 0 gu = 4 ∨ s.2.1 0 gu = 5 := by have := hb1.1; omega
  simp only [u146_16, u146_18, u146_20, u146_21, u146_22, u146_24, u146_26, u146_28, u146_29, u146_32, u146_33, u146_34, u146_68, u146_70, u146_71, u146_73, u146_74, u146_75, u146_77, u146_80, u146_82, u146_83, u146_86, u146_88, u146_89, u146_92, u146_93, u146_94, u146_95, u146_98, u146_100, u146_101, u146_103, u146_104, u146_105, u146_107, u146_110, u146_112, u146_113, u146_116, u146_117, u146_118, u146_119, u146_121, u146_124, u146_126, u146_129, u146_131, u146_134, u146_136, u146_137, u146_138, u146_140, u146_143, u146_145, u146_146, u146_148, u146_151, q_push_s, q_push_n, q_sm_0, q_sm_i, q_sm_r, q_sm_n, q_sm_l, q_c1_0, q_c1_i, q_c1_r, q_c1_n, Nat.zero_add, Nat.reduceAdd, Nat.reduceMul, Nat.reduceSub, Nat.reduceLeDiff, Nat.reduceLT, Nat.reduceEqDiff, true_and, and_true, not_false_eq_true, if_true, if_false, ite_true, ite_false, or_true, true_or, or_false, false_or, not_true_eq_false, gf38_1, gf38_2, n_mul, ia39 (i := gu) (by omega), ia40 (i := gu) (by omega), hk, hmo, c_within, z_win_n, Nat.zero_le]
  rcases hkk with hv | hv | hv | hv | hv | hv <;> rw [hv] at hq ⊢ <;> simp only [e0, e1, e2, e3, e4, e5, Int.reduceEq, if_true, if_false, z_wv, Nat.reduceEqDiff, f1, f2, z3, not_false_eq_true, true_and] at hq ⊢
  · exact hq
  · exact hq
  · exact hq
  · by_cases h : ap ≤ 2
    · rw [if_pos h] at hq ⊢; exact hq
    · rw [if_neg h] at hq ⊢; exact hq
  · exact hq
  · by_cases h : ap = 0
    · rw [if_pos h] at hq ⊢; exact hq
    · rw [if_neg h] at hq ⊢; exact hq
theorem c_doesAs {tx : Nat → Nat → List Nat} {n gu o j : Nat} {s : ZS} (hI : IMo s m) (hx : TXM tx n m) (hW : IW s tx n) (hg : gu < s.1 0) (ho : o < s.1 0) (hj : j < 4)
    (hK : ∀ m', (∀ k, k ≠ 53 → k ≠ 54 → m' k = m k) → K (some (.int (nI (z_do tx s gu o j)))) (GG T L) m') :
    q_C 149 (d + 4) [.ref 38, .int (nI gu), .int (nI o), .int (nI j)] (GG T L) m K := by
  have hB := hW.1
  have h6 := hB.1
  have hb1 := hB.2.2.2 gu hg
  have hb2 := hB.2.2.2 o ho
  have h1 := z_an_lt (s.2.1 2 gu) j
  have h2 := z_an_lt (s.2.1 2 o) j
  simp only [u149_0, u149_1, u149_4, u149_5, u149_6, u149_7, u149_8, u149_9, u149_12, u149_14, u149_15, u149_18, u149_19, u149_20, u149_21, u149_22, u149_23, u149_26, u149_28, u149_29, u149_30, u149_31, u149_32, e149, q_push_s, q_push_n, q_sm_0, q_sm_i, q_sm_r, q_sm_n, q_sm_l, q_c1_0, q_c1_i, q_c1_r, q_c1_n, Nat.zero_add, Nat.reduceAdd, Nat.reduceMul, Nat.reduceSub, Nat.reduceLeDiff, Nat.reduceLT, Nat.reduceEqDiff, true_and, and_true, not_false_eq_true, if_true, if_false, ite_true, ite_false, or_true, true_or, or_false, false_or, not_true_eq_false, io38, Nat.zero_le, Nat.reduceLeDiff, gf38_3, n_mul, ia41 (i := 3 * gu) (by omega), ia41 (i := 3 * o) (by omega), hI.ma gu hg, hI.ma o ho, c_answer (v := s.2.1 2 gu) (j := j) hb1.2.2.1 hj, c_answer (v := s.2.1 2 o) (j := j) hb2.2.2.1 hj]
  refine c_wellOf hI hx hW hg ho (fun m' e1 => ?_)
  have hq := hK m' e1
  have hI' : IMo s m' := hI.fr (by rw [e1 38 (by decide) (by decide)]) (by rw [e1 38 (by decide) (by decide)]) (by rw [e1 38 (by decide) (by decide)]) (fun k h1 h2 => e1 k (by omega) (by omega))
  have hwl := z_well_le tx s gu o j
  have hps := z_pass_le (s := s) (g := gu) hb1.2.1
  have z4 : (nI 4 = 0) = False := eq_false (by decide)
  have k2 : (s.2.1 0 gu = 2) = (nI (s.2.1 0 gu) = nI 2) := (n_eq (by omega) (by decide)).symm
  have k4 : (s.2.1 0 gu = 4) = (nI (s.2.1 0 gu) = nI 4) := (n_eq (by omega) (by decide)).symm
  simp only [u149_35, u149_36, u149_37, u149_40, u149_43, u149_45, u149_46, u149_47, u149_50, u149_51, u149_52, u149_53, u149_56, u149_57, u149_60, u149_61, u149_64, u149_65, u149_66, u149_67, u149_70, u149_72, u149_74, u149_75, u149_76, u149_77, u149_80, u149_82, q_push_s, q_push_n, q_sm_0, q_sm_i, q_sm_r, q_sm_n, q_sm_l, q_c1_0, q_c1_i, q_c1_r, q_c1_n, Nat.zero_add, Nat.reduceAdd, Nat.reduceMul, Nat.reduceSub, Nat.reduceLeDiff, Nat.reduceLT, Nat.reduceEqDiff, true_and, and_true, not_false_eq_true, if_true, if_false, ite_true, ite_false, or_true, true_or, or_false, false_or, not_true_eq_false, io38, Nat.zero_le, Nat.reduceLeDiff, c_passesOf hI' hB hg, n_lt (i := z_well tx s gu o j) (j := z_pass s gu) (by omega) (by omega), gf38_1, ia39 (i := gu) (by omega), hI'.k gu hg, n_add, z4, n_div (a := z_an (s.2.1 2 gu) j + z_an (s.2.1 2 o) j) (d := 4) (by omega) (by decide) (by decide), n_rem (a := z_an (s.2.1 2 gu) j + z_an (s.2.1 2 o) j) (d := 4) (by omega) (by decide) (by decide)]
  unfold z_do at hq
  by_cases q1 : z_well tx s gu o j < z_pass s gu
  · rw [if_pos q1] at hq ⊢
    by_cases q2 : s.2.1 0 gu = 2
    · rw [if_pos q2] at hq; rw [k2] at q2; rw [if_pos q2]; exact hq
    · rw [if_neg q2] at hq; rw [k2] at q2; rw [if_neg q2]
      by_cases q3 : s.2.1 0 gu = 4
      · rw [if_pos q3] at hq; rw [k4] at q3; rw [if_pos q3]; exact hq
      · rw [if_neg q3] at hq; rw [k4] at q3; rw [if_neg q3]; exact hq
  · rw [if_neg q1] at hq ⊢; exact hq
end
