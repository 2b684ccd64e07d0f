/-! ===== copy ===== -/
def z_st (i j n k : Nat) : Nat := if i < j then n - 1 - k else k
/-- still to be copied after k steps -/
def z_rem (i j n k y : Nat) : Prop := if i < j then j ≤ y ∧ y < j + n - k else j + k ≤ y ∧ y < j + n
theorem z_rem_0 {i j n k y : Nat} (h : k = n) : ¬ z_rem i j n k y := by
  unfold z_rem
  split <;> omega
theorem z_rem_s {i j n k y : Nat} (hk : k < n) : z_rem i j n k y ↔ (y = j + z_st i j n k ∨ z_rem i j n (k + 1) y) := by
  unfold z_rem z_st
  split <;> omega
theorem z_rem_n {i j n k y : Nat} (hk : k < n) (h : z_rem i j n (k + 1) y) : ¬ i + (y - j) = j + z_st i j n k ∧ ¬ y = j + z_st i j n k ∧ j ≤ y := by
  unfold z_rem at h
  unfold z_st
  split <;> rename_i q
  · rw [if_pos q] at h; omega
  · rw [if_neg q] at h; omega
theorem z_rem_1 {i j n y : Nat} : z_rem i j n 0 y ↔ (j ≤ y ∧ y < j + n) := by
  unfold z_rem
  split <;> omega
section
variable {T : List Nat} {L d : Nat} {m : q_M} {K : Option Value → q_G → q_M → Prop}
theorem l_copy {f t i j n : Nat} (hf : f < 4) (ht : t < 4) (hi : i + n ≤ 40) (hj : j + n ≤ 40) (x1 x3 : Option Value) : ∀ c k m x9, q_c1 x9 = true → k + c = n → (∀ m', (∀ p, p ≠ 31 + 2 * t → m' p = m p) → (∀ y, (z_rem i j n k y → m' (31 + 2 * t) y = m (31 + 2 * f) (i + (y - j))) ∧ (¬ z_rem i j n k y → m' (31 + 2 * t) y = m (31 + 2 * t) y)) → K (some (.int (nI n))) (GG T L) m') →
    q_R 97 109 (d + 1) [some (.ref 0), x1, some (.int (nI i)), x3, some (.int (nI j)), some (.int (nI n)), some (.ref (30 + 2 * f)), some (.ref (30 + 2 * t)), some (.int (nI k)), x9] [] (GG T L) m K
  | 0, k, m, x9, h9, hk, hK => by
    have e : ¬ k < n := by omega
    simp only [u97_109, u97_111, u97_113, u97_167, u97_169, q_push_s, q_push_n, q_sm_0, q_sm_i, q_sm_r, q_sm_n, q_sm_l, q_c1_0, q_c1_i, q_c1_r, q_c1_n, Nat.zero_add, Nat.reduceAdd, Nat.reduceMul, Nat.reduceSub, Nat.reduceLeDiff, Nat.reduceLT, Nat.reduceEqDiff, true_and, and_true, not_false_eq_true, if_true, if_false, ite_true, ite_false, or_true, true_or, or_false, false_or, not_true_eq_false, n_lt (i := k) (j := n) (by omega) (by omega), e]
    exact hK m (fun _ _ => rfl) (fun y => ⟨fun q => absurd q (z_rem_0 (by omega)), fun _ => rfl⟩)
  | c + 1, k, m, x9, h9, hk, hK => by
    have e : k < n := by omega
    have hst : z_st i j n k < n := by unfold z_st; split <;> omega
    have hfin : q_R 97 134 (d + 1) [some (.ref 0), x1, some (.int (nI i)), x3, some (.int (nI j)), some (.int (nI n)), some (.ref (30 + 2 * f)), some (.ref (30 + 2 * t)), some (.int (nI k)), x9] [.int (nI (z_st i j n k))] (GG T L) m K := by
      simp only [u97_134, u97_136, u97_136n, u97_138, u97_141, u97_143, u97_145, u97_146, u97_146n, u97_148, u97_151, u97_152, u97_154, u97_155, u97_158, u97_161, u97_164, q_push_s, q_push_n, q_sm_0, q_sm_i, q_sm_r, q_sm_n, q_sm_l, q_c1_0, q_c1_i, q_c1_r, q_c1_n, Nat.zero_add, Nat.reduceAdd, Nat.reduceMul, Nat.reduceSub, Nat.reduceLeDiff, Nat.reduceLT, Nat.reduceEqDiff, true_and, and_true, not_false_eq_true, if_true, if_false, ite_true, ite_false, or_true, true_or, or_false, false_or, not_true_eq_false, gfs2 hf, gfs2 ht, n_add, Nat.zero_le, Nat.reduceLeDiff, c_at (j := i + z_st i j n k) (shs hf) (show 31 + 2 * f < 930 by omega) (by decide) (show i + z_st i j n k < 40 by omega), c_put (j := j + z_st i j n k) (shs ht) (show 31 + 2 * t < 900 by omega) (by decide) (show j + z_st i j n k < 40 by omega)]
      refine l_copy hf ht hi hj x1 x3 c (k + 1) _ _ (q_c1_i _ ▸ trivial) (by omega) (fun m' f1 f2 => hK m' (fun p hp => (f1 p hp).trans (q_up_f _ _ _ hp)) (fun y => ⟨fun q => ?_, fun q => ?_⟩))
      · by_cases q2 : z_rem i j n (k + 1) y
        · obtain ⟨q3, q4, q5⟩ := z_rem_n e q2
          rw [(f2 y).1 q2]
          by_cases q6 : f = t
          · subst q6; rw [q_up_i _ _ q3]
          · rw [q_up_f _ _ _ (by omega)]
        · rcases (z_rem_s e).mp q with q3 | q3
          · rw [(f2 y).2 q2, q3, q_up_eq]
            congr 1
            omega
          · exact absurd q3 q2
      · have q2 : ¬ z_rem i j n (k + 1) y := fun q3 => q ((z_rem_s e).mpr (Or.inr q3))
        have q4 : ¬ y = j + z_st i j n k := fun q3 => q ((z_rem_s e).mpr (Or.inl q3))
        rw [(f2 y).2 q2, q_up_i _ _ q4]
    rw [u97_109]
    simp only [u97_111, u97_113, u97_116, u97_117, u97_119, u97_122, u97_124, u97_125, u97_126, u97_128, u97_129, u97_132, q_push_s, q_push_n, q_sm_0, q_sm_i, q_sm_r, q_sm_n, q_sm_l, q_c1_0, q_c1_i, q_c1_r, q_c1_n, Nat.zero_add, Nat.reduceAdd, Nat.reduceMul, Nat.reduceSub, Nat.reduceLeDiff, Nat.reduceLT, Nat.reduceEqDiff, true_and, and_true, not_false_eq_true, if_true, if_false, ite_true, ite_false, or_true, true_or, or_false, false_or, not_true_eq_false, n_lt (i := k) (j := n) (by omega) (by omega), e, n_lt (i := i) (j := j) (by omega) (by omega)]
    by_cases q : i < j
    · rw [if_pos q, n_sub (a := n) (b := 1) (by omega), n_sub (a := n - 1) (b := k) (by omega)]
      have e2 : n - 1 - k = z_st i j n k := by unfold z_st; rw [if_pos q]
      rw [e2]
      exact hfin
    · rw [if_neg q]
      have e2 : k = z_st i j n k := by unfold z_st; rw [if_neg q]
      have hfin2 := hfin
      rw [← e2] at hfin2
      exact hfin2
theorem l_copy8 {i j n : Nat} (hi : i + n ≤ 160) (hj : j + n ≤ 160) (x1 x2 x3 x4 : Option Value) : ∀ c k m x9, q_c1 x9 = true → k + c = n → (∀ m', (∀ p, p ≠ 49 → m' p = m p) → (∀ y, (z_rem i j n k y → m' 49 y = m 49 (i + (y - j))) ∧ (¬ z_rem i j n k y → m' 49 y = m 49 y)) → K (some (.int (nI n))) (GG T L) m') →
    q_R 197 147 d [some (.ref 38), x1, x2, x3, x4, some (.int (nI n)), some (.int (nI i)), some (.int (nI j)), some (.int (nI k)), x9] [] (GG T L) m K
  | 0, k, m, x9, h9, hk, hK => by
    have e : ¬ k < n := by omega
    simp only [u197_147, u197_149, u197_151, u197_201, u197_203, q_push_s, q_push_n, q_sm_0, q_sm_i, q_sm_r, q_sm_n, q_sm_l, q_c1_0, q_c1_i, q_c1_r, q_c1_n, Nat.zero_add, Nat.reduceAdd, Nat.reduceMul, Nat.reduceSub, Nat.reduceLeDiff, Nat.reduceLT, Nat.reduceEqDiff, true_and, and_true, not_false_eq_true, if_true, if_false, ite_true, ite_false, or_true, true_or, or_false, false_or, not_true_eq_false, n_lt (i := k) (j := n) (by omega) (by omega), e]
    exact hK m (fun _ _ => rfl) (fun y => ⟨fun q => absurd q (z_rem_0 (by omega)), fun _ => rfl⟩)
  | c + 1, k, m, x9, h9, hk, hK => by
    have e : k < n := by omega
    have hst : z_st i j n k < n := by unfold z_st; split <;> omega
    have cj : (nI (j + z_st i j n k)).toNatClampNeg = j + z_st i j n k := n_cl (by omega)
    have hfin : q_R 197 173 d [some (.ref 38), x1, x2, x3, x4, some (.int (nI n)), some (.int (nI i)), some (.int (nI j)), some (.int (nI k)), x9] [.int (nI (z_st i j n k))] (GG T L) m K := by
      simp only [u197_173, u197_175, u197_176, u197_179, u197_181, u197_183, u197_184, u197_185, u197_188, u197_190, u197_192, u197_193, u197_194, u197_195, u197_198, q_push_s, q_push_n, q_sm_0, q_sm_i, q_sm_r, q_sm_n, q_sm_l, q_c1_0, q_c1_i, q_c1_r, q_c1_n, Nat.zero_add, Nat.reduceAdd, Nat.reduceMul, Nat.reduceSub, Nat.reduceLeDiff, Nat.reduceLT, Nat.reduceEqDiff, true_and, and_true, not_false_eq_true, if_true, if_false, ite_true, ite_false, or_true, true_or, or_false, false_or, not_true_eq_false, gf38_19, n_add, ia49 (i := i + z_st i j n k) (by omega), is49 (i := j + z_st i j n k) (by omega), cj]
      refine l_copy8 hi hj x1 x2 x3 x4 c (k + 1) _ _ (q_c1_i _ ▸ trivial) (by omega) (fun m' f1 f2 => hK m' (fun p hp => (f1 p hp).trans (q_up_f _ _ _ hp)) (fun y => ⟨fun q => ?_, fun q => ?_⟩))
      · by_cases q2 : z_rem i j n (k + 1) y
        · obtain ⟨q3, q4, q5⟩ := z_rem_n e q2
          rw [(f2 y).1 q2, q_up_i _ _ q3]
        · rcases (z_rem_s e).mp q with q3 | q3
          · rw [(f2 y).2 q2, q3, q_up_eq]
            congr 1
            omega
          · exact absurd q3 q2
      · have q2 : ¬ z_rem i j n (k + 1) y := fun q3 => q ((z_rem_s e).mpr (Or.inr q3))
        have q4 : ¬ y = j + z_st i j n k := fun q3 => q ((z_rem_s e).mpr (Or.inl q3))
        rw [(f2 y).2 q2, q_up_i _ _ q4]
    rw [u197_147]
    simp only [u197_149, u197_151, u197_154, u197_156, u197_158, u197_161, u197_163, u197_164, u197_165, u197_167, u197_168, u197_171, q_push_s, q_push_n, q_sm_0, q_sm_i, q_sm_r, q_sm_n, q_sm_l, q_c1_0, q_c1_i, q_c1_r, q_c1_n, Nat.zero_add, Nat.reduceAdd, Nat.reduceMul, Nat.reduceSub, Nat.reduceLeDiff, Nat.reduceLT, Nat.reduceEqDiff, true_and, and_true, not_false_eq_true, if_true, if_false, ite_true, ite_false, or_true, true_or, or_false, false_or, not_true_eq_false, n_lt (i := k) (j := n) (by omega) (by omega), e, n_lt (i := i) (j := j) (by omega) (by omega)]
    by_cases q : i < j
    · rw [if_pos q, n_sub (a := n) (b := 1) (by omega), n_sub (a := n - 1) (b := k) (by omega)]
      have e2 : n - 1 - k = z_st i j n k := by unfold z_st; rw [if_pos q]
      rw [e2]
      exact hfin
    · rw [if_neg q]
      have e2 : k = z_st i j n k := by unfold z_st; rw [if_neg q]
      have hfin2 := hfin
      rw [← e2] at hfin2
      exact hfin2
end
section
variable {T : List Nat} {L d : Nat} {xs : Nat → Int32} {s : ZS} {tx : Nat → Nat → List Nat} {n : Nat} {tp : Nat → Nat} {z : Nat} {h h' : ZH} {wd : Nat → Int32} {m m1 m2 : q_M} {K : Option Value → Option Value → q_G → q_M → Prop}
theorem LJ.cpy (l : LJ T L xs s tx n tp z h wd m) {f t i j c : Nat} (hf : f < 4) (ht : t < 4) (hi : i + c ≤ h.2.1 f) (hj : j + c ≤ h.2.1 t) (f1 : ∀ p, p ≠ 31 + 2 * t → m1 p = m p)
    (f2 : ∀ y, (z_rem i j c 0 y → m1 (31 + 2 * t) y = m (31 + 2 * f) (i + (y - j))) ∧ (¬ z_rem i j c 0 y → m1 (31 + 2 * t) y = m (31 + 2 * t) y))
    (g1 : ∀ p, p ≠ 49 → m2 p = m1 p) (g2 : ∀ y, (z_rem (40 * f + i) (40 * t + j) c 0 y → m2 49 y = m1 49 ((40 * f + i) + (y - (40 * t + j)))) ∧ (¬ z_rem (40 * f + i) (40 * t + j) c 0 y → m2 49 y = m1 49 y)) :
    LJ T L xs s tx n tp z (z_shs h t (h.1 t) (h.2.1 t) (fun y => if j ≤ y ∧ y < j + c then h.2.2 f (i + (y - j)) else h.2.2 t y)) wd m2 := by
  obtain ⟨a1, a2, a3, a4, a5, a6, a7, a8⟩ := l.sh f hf
  obtain ⟨b1, b2, b3, b4, b5, b6, b7, b8⟩ := l.sh t ht
  have e49 : m1 49 = m 49 := f1 49 (by omega)
  refine l.fh (FH.of (fun p h1 h2 => by rw [g1 p (by omega), f1 p (by omega)])) (l.sh.set ht b1 b2 b3 (fun q hq qn => ?_) ?_ ?_ ?_ ?_ (fun y hy => ?_))
  · refine ⟨?_, ?_, ?_, ?_, fun x hx => ?_⟩
    · rw [g1 _ (by omega), f1 _ (by omega)]
    · rw [g1 _ (by omega), f1 _ (by omega)]
    · rw [g1 _ (by omega), f1 _ (by omega)]
    · rw [g1 _ (by omega), f1 _ (by omega)]
    · rw [(g2 _).2 (by rw [z_rem_1]; omega), e49]
  · rw [g1 _ (by omega), f1 _ (by omega)]; exact b4
  · rw [g1 _ (by omega), f1 _ (by omega)]; exact b5
  · rw [g1 _ (by omega), f1 _ (by omega)]; exact b6
  · rw [g1 _ (by omega), f1 _ (by omega)]; exact b7
  · rw [g1 _ (by omega)]
    show _ = (if j ≤ y ∧ y < j + c then h.2.2 f (i + (y - j)) else h.2.2 t y) ∧ _ = (if j ≤ y ∧ y < j + c then h.2.2 f (i + (y - j)) else h.2.2 t y)
    by_cases q : j ≤ y ∧ y < j + c
    · rw [if_pos q, (f2 y).1 (z_rem_1.mpr q), (g2 _).1 (by rw [z_rem_1]; omega), e49]
      have e : 40 * f + i + (40 * t + y - (40 * t + j)) = 40 * f + (i + (y - j)) := by omega
      rw [e]
      exact a8 _ (by omega)
    · rw [if_neg q, (f2 y).2 (fun e => q (z_rem_1.mp e)), (g2 _).2 (by rw [z_rem_1]; omega), e49]
      exact b8 y hy
theorem z_lesub {p q k : Nat} (hp : p < 2 ^ 30) (hq : q < 2 ^ 30) (hk : k < 2 ^ 30) : (nI p ≤ nI q - nI k) = (p + k ≤ q) := by
  rw [Int32.le_iff_toInt_le, pk_sub_toInt hq hk, nI_toInt (by omega)]
  exact propext ⟨fun h => by omega, fun h => by omega⟩
/-- what a copy asks of a place and how many -/
theorem z_cpok (v w : Int32) {q : Nat} (hq : q ≤ 40) : (∃ i c, i + c ≤ q ∧ v = nI i ∧ w = nI c) ∨ v < nI 0 ∨ w < nI 0 ∨ (¬ v < nI 0 ∧ ¬ w < nI 0 ∧ ¬ w ≤ nI q - v) := by
  by_cases h1 : v < nI 0
  · exact Or.inr (Or.inl h1)
  · by_cases h2 : w < nI 0
    · exact Or.inr (Or.inr (Or.inl h2))
    · obtain ⟨i, hi, rfl⟩ := nI_of (x := v) (by rw [← nI_0]; exact h1)
      obtain ⟨c, hc, rfl⟩ := nI_of (x := w) (by rw [← nI_0]; exact h2)
      by_cases h3 : nI c ≤ nI q - nI i
      · refine Or.inl ⟨i, c, ?_, rfl, rfl⟩
        have e : (nI q - nI i).toInt = (q : Int) - i := by
          rw [Int32.toInt_sub, nI_toInt (by omega), nI_toInt hi]
          exact Int.bmod_eq_of_le (by omega) (by omega)
        rw [Int32.le_iff_toInt_le, nI_toInt hc, e] at h3
        omega
      · exact Or.inr (Or.inr (Or.inr ⟨h1, h2, h3⟩))
theorem p_copy (l : LJ T L xs s tx n tp z h wd m) (a b c e f : Int32) (hK : ∀ r h' m', LJ T L xs s tx n tp z h' wd m' → K (some (.int r)) (some (.int r)) (GG T L) m') :
    q_C 97 (d + 3) [.ref 0, .int a, .int b, .int c, .int e, .int f] (GG T L) m (fun v g m => q_C 197 (d + 3) [.ref 38, .int a, .int b, .int c, .int e, .int f] g m (fun v' g m => K v v' g m)) := by
  have tail : ∀ {u t : Nat}, u < 4 → t < 4 → q_R 97 27 (d + 3) [some (.ref 0), some (.int (nI u)), some (.int b), some (.int (nI t)), some (.int e), some (.int f), some (.ref (30 + 2 * u)), some (.ref (30 + 2 * t)), none, none] [] (GG T L) m (fun v g m => q_R 197 21 (d + 3) [some (.ref 38), some (.int (nI u)), some (.int b), some (.int (nI t)), some (.int e), some (.int f), none, none, none, none] [] g m (fun v' g m => K v v' g m)) := by
    intro u t hu ht
    obtain ⟨a1, a2, a3, a4, a5, a6, a7, a8⟩ := l.sh u hu
    obtain ⟨b1, b2, b3, b4, b5, b6, b7, b8⟩ := l.sh t ht
    by_cases s1 : h.1 u = (-1 : Int32)
    · simp only [u97_27, u97_27n, u97_29, u97_32, u97_33, u97_36, u97_36n, u97_38, u97_41, u97_42, u97_45, u97_47, u197_21, u197_22, u197_25, u197_26, u197_27, u197_28, u197_31, u197_32, u197_35, u197_36, u197_37, u197_38, u197_41, u197_43, q_push_s, q_push_n, q_sm_0, q_sm_i, q_sm_r, q_sm_n, q_sm_l, q_c1_0, q_c1_i, q_c1_r, q_c1_n, Nat.zero_add, Nat.reduceAdd, Nat.reduceMul, Nat.reduceSub, Nat.reduceLeDiff, Nat.reduceLT, Nat.reduceEqDiff, true_and, and_true, not_false_eq_true, if_true, if_false, ite_true, ite_false, or_true, true_or, or_false, false_or, not_true_eq_false, gfs0 hu, gf38_17, ia47 hu, a4, a5, s1]
      exact hK _ _ _ l
    · by_cases s2 : h.1 t = (-1 : Int32)
      · simp only [u97_27, u97_27n, u97_29, u97_32, u97_33, u97_36, u97_36n, u97_38, u97_41, u97_42, u97_45, u97_47, u197_21, u197_22, u197_25, u197_26, u197_27, u197_28, u197_31, u197_32, u197_35, u197_36, u197_37, u197_38, u197_41, u197_43, q_push_s, q_push_n, q_sm_0, q_sm_i, q_sm_r, q_sm_n, q_sm_l, q_c1_0, q_c1_i, q_c1_r, q_c1_n, Nat.zero_add, Nat.reduceAdd, Nat.reduceMul, Nat.reduceSub, Nat.reduceLeDiff, Nat.reduceLT, Nat.reduceEqDiff, true_and, and_true, not_false_eq_true, if_true, if_false, ite_true, ite_false, or_true, true_or, or_false, false_or, not_true_eq_false, gfs0 hu, gfs0 ht, gf38_17, ia47 hu, ia47 ht, a4, a5, b4, b5, s1, s2]
        exact hK _ _ _ l
      · by_cases s3 : h.1 u = h.1 t
        · simp only [u97_27, u97_27n, u97_29, u97_32, u97_33, u97_36, u97_36n, u97_38, u97_41, u97_42, u97_45, u97_47, u97_48, u97_48n, u97_50, u97_53, u97_53n, u97_55, u97_58, q_push_s, q_push_n, q_sm_0, q_sm_i, q_sm_r, q_sm_n, q_sm_l, q_c1_0, q_c1_i, q_c1_r, q_c1_n, Nat.zero_add, Nat.reduceAdd, Nat.reduceMul, Nat.reduceSub, Nat.reduceLeDiff, Nat.reduceLT, Nat.reduceEqDiff, true_and, and_true, not_false_eq_true, if_true, if_false, ite_true, ite_false, or_true, true_or, or_false, false_or, not_true_eq_false, gfs0 hu, gfs0 ht, a4, b4, s2, s3]
          have s4 : ¬ h.1 u = (-1 : Int32) := s1
          rcases z_cpok b f a3 with ⟨i, w, hi, rfl, rfl⟩ | hb | hf | ⟨h1, h2, h3⟩
          · rcases z_cpok e (nI w) b3 with ⟨j, w', hj, rfl, hw⟩ | he | hf | ⟨h4, h5, h6⟩
            · have hww : w = w' := (nI_eq (by omega) (by omega)).mp hw
              subst hww
              have y1 := z_lesub (p := w) (q := h.2.1 u) (k := i) (by omega) (by omega) (by omega)
              have y2 := z_lesub (p := w) (q := h.2.1 t) (k := j) (by omega) (by omega) (by omega)
              have y3 : w + i ≤ h.2.1 u := by omega
              have y4 : w + j ≤ h.2.1 t := by omega
              have y5 := n_le (i := i) (j := h.2.1 u) (by omega) (by omega)
              have y6 := n_le (i := j) (j := h.2.1 t) (by omega) (by omega)
              have y7 : i ≤ h.2.1 u := by omega
              have y8 : j ≤ h.2.1 t := by omega
              simp only [u97_64, u97_65, u97_68, u97_70, u97_73, u97_75, u97_78, u97_80, u97_80n, u97_82, u97_85, u97_86, u97_87, u97_90, u97_92, u97_92n, u97_94, u97_97, u97_99, u97_100, u97_103, u97_105, u97_106, u97_107, q_push_s, q_push_n, q_sm_0, q_sm_i, q_sm_r, q_sm_n, q_sm_l, q_c1_0, q_c1_i, q_c1_r, q_c1_n, Nat.zero_add, Nat.reduceAdd, Nat.reduceMul, Nat.reduceSub, Nat.reduceLeDiff, Nat.reduceLT, Nat.reduceEqDiff, true_and, and_true, not_false_eq_true, if_true, if_false, ite_true, ite_false, or_true, true_or, or_false, false_or, not_true_eq_false, gfs1 hu, gfs1 ht, a6, b6, n_lt0 (j := i) (by omega), n_lt0 (j := j) (by omega), n_lt0 (j := w) (by omega), y1, y2, y3, y4]
              refine l_copy hu ht (by omega) (by omega) _ _ w 0 m _ (of_eq_true q_c1_0) (by omega) (fun m1 f1 f2 => ?_)
              have e48 : m1 48 = m 48 := f1 48 (by omega)
              have e47 : m1 47 = m 47 := f1 47 (by omega)
              simp only [u197_21, u197_22, u197_25, u197_26, u197_27, u197_28, u197_31, u197_32, u197_35, u197_36, u197_37, u197_38, u197_41, u197_43, u197_44, u197_45, u197_48, u197_49, u197_50, u197_51, u197_54, u197_55, u197_56, u197_59, u197_61, u197_62, u197_64, u197_67, u197_68, u197_71, u197_73, u197_76, u197_77, u197_78, u197_81, u197_82, u197_83, u197_86, u197_88, u197_89, u197_92, u197_93, u197_94, u197_97, u197_99, u197_100, u197_103, u197_104, u197_105, u197_106, u197_107, u197_110, u197_112, u197_113, u197_116, u197_117, u197_118, u197_120, u197_121, u197_124, u197_126, u197_127, u197_129, u197_130, u197_131, u197_132, u197_133, u197_135, u197_137, u197_138, u197_139, u197_141, u197_142, u197_144, u197_145, q_push_s, q_push_n, q_sm_0, q_sm_i, q_sm_r, q_sm_n, q_sm_l, q_c1_0, q_c1_i, q_c1_r, q_c1_n, Nat.zero_add, Nat.reduceAdd, Nat.reduceMul, Nat.reduceSub, Nat.reduceLeDiff, Nat.reduceLT, Nat.reduceEqDiff, true_and, and_true, not_false_eq_true, if_true, if_false, ite_true, ite_false, or_true, true_or, or_false, false_or, not_true_eq_false, gf38_17, e47, ia47 hu, ia47 ht, a5, b5, s2, s3, gf38_18, ia48 hu, ia48 ht, e48, a7, b7, n_lt0 (j := i) (by omega), n_lt0 (j := j) (by omega), n_lt0 (j := w) (by omega), y1, y2, y3, y4, y5, y6, y7, y8, n_mul, n_add]
              refine l_copy8 (by omega) (by omega) _ _ _ _ w 0 m1 _ (of_eq_true q_c1_0) (by omega) (fun m2 g1 g2 => ?_)
              exact hK _ _ _ (l.cpy hu ht (by omega) (by omega) f1 f2 g1 g2)
            · have hi0 := n_lt0 (j := i) (by omega)
              have hw0 := n_lt0 (j := w) (by omega)
              simp only [u97_64, u97_65, u97_68, u97_70, u97_73, u97_75, u97_78, u97_80, u97_80n, u97_82, u97_85, u97_86, u97_87, u97_90, u97_92, u97_92n, u97_94, u97_97, u97_99, u97_100, u97_103, u97_105, u197_21, u197_22, u197_25, u197_26, u197_27, u197_28, u197_31, u197_32, u197_35, u197_36, u197_37, u197_38, u197_41, u197_43, u197_44, u197_45, u197_48, u197_49, u197_50, u197_51, u197_54, u197_55, u197_56, u197_59, u197_61, u197_62, u197_64, u197_67, u197_68, u197_71, u197_73, u197_76, u197_77, u197_78, u197_81, u197_82, u197_83, u197_86, u197_88, u197_89, u197_92, u197_93, u197_94, u197_97, u197_99, u197_100, u197_103, u197_104, u197_105, u197_106, u197_107, u197_110, u197_112, u197_113, u197_116, u197_117, u197_118, u197_120, u197_121, u197_124, u197_126, q_push_s, q_push_n, q_sm_0, q_sm_i, q_sm_r, q_sm_n, q_sm_l, q_c1_0, q_c1_i, q_c1_r, q_c1_n, Nat.zero_add, Nat.reduceAdd, Nat.reduceMul, Nat.reduceSub, Nat.reduceLeDiff, Nat.reduceLT, Nat.reduceEqDiff, true_and, and_true, not_false_eq_true, if_true, if_false, ite_true, ite_false, or_true, true_or, or_false, false_or, not_true_eq_false, gf38_17, ia47 hu, ia47 ht, a5, b5, s2, s3, hi0, hw0, he]
              exact hK _ _ _ l
            · rw [n_lt0 (by omega)] at hf
              exact hf.elim
            · have hi0 := n_lt0 (j := i) (by omega)
              have hw0 := n_lt0 (j := w) (by omega)
              have y1 := z_lesub (p := w) (q := h.2.1 u) (k := i) (by omega) (by omega) (by omega)
              have y3 : w + i ≤ h.2.1 u := by omega
              have y5 := n_le (i := i) (j := h.2.1 u) (by omega) (by omega)
              have y7 : i ≤ h.2.1 u := by omega
              simp only [u97_64, u97_65, u97_68, u97_70, u97_73, u97_75, u97_78, u97_80, u97_80n, u97_82, u97_85, u97_86, u97_87, u97_90, u97_92, u97_92n, u97_94, u97_97, u97_99, u97_100, u97_103, u97_105, u197_21, u197_22, u197_25, u197_26, u197_27, u197_28, u197_31, u197_32, u197_35, u197_36, u197_37, u197_38, u197_41, u197_43, u197_44, u197_45, u197_48, u197_49, u197_50, u197_51, u197_54, u197_55, u197_56, u197_59, u197_61, u197_62, u197_64, u197_67, u197_68, u197_71, u197_73, u197_76, u197_77, u197_78, u197_81, u197_82, u197_83, u197_86, u197_88, u197_89, u197_92, u197_93, u197_94, u197_97, u197_99, u197_100, u197_103, u197_104, u197_105, u197_106, u197_107, u197_110, u197_112, u197_113, u197_116, u197_117, u197_118, u197_120, u197_121, u197_124, u197_126, q_push_s, q_push_n, q_sm_0, q_sm_i, q_sm_r, q_sm_n, q_sm_l, q_c1_0, q_c1_i, q_c1_r, q_c1_n, Nat.zero_add, Nat.reduceAdd, Nat.reduceMul, Nat.reduceSub, Nat.reduceLeDiff, Nat.reduceLT, Nat.reduceEqDiff, true_and, and_true, not_false_eq_true, if_true, if_false, ite_true, ite_false, or_true, true_or, or_false, false_or, not_true_eq_false, gf38_17, ia47 hu, ia47 ht, a5, b5, s2, s3, gfs1 hu, gfs1 ht, gf38_18, ia48 hu, ia48 ht, a6, b6, a7, b7, hi0, hw0, h4, h6, y1, y3, y5, y7]
              by_cases q : e ≤ nI (h.2.1 t)
              · rw [if_pos q]; exact hK _ _ _ l
              · rw [if_neg q]; exact hK _ _ _ l
          · by_cases q : f < nI 0
            · simp only [u97_64, u97_65, u97_68, u97_70, u97_73, u97_75, u97_78, u97_80, u97_80n, u97_82, u97_85, u97_86, u97_87, u97_90, u97_92, u97_92n, u97_94, u97_97, u97_99, u97_100, u97_103, u97_105, u197_21, u197_22, u197_25, u197_26, u197_27, u197_28, u197_31, u197_32, u197_35, u197_36, u197_37, u197_38, u197_41, u197_43, u197_44, u197_45, u197_48, u197_49, u197_50, u197_51, u197_54, u197_55, u197_56, u197_59, u197_61, u197_62, u197_64, u197_67, u197_68, u197_71, u197_73, u197_76, u197_77, u197_78, u197_81, u197_82, u197_83, u197_86, u197_88, u197_89, u197_92, u197_93, u197_94, u197_97, u197_99, u197_100, u197_103, u197_104, u197_105, u197_106, u197_107, u197_110, u197_112, u197_113, u197_116, u197_117, u197_118, u197_120, u197_121, u197_124, u197_126, q_push_s, q_push_n, q_sm_0, q_sm_i, q_sm_r, q_sm_n, q_sm_l, q_c1_0, q_c1_i, q_c1_r, q_c1_n, Nat.zero_add, Nat.reduceAdd, Nat.reduceMul, Nat.reduceSub, Nat.reduceLeDiff, Nat.reduceLT, Nat.reduceEqDiff, true_and, and_true, not_false_eq_true, if_true, if_false, ite_true, ite_false, or_true, true_or, or_false, false_or, not_true_eq_false, gf38_17, ia47 hu, ia47 ht, a5, b5, s2, s3, hb, q]; exact hK _ _ _ l
            · simp only [u97_64, u97_65, u97_68, u97_70, u97_73, u97_75, u97_78, u97_80, u97_80n, u97_82, u97_85, u97_86, u97_87, u97_90, u97_92, u97_92n, u97_94, u97_97, u97_99, u97_100, u97_103, u97_105, u197_21, u197_22, u197_25, u197_26, u197_27, u197_28, u197_31, u197_32, u197_35, u197_36, u197_37, u197_38, u197_41, u197_43, u197_44, u197_45, u197_48, u197_49, u197_50, u197_51, u197_54, u197_55, u197_56, u197_59, u197_61, u197_62, u197_64, u197_67, u197_68, u197_71, u197_73, u197_76, u197_77, u197_78, u197_81, u197_82, u197_83, u197_86, u197_88, u197_89, u197_92, u197_93, u197_94, u197_97, u197_99, u197_100, u197_103, u197_104, u197_105, u197_106, u197_107, u197_110, u197_112, u197_113, u197_116, u197_117, u197_118, u197_120, u197_121, u197_124, u197_126, q_push_s, q_push_n, q_sm_0, q_sm_i, q_sm_r, q_sm_n, q_sm_l, q_c1_0, q_c1_i, q_c1_r, q_c1_n, Nat.zero_add, Nat.reduceAdd, Nat.reduceMul, Nat.reduceSub, Nat.reduceLeDiff, Nat.reduceLT, Nat.reduceEqDiff, true_and, and_true, not_false_eq_true, if_true, if_false, ite_true, ite_false, or_true, true_or, or_false, false_or, not_true_eq_false, gf38_17, ia47 hu, ia47 ht, a5, b5, s2, s3, hb, q]; exact hK _ _ _ l
          · by_cases q : b < nI 0
            · simp only [u97_64, u97_65, u97_68, u97_70, u97_73, u97_75, u97_78, u97_80, u97_80n, u97_82, u97_85, u97_86, u97_87, u97_90, u97_92, u97_92n, u97_94, u97_97, u97_99, u97_100, u97_103, u97_105, u197_21, u197_22, u197_25, u197_26, u197_27, u197_28, u197_31, u197_32, u197_35, u197_36, u197_37, u197_38, u197_41, u197_43, u197_44, u197_45, u197_48, u197_49, u197_50, u197_51, u197_54, u197_55, u197_56, u197_59, u197_61, u197_62, u197_64, u197_67, u197_68, u197_71, u197_73, u197_76, u197_77, u197_78, u197_81, u197_82, u197_83, u197_86, u197_88, u197_89, u197_92, u197_93, u197_94, u197_97, u197_99, u197_100, u197_103, u197_104, u197_105, u197_106, u197_107, u197_110, u197_112, u197_113, u197_116, u197_117, u197_118, u197_120, u197_121, u197_124, u197_126, q_push_s, q_push_n, q_sm_0, q_sm_i, q_sm_r, q_sm_n, q_sm_l, q_c1_0, q_c1_i, q_c1_r, q_c1_n, Nat.zero_add, Nat.reduceAdd, Nat.reduceMul, Nat.reduceSub, Nat.reduceLeDiff, Nat.reduceLT, Nat.reduceEqDiff, true_and, and_true, not_false_eq_true, if_true, if_false, ite_true, ite_false, or_true, true_or, or_false, false_or, not_true_eq_false, gf38_17, ia47 hu, ia47 ht, a5, b5, s2, s3, hf, q]; exact hK _ _ _ l
            · by_cases q2 : e < nI 0
              · simp only [u97_64, u97_65, u97_68, u97_70, u97_73, u97_75, u97_78, u97_80, u97_80n, u97_82, u97_85, u97_86, u97_87, u97_90, u97_92, u97_92n, u97_94, u97_97, u97_99, u97_100, u97_103, u97_105, u197_21, u197_22, u197_25, u197_26, u197_27, u197_28, u197_31, u197_32, u197_35, u197_36, u197_37, u197_38, u197_41, u197_43, u197_44, u197_45, u197_48, u197_49, u197_50, u197_51, u197_54, u197_55, u197_56, u197_59, u197_61, u197_62, u197_64, u197_67, u197_68, u197_71, u197_73, u197_76, u197_77, u197_78, u197_81, u197_82, u197_83, u197_86, u197_88, u197_89, u197_92, u197_93, u197_94, u197_97, u197_99, u197_100, u197_103, u197_104, u197_105, u197_106, u197_107, u197_110, u197_112, u197_113, u197_116, u197_117, u197_118, u197_120, u197_121, u197_124, u197_126, q_push_s, q_push_n, q_sm_0, q_sm_i, q_sm_r, q_sm_n, q_sm_l, q_c1_0, q_c1_i, q_c1_r, q_c1_n, Nat.zero_add, Nat.reduceAdd, Nat.reduceMul, Nat.reduceSub, Nat.reduceLeDiff, Nat.reduceLT, Nat.reduceEqDiff, true_and, and_true, not_false_eq_true, if_true, if_false, ite_true, ite_false, or_true, true_or, or_false, false_or, not_true_eq_false, gf38_17, ia47 hu, ia47 ht, a5, b5, s2, s3, hf, q, q2]; exact hK _ _ _ l
              · simp only [u97_64, u97_65, u97_68, u97_70, u97_73, u97_75, u97_78, u97_80, u97_80n, u97_82, u97_85, u97_86, u97_87, u97_90, u97_92, u97_92n, u97_94, u97_97, u97_99, u97_100, u97_103, u97_105, u197_21, u197_22, u197_25, u197_26, u197_27, u197_28, u197_31, u197_32, u197_35, u197_36, u197_37, u197_38, u197_41, u197_43, u197_44, u197_45, u197_48, u197_49, u197_50, u197_51, u197_54, u197_55, u197_56, u197_59, u197_61, u197_62, u197_64, u197_67, u197_68, u197_71, u197_73, u197_76, u197_77, u197_78, u197_81, u197_82, u197_83, u197_86, u197_88, u197_89, u197_92, u197_93, u197_94, u197_97, u197_99, u197_100, u197_103, u197_104, u197_105, u197_106, u197_107, u197_110, u197_112, u197_113, u197_116, u197_117, u197_118, u197_120, u197_121, u197_124, u197_126, q_push_s, q_push_n, q_sm_0, q_sm_i, q_sm_r, q_sm_n, q_sm_l, q_c1_0, q_c1_i, q_c1_r, q_c1_n, Nat.zero_add, Nat.reduceAdd, Nat.reduceMul, Nat.reduceSub, Nat.reduceLeDiff, Nat.reduceLT, Nat.reduceEqDiff, true_and, and_true, not_false_eq_true, if_true, if_false, ite_true, ite_false, or_true, true_or, or_false, false_or, not_true_eq_false, gf38_17, ia47 hu, ia47 ht, a5, b5, s2, s3, hf, q, q2]; exact hK _ _ _ l
          · by_cases q2 : e < nI 0
            · simp only [u97_64, u97_65, u97_68, u97_70, u97_73, u97_75, u97_78, u97_80, u97_80n, u97_82, u97_85, u97_86, u97_87, u97_90, u97_92, u97_92n, u97_94, u97_97, u97_99, u97_100, u97_103, u97_105, u197_21, u197_22, u197_25, u197_26, u197_27, u197_28, u197_31, u197_32, u197_35, u197_36, u197_37, u197_38, u197_41, u197_43, u197_44, u197_45, u197_48, u197_49, u197_50, u197_51, u197_54, u197_55, u197_56, u197_59, u197_61, u197_62, u197_64, u197_67, u197_68, u197_71, u197_73, u197_76, u197_77, u197_78, u197_81, u197_82, u197_83, u197_86, u197_88, u197_89, u197_92, u197_93, u197_94, u197_97, u197_99, u197_100, u197_103, u197_104, u197_105, u197_106, u197_107, u197_110, u197_112, u197_113, u197_116, u197_117, u197_118, u197_120, u197_121, u197_124, u197_126, q_push_s, q_push_n, q_sm_0, q_sm_i, q_sm_r, q_sm_n, q_sm_l, q_c1_0, q_c1_i, q_c1_r, q_c1_n, Nat.zero_add, Nat.reduceAdd, Nat.reduceMul, Nat.reduceSub, Nat.reduceLeDiff, Nat.reduceLT, Nat.reduceEqDiff, true_and, and_true, not_false_eq_true, if_true, if_false, ite_true, ite_false, or_true, true_or, or_false, false_or, not_true_eq_false, gf38_17, ia47 hu, ia47 ht, a5, b5, s2, s3, h1, h2, q2]; exact hK _ _ _ l
            · by_cases q3 : b ≤ nI (h.2.1 u)
              · by_cases q4 : e ≤ nI (h.2.1 t)
                · simp only [u97_64, u97_65, u97_68, u97_70, u97_73, u97_75, u97_78, u97_80, u97_80n, u97_82, u97_85, u97_86, u97_87, u97_90, u97_92, u97_92n, u97_94, u97_97, u97_99, u97_100, u97_103, u97_105, u197_21, u197_22, u197_25, u197_26, u197_27, u197_28, u197_31, u197_32, u197_35, u197_36, u197_37, u197_38, u197_41, u197_43, u197_44, u197_45, u197_48, u197_49, u197_50, u197_51, u197_54, u197_55, u197_56, u197_59, u197_61, u197_62, u197_64, u197_67, u197_68, u197_71, u197_73, u197_76, u197_77, u197_78, u197_81, u197_82, u197_83, u197_86, u197_88, u197_89, u197_92, u197_93, u197_94, u197_97, u197_99, u197_100, u197_103, u197_104, u197_105, u197_106, u197_107, u197_110, u197_112, u197_113, u197_116, u197_117, u197_118, u197_120, u197_121, u197_124, u197_126, q_push_s, q_push_n, q_sm_0, q_sm_i, q_sm_r, q_sm_n, q_sm_l, q_c1_0, q_c1_i, q_c1_r, q_c1_n, Nat.zero_add, Nat.reduceAdd, Nat.reduceMul, Nat.reduceSub, Nat.reduceLeDiff, Nat.reduceLT, Nat.reduceEqDiff, true_and, and_true, not_false_eq_true, if_true, if_false, ite_true, ite_false, or_true, true_or, or_false, false_or, not_true_eq_false, gf38_17, ia47 hu, ia47 ht, a5, b5, s2, s3, gfs1 hu, gf38_18, ia48 hu, ia48 ht, a6, a7, b7, h1, h2, h3, q2, q3, q4]; exact hK _ _ _ l
                · simp only [u97_64, u97_65, u97_68, u97_70, u97_73, u97_75, u97_78, u97_80, u97_80n, u97_82, u97_85, u97_86, u97_87, u97_90, u97_92, u97_92n, u97_94, u97_97, u97_99, u97_100, u97_103, u97_105, u197_21, u197_22, u197_25, u197_26, u197_27, u197_28, u197_31, u197_32, u197_35, u197_36, u197_37, u197_38, u197_41, u197_43, u197_44, u197_45, u197_48, u197_49, u197_50, u197_51, u197_54, u197_55, u197_56, u197_59, u197_61, u197_62, u197_64, u197_67, u197_68, u197_71, u197_73, u197_76, u197_77, u197_78, u197_81, u197_82, u197_83, u197_86, u197_88, u197_89, u197_92, u197_93, u197_94, u197_97, u197_99, u197_100, u197_103, u197_104, u197_105, u197_106, u197_107, u197_110, u197_112, u197_113, u197_116, u197_117, u197_118, u197_120, u197_121, u197_124, u197_126, q_push_s, q_push_n, q_sm_0, q_sm_i, q_sm_r, q_sm_n, q_sm_l, q_c1_0, q_c1_i, q_c1_r, q_c1_n, Nat.zero_add, Nat.reduceAdd, Nat.reduceMul, Nat.reduceSub, Nat.reduceLeDiff, Nat.reduceLT, Nat.reduceEqDiff, true_and, and_true, not_false_eq_true, if_true, if_false, ite_true, ite_false, or_true, true_or, or_false, false_or, not_true_eq_false, gf38_17, ia47 hu, ia47 ht, a5, b5, s2, s3, gfs1 hu, gf38_18, ia48 hu, ia48 ht, a6, a7, b7, h1, h2, h3, q2, q3, q4]; exact hK _ _ _ l
              · simp only [u97_64, u97_65, u97_68, u97_70, u97_73, u97_75, u97_78, u97_80, u97_80n, u97_82, u97_85, u97_86, u97_87, u97_90, u97_92, u97_92n, u97_94, u97_97, u97_99, u97_100, u97_103, u97_105, u197_21, u197_22, u197_25, u197_26, u197_27, u197_28, u197_31, u197_32, u197_35, u197_36, u197_37, u197_38, u197_41, u197_43, u197_44, u197_45, u197_48, u197_49, u197_50, u197_51, u197_54, u197_55, u197_56, u197_59, u197_61, u197_62, u197_64, u197_67, u197_68, u197_71, u197_73, u197_76, u197_77, u197_78, u197_81, u197_82, u197_83, u197_86, u197_88, u197_89, u197_92, u197_93, u197_94, u197_97, u197_99, u197_100, u197_103, u197_104, u197_105, u197_106, u197_107, u197_110, u197_112, u197_113, u197_116, u197_117, u197_118, u197_120, u197_121, u197_124, u197_126, q_push_s, q_push_n, q_sm_0, q_sm_i, q_sm_r, q_sm_n, q_sm_l, q_c1_0, q_c1_i, q_c1_r, q_c1_n, Nat.zero_add, Nat.reduceAdd, Nat.reduceMul, Nat.reduceSub, Nat.reduceLeDiff, Nat.reduceLT, Nat.reduceEqDiff, true_and, and_true, not_false_eq_true, if_true, if_false, ite_true, ite_false, or_true, true_or, or_false, false_or, not_true_eq_false, gf38_17, ia47 hu, ia47 ht, a5, b5, s2, s3, gfs1 hu, gf38_18, ia48 hu, a6, a7, h1, h2, h3, q2, q3]; exact hK _ _ _ l
        · simp only [u97_27, u97_27n, u97_29, u97_32, u97_33, u97_36, u97_36n, u97_38, u97_41, u97_42, u97_45, u97_47, u97_48, u97_48n, u97_50, u97_53, u97_53n, u97_55, u97_58, u97_61, u97_63, u197_21, u197_22, u197_25, u197_26, u197_27, u197_28, u197_31, u197_32, u197_35, u197_36, u197_37, u197_38, u197_41, u197_43, u197_44, u197_45, u197_48, u197_49, u197_50, u197_51, u197_54, u197_55, u197_56, u197_59, u197_61, q_push_s, q_push_n, q_sm_0, q_sm_i, q_sm_r, q_sm_n, q_sm_l, q_c1_0, q_c1_i, q_c1_r, q_c1_n, Nat.zero_add, Nat.reduceAdd, Nat.reduceMul, Nat.reduceSub, Nat.reduceLeDiff, Nat.reduceLT, Nat.reduceEqDiff, true_and, and_true, not_false_eq_true, if_true, if_false, ite_true, ite_false, or_true, true_or, or_false, false_or, not_true_eq_false, gfs0 hu, gfs0 ht, gf38_17, ia47 hu, ia47 ht, a4, a5, b4, b5, s1, s2, s3]
          exact hK _ _ _ l
  by_cases ha : z_is a 4
  · obtain ⟨u, hu, rfl⟩ := z_is_n ha
    have k0 := n_lt0 (j := u) (by omega)
    have k3 := n_le (i := u) (j := 3) (by omega) (by decide)
    have k3' : u ≤ 3 := by omega
    have h950 : (30 + 2 * u = 950) = False := eq_false (by omega)
    by_cases hc : z_is c 4
    · obtain ⟨t, ht, rfl⟩ := z_is_n hc
      have t0 := n_lt0 (j := t) (by omega)
      have t3 := n_le (i := t) (j := 3) (by omega) (by decide)
      have t3' : t ≤ 3 := by omega
      have t950 : (30 + 2 * t = 950) = False := eq_false (by omega)
      simp only [u97_0, u97_1, u97_2, u97_5, u97_5n, u97_7, u97_8, u97_9, u97_12, u97_12n, u97_14, u97_14n, u97_16n, u97_16, u97_19, u97_19n, u97_21n, u97_21, e97, u197_0, u197_1, u197_2, u197_3, u197_6, u197_9, u197_10, u197_11, u197_12, u197_15, e197, q_push_s, q_push_n, q_sm_0, q_sm_i, q_sm_r, q_sm_n, q_sm_l, q_c1_0, q_c1_i, q_c1_r, q_c1_n, Nat.zero_add, Nat.reduceAdd, Nat.reduceMul, Nat.reduceSub, Nat.reduceLeDiff, Nat.reduceLT, Nat.reduceEqDiff, true_and, and_true, not_false_eq_true, if_true, if_false, ite_true, ite_false, or_true, true_or, or_false, false_or, not_true_eq_false, io0, c_sheetAt hu, c_sheetAt ht, h950, t950, k0, k3, k3', t0, t3, t3', c_in, and_self, z_b_z, Nat.zero_le, Nat.reduceLeDiff]
      exact tail hu ht
    · rcases z_is_f (n := 3) (by decide) hc with q | ⟨q1, q2⟩
      · simp only [u97_0, u97_1, u97_2, u97_5, u97_5n, u97_7, u97_8, u97_9, u97_12, u97_12n, u97_14, u97_14n, u97_16n, u97_16, u97_19, u97_19n, u97_21n, u97_21, u97_24, u97_26, e97, u197_0, u197_1, u197_2, u197_3, u197_6, u197_9, u197_10, u197_11, u197_12, u197_15, u197_18, u197_20, e197, q_push_s, q_push_n, q_sm_0, q_sm_i, q_sm_r, q_sm_n, q_sm_l, q_c1_0, q_c1_i, q_c1_r, q_c1_n, Nat.zero_add, Nat.reduceAdd, Nat.reduceMul, Nat.reduceSub, Nat.reduceLeDiff, Nat.reduceLT, Nat.reduceEqDiff, true_and, and_true, not_false_eq_true, if_true, if_false, ite_true, ite_false, or_true, true_or, or_false, false_or, not_true_eq_false, io0, c_sheetAt hu, c_sheetAt0 hc, h950, k0, k3, k3', q, c_in, and_self, false_and, z_b_z, Nat.zero_le, Nat.reduceLeDiff]
        exact hK _ _ _ l
      · simp only [u97_0, u97_1, u97_2, u97_5, u97_5n, u97_7, u97_8, u97_9, u97_12, u97_12n, u97_14, u97_14n, u97_16n, u97_16, u97_19, u97_19n, u97_21n, u97_21, u97_24, u97_26, e97, u197_0, u197_1, u197_2, u197_3, u197_6, u197_9, u197_10, u197_11, u197_12, u197_15, u197_18, u197_20, e197, q_push_s, q_push_n, q_sm_0, q_sm_i, q_sm_r, q_sm_n, q_sm_l, q_c1_0, q_c1_i, q_c1_r, q_c1_n, Nat.zero_add, Nat.reduceAdd, Nat.reduceMul, Nat.reduceSub, Nat.reduceLeDiff, Nat.reduceLT, Nat.reduceEqDiff, true_and, and_true, not_false_eq_true, if_true, if_false, ite_true, ite_false, or_true, true_or, or_false, false_or, not_true_eq_false, io0, c_sheetAt hu, c_sheetAt0 hc, h950, k0, k3, k3', q1, q2, c_in, and_self, and_false, z_b_z, Nat.zero_le, Nat.reduceLeDiff]
        exact hK _ _ _ l
  · by_cases hc : z_is c 4
    · obtain ⟨t, ht, rfl⟩ := z_is_n hc
      rcases z_is_f (n := 3) (by decide) ha with q | ⟨q1, q2⟩
      · simp only [u97_0, u97_1, u97_2, u97_5, u97_5n, u97_7, u97_8, u97_9, u97_12, u97_12n, u97_14, u97_14n, u97_16n, u97_16, u97_19, u97_19n, u97_21n, u97_21, u97_24, u97_26, e97, u197_0, u197_1, u197_2, u197_3, u197_6, u197_9, u197_10, u197_11, u197_12, u197_15, u197_18, u197_20, e197, q_push_s, q_push_n, q_sm_0, q_sm_i, q_sm_r, q_sm_n, q_sm_l, q_c1_0, q_c1_i, q_c1_r, q_c1_n, Nat.zero_add, Nat.reduceAdd, Nat.reduceMul, Nat.reduceSub, Nat.reduceLeDiff, Nat.reduceLT, Nat.reduceEqDiff, true_and, and_true, not_false_eq_true, if_true, if_false, ite_true, ite_false, or_true, true_or, or_false, false_or, not_true_eq_false, io0, c_sheetAt0 ha, c_sheetAt ht, q, c_in, false_and, z_b_z, Nat.zero_le, Nat.reduceLeDiff]
        exact hK _ _ _ l
      · simp only [u97_0, u97_1, u97_2, u97_5, u97_5n, u97_7, u97_8, u97_9, u97_12, u97_12n, u97_14, u97_14n, u97_16n, u97_16, u97_19, u97_19n, u97_21n, u97_21, u97_24, u97_26, e97, u197_0, u197_1, u197_2, u197_3, u197_6, u197_9, u197_10, u197_11, u197_12, u197_15, u197_18, u197_20, e197, q_push_s, q_push_n, q_sm_0, q_sm_i, q_sm_r, q_sm_n, q_sm_l, q_c1_0, q_c1_i, q_c1_r, q_c1_n, Nat.zero_add, Nat.reduceAdd, Nat.reduceMul, Nat.reduceSub, Nat.reduceLeDiff, Nat.reduceLT, Nat.reduceEqDiff, true_and, and_true, not_false_eq_true, if_true, if_false, ite_true, ite_false, or_true, true_or, or_false, false_or, not_true_eq_false, io0, c_sheetAt0 ha, c_sheetAt ht, q1, q2, c_in, and_false, z_b_z, Nat.zero_le, Nat.reduceLeDiff]
        exact hK _ _ _ l
    · rcases z_is_f (n := 3) (by decide) ha with q | ⟨q1, q2⟩
      · simp only [u97_0, u97_1, u97_2, u97_5, u97_5n, u97_7, u97_8, u97_9, u97_12, u97_12n, u97_14, u97_14n, u97_16n, u97_16, u97_19, u97_19n, u97_21n, u97_21, u97_24, u97_26, e97, u197_0, u197_1, u197_2, u197_3, u197_6, u197_9, u197_10, u197_11, u197_12, u197_15, u197_18, u197_20, e197, q_push_s, q_push_n, q_sm_0, q_sm_i, q_sm_r, q_sm_n, q_sm_l, q_c1_0, q_c1_i, q_c1_r, q_c1_n, Nat.zero_add, Nat.reduceAdd, Nat.reduceMul, Nat.reduceSub, Nat.reduceLeDiff, Nat.reduceLT, Nat.reduceEqDiff, true_and, and_true, not_false_eq_true, if_true, if_false, ite_true, ite_false, or_true, true_or, or_false, false_or, not_true_eq_false, io0, c_sheetAt0 ha, c_sheetAt0 hc, q, c_in, false_and, z_b_z, Nat.zero_le, Nat.reduceLeDiff]
        exact hK _ _ _ l
      · simp only [u97_0, u97_1, u97_2, u97_5, u97_5n, u97_7, u97_8, u97_9, u97_12, u97_12n, u97_14, u97_14n, u97_16n, u97_16, u97_19, u97_19n, u97_21n, u97_21, u97_24, u97_26, e97, u197_0, u197_1, u197_2, u197_3, u197_6, u197_9, u197_10, u197_11, u197_12, u197_15, u197_18, u197_20, e197, q_push_s, q_push_n, q_sm_0, q_sm_i, q_sm_r, q_sm_n, q_sm_l, q_c1_0, q_c1_i, q_c1_r, q_c1_n, Nat.zero_add, Nat.reduceAdd, Nat.reduceMul, Nat.reduceSub, Nat.reduceLeDiff, Nat.reduceLT, Nat.reduceEqDiff, true_and, and_true, not_false_eq_true, if_true, if_false, ite_true, ite_false, or_true, true_or, or_false, false_or, not_true_eq_false, io0, c_sheetAt0 ha, c_sheetAt0 hc, q1, q2, c_in, and_false, z_b_z, Nat.zero_le, Nat.reduceLeDiff]
        exact hK _ _ _ l
end
