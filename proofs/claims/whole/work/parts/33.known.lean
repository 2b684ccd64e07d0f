/-! ===== on which matter one is known ===== -/
/-- the first of k from i on of which it is so, or -1 -/
def z_first (p : Nat → Bool) : Nat → Nat → Int32
  | 0, _ => (-1 : Int32)
  | k + 1, i => if p i then nI i else z_first p k (i + 1)
theorem z_first_is (p : Nat → Bool) : ∀ k i, z_first p k i = (-1 : Int32) ∨ ∃ j, i ≤ j ∧ j < i + k ∧ z_first p k i = nI j
  | 0, _ => Or.inl rfl
  | k + 1, i => by
    unfold z_first
    by_cases h : p i = true
    · rw [if_pos h]; exact Or.inr ⟨i, by omega, by omega, rfl⟩
    · rw [if_neg h]
      rcases z_first_is p k (i + 1) with q | ⟨j, h1, h2, h3⟩
      · exact Or.inl q
      · exact Or.inr ⟨j, by omega, by omega, h3⟩
def z_oth (tx : Nat → Nat → List Nat) (s : ZS) (gu o j : Nat) : Bool := decide (¬ z_do tx s gu o j = z_an (s.2.1 2 o) j)
def z_kn (tx : Nat → Nat → List Nat) (s : ZS) (gu o : Nat) : Int32 := z_first (z_oth tx s gu o) 4 0
section
variable {T : List Nat} {L : Nat} {xs : Nat → Int32} {s : ZS} {tx : Nat → Nat → List Nat} {n : Nat} {tp : Nat → Nat} {z : Nat} {h : ZH} {wd : Nat → Int32} {K : Option Value → q_G → q_M → Prop}
theorem l_knownOn {gu o : Nat} (hg : gu < s.1 0) (ho : o < s.1 0) (d : Nat) : ∀ (k i : Nat) (m : q_M), k + i = 4 → LJ T L xs s tx n tp z h wd m → (∀ m', FR m m' → LJ T L xs s tx n tp z h wd m' → K (some (.int (z_first (z_oth tx s gu o) k i))) (GG T L) m') →
    q_R 53 2 (d + 5) [some (.ref 2), some (.int (nI gu)), some (.int (nI o)), some (.int (nI i))] [] (GG T L) m K
  | 0, i, m, hi, l, hK => by
    have hi4 : i = 4 := by omega
    subst hi4
    have hlt : (nI 4 < nI 4) = False := eq_false (by decide +kernel)
    simp only [u53_2, u53_3, u53_4, u53_40, u53_41, q_push_s, q_push_n, q_sm_0, q_sm_i, q_sm_r, q_sm_n, q_sm_l, q_c1_0, q_c1_i, q_c1_r, q_c1_n, Nat.zero_add, Nat.reduceAdd, Nat.reduceMul, Nat.reduceSub, Nat.reduceLeDiff, Nat.reduceLT, Nat.reduceEqDiff, true_and, and_true, not_false_eq_true, if_true, if_false, ite_true, ite_false, or_true, true_or, or_false, false_or, not_true_eq_false, hlt]
    exact hK m (FR.refl m) l
  | k + 1, i, m, hi, l, hK => by
    have h6 := l.bz.1
    have hi4 : i < 4 := by omega
    have hb := (l.bz.2.2.2 o ho).2.2.1
    have hd := z_do_lt tx s gu o i
    have ha := z_an_lt (s.2.1 2 o) i
    rw [u53_2]
    simp only [u53_3, u53_4, u53_7, u53_8, u53_9, u53_10, u53_11, q_push_s, q_push_n, q_sm_0, q_sm_i, q_sm_r, q_sm_n, q_sm_l, q_c1_0, q_c1_i, q_c1_r, q_c1_n, Nat.zero_add, Nat.reduceAdd, Nat.reduceMul, Nat.reduceSub, Nat.reduceLeDiff, Nat.reduceLT, Nat.reduceEqDiff, true_and, and_true, not_false_eq_true, if_true, if_false, ite_true, ite_false, or_true, true_or, or_false, false_or, not_true_eq_false, n_lt (i := i) (j := 4) (by omega) (by decide), hi4, io2, Nat.zero_le, Nat.reduceLeDiff]
    refine l.doing hg ho hi4 (fun m1 f1 l1 => ?_)
    simp only [u53_14, u53_15, u53_18, u53_21, u53_22, u53_25, u53_26, u53_29, u53_32, u53_33, u53_34, u53_37, q_push_s, q_push_n, q_sm_0, q_sm_i, q_sm_r, q_sm_n, q_sm_l, q_c1_0, q_c1_i, q_c1_r, q_c1_n, Nat.zero_add, Nat.reduceAdd, Nat.reduceMul, Nat.reduceSub, Nat.reduceLeDiff, Nat.reduceLT, Nat.reduceEqDiff, true_and, and_true, not_false_eq_true, if_true, if_false, ite_true, ite_false, or_true, true_or, or_false, false_or, not_true_eq_false, gf2_0, gf3_5, Nat.zero_le, Nat.reduceLeDiff, c_at (j := o) sh6 (by decide) (by decide) (show o < 6 by omega), l1.cl.ma o ho, c_answerOf hb hi4, n_eq (i := z_do tx s gu o i) (j := z_an (s.2.1 2 o) i) (by omega) (by omega), n_add]
    by_cases hq : z_do tx s gu o i = z_an (s.2.1 2 o) i
    · rw [if_pos hq]
      refine l_knownOn hg ho d k (i + 1) m1 (by omega) l1 (fun m' f' l' => ?_)
      have := hK m' (f1.trans f') l'
      unfold z_first at this
      rw [if_neg (by unfold z_oth; simp [hq])] at this
      exact this
    · rw [if_neg hq]
      have := hK m1 f1 l1
      unfold z_first at this
      rw [if_pos (by unfold z_oth; simp [hq])] at this
      exact this
theorem LJ.knownOn {m : q_M} {d : Nat} (l : LJ T L xs s tx n tp z h wd m) {gu o : Nat} (hg : gu < s.1 0) (ho : o < s.1 0) (hK : ∀ m', FR m m' → LJ T L xs s tx n tp z h wd m' → K (some (.int (z_kn tx s gu o))) (GG T L) m') : q_C 53 (d + 5) [.ref 2, .int (nI gu), .int (nI o)] (GG T L) m K := by
  simp only [e53, u53_0, u53_1, q_push_s, q_push_n, q_sm_0, q_sm_i, q_sm_r, q_sm_n, q_sm_l, q_c1_0, q_c1_i, q_c1_r, q_c1_n, Nat.zero_add, Nat.reduceAdd, Nat.reduceMul, Nat.reduceSub, Nat.reduceLeDiff, Nat.reduceLT, Nat.reduceEqDiff, true_and, and_true, not_false_eq_true, if_true, if_false, ite_true, ite_false, or_true, true_or, or_false, false_or, not_true_eq_false]
  exact l_knownOn hg ho d 4 0 m rfl l hK
theorem l_knownOf {gu o : Nat} (hg : gu < s.1 0) (ho : o < s.1 0) (d : Nat) : ∀ (k i : Nat) (m : q_M), k + i = 4 → LJ T L xs s tx n tp z h wd m → (∀ m', FR m m' → LJ T L xs s tx n tp z h wd m' → K (some (.int (z_first (z_oth tx s gu o) k i))) (GG T L) m') →
    q_R 153 8 (d + 5) [some (.ref 38), some (.int (nI gu)), some (.int (nI o)), some (.int (nI i))] [] (GG T L) m K
  | 0, i, m, hi, l, hK => by
    have hi4 : i = 4 := by omega
    subst hi4
    have hlt : (nI 4 < nI 4) = False := eq_false (by decide +kernel)
    simp only [u153_8, u153_9, u153_10, u153_43, u153_44, q_push_s, q_push_n, q_sm_0, q_sm_i, q_sm_r, q_sm_n, q_sm_l, q_c1_0, q_c1_i, q_c1_r, q_c1_n, Nat.zero_add, Nat.reduceAdd, Nat.reduceMul, Nat.reduceSub, Nat.reduceLeDiff, Nat.reduceLT, Nat.reduceEqDiff, true_and, and_true, not_false_eq_true, if_true, if_false, ite_true, ite_false, or_true, true_or, or_false, false_or, not_true_eq_false, hlt]
    exact hK m (FR.refl m) l
  | k + 1, i, m, hi, l, hK => by
    have h6 := l.bz.1
    have hi4 : i < 4 := by omega
    have hb := (l.bz.2.2.2 o ho).2.2.1
    have hd := z_do_lt tx s gu o i
    have ha := z_an_lt (s.2.1 2 o) i
    rw [u153_8]
    simp only [u153_9, u153_10, u153_13, u153_14, u153_15, u153_16, u153_17, q_push_s, q_push_n, q_sm_0, q_sm_i, q_sm_r, q_sm_n, q_sm_l, q_c1_0, q_c1_i, q_c1_r, q_c1_n, Nat.zero_add, Nat.reduceAdd, Nat.reduceMul, Nat.reduceSub, Nat.reduceLeDiff, Nat.reduceLT, Nat.reduceEqDiff, true_and, and_true, not_false_eq_true, if_true, if_false, ite_true, ite_false, or_true, true_or, or_false, false_or, not_true_eq_false, n_lt (i := i) (j := 4) (by omega) (by decide), hi4, io38, Nat.zero_le, Nat.reduceLeDiff]
    refine l.doesAs hg ho hi4 (fun m1 f1 l1 => ?_)
    simp only [u153_20, u153_21, u153_24, u153_25, u153_26, u153_27, u153_28, u153_29, u153_32, u153_35, u153_36, u153_37, u153_40, q_push_s, q_push_n, q_sm_0, q_sm_i, q_sm_r, q_sm_n, q_sm_l, q_c1_0, q_c1_i, q_c1_r, q_c1_n, Nat.zero_add, Nat.reduceAdd, Nat.reduceMul, Nat.reduceSub, Nat.reduceLeDiff, Nat.reduceLT, Nat.reduceEqDiff, true_and, and_true, not_false_eq_true, if_true, if_false, ite_true, ite_false, or_true, true_or, or_false, false_or, not_true_eq_false, gf38_3, n_mul, Nat.zero_le, Nat.reduceLeDiff, ia41 (i := 3 * o) (by omega), l1.mo.ma o ho, c_answer hb hi4, n_eq (i := z_do tx s gu o i) (j := z_an (s.2.1 2 o) i) (by omega) (by omega), n_add]
    by_cases hq : z_do tx s gu o i = z_an (s.2.1 2 o) i
    · rw [if_pos hq]
      refine l_knownOf hg ho d k (i + 1) m1 (by omega) l1 (fun m' f' l' => ?_)
      have := hK m' (f1.trans f') l'
      unfold z_first at this
      rw [if_neg (by unfold z_oth; simp [hq])] at this
      exact this
    · rw [if_neg hq]
      have := hK m1 f1 l1
      unfold z_first at this
      rw [if_pos (by unfold z_oth; simp [hq])] at this
      exact this
theorem LJ.knownOf {m : q_M} {d : Nat} (l : LJ T L xs s tx n tp z h wd m) {gu : Nat} (hg : gu < s.1 0) (hK : ∀ m', FR m m' → LJ T L xs s tx n tp z h wd m' → K (some (.int (z_kn tx s gu (s.2.1 3 gu)))) (GG T L) m') : q_C 153 (d + 5) [.ref 38, .int (nI gu)] (GG T L) m K := by
  have h6 := l.bz.1
  simp only [e153, u153_0, u153_1, u153_2, u153_5, u153_6, u153_7, e150, u150_0, u150_1, u150_4, u150_5, u150_6, u150_7, u150_8, u150_9, u150_10, q_push_s, q_push_n, q_sm_0, q_sm_i, q_sm_r, q_sm_n, q_sm_l, q_c1_0, q_c1_i, q_c1_r, q_c1_n, Nat.zero_add, Nat.reduceAdd, Nat.reduceMul, Nat.reduceSub, Nat.reduceLeDiff, Nat.reduceLT, Nat.reduceEqDiff, true_and, and_true, not_false_eq_true, if_true, if_false, ite_true, ite_false, or_true, true_or, or_false, false_or, not_true_eq_false, io38, gf38_3, n_mul, n_add, ia41 (i := 3 * gu + 1) (by omega), l.mo.pl gu hg, Nat.zero_le]
  exact l_knownOf hg (l.bz.2.2.2 gu hg).2.2.2.1 d 4 0 m rfl l hK
end
