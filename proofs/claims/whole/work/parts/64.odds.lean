/-! ===== odds ===== -/
def z_low (a b p : Nat) : Nat := (if p = 0 then a else b) / Nat.gcd b a
section
variable {T : List Nat} {L : Nat} {s : ZS} {tx : Nat → Nat → List Nat} {n : Nat} {h : ZH} {m : q_M} {g : q_G} {K : Option Value → q_G → q_M → Prop}
theorem l_low7 (x0 x1 x2 : Option Value) (hx2 : q_c1 x2 = true) (d : Nat) : ∀ k f i a b x6, q_c1 x6 = true → i + f = 64 → 2 * k ≤ f → b < 2 ^ k → a < 1000 → b < 1000 → (∀ x5 x6, q_c1 x6 = true → q_R 110 39 d [x0, x1, x2, some (.int (nI (Nat.gcd a b))), some (.int (nI 0)), some (.int x5), x6] [] g m K) →
    q_R 110 8 d [x0, x1, x2, some (.int (nI a)), some (.int (nI b)), some (.int (nI i)), x6] [] g m K := by
  have step : ∀ f i a b x6, q_c1 x6 = true → i + (f + 1) = 64 → 0 < b → a < 1000 → b < 1000 → (∀ x6, q_c1 x6 = true → q_R 110 8 d [x0, x1, x2, some (.int (nI b)), some (.int (nI (a % b))), some (.int (nI (i + 1))), x6] [] g m K) → q_R 110 8 d [x0, x1, x2, some (.int (nI a)), some (.int (nI b)), some (.int (nI i)), x6] [] g m K := by
    intro f i a b x6 h6 hi hb ha hb2 hK
    have e0 := n_eq (i := b) (j := 0) (by omega) (by decide)
    have e1 : ¬ b = 0 := by omega
    have e2 : (nI b = 0) = False := n_ne0 (by omega) hb
    have hr := Nat.mod_lt a hb
    have hdv := n_div (a := a) (d := b) (by omega) hb (by omega)
    have hrm := n_rem (a := a) (d := b) (by omega) hb (by omega)
    rw [u110_8]
    simp only [u110_10, u110_12, u110_15, u110_17, u110_20, u110_21, u110_23, u110_24, u110_26, u110_28, u110_29, u110_31, u110_33, u110_36, q_push_s, q_push_n, q_sm_0, q_sm_i, q_sm_r, q_sm_n, q_sm_l, q_c1_0, q_c1_i, q_c1_r, q_c1_n, Nat.zero_add, Nat.reduceAdd, Nat.reduceMul, Nat.reduceSub, Nat.reduceLeDiff, Nat.reduceLT, Nat.reduceEqDiff, true_and, and_true, not_false_eq_true, if_true, if_false, ite_true, ite_false, or_true, true_or, or_false, false_or, not_true_eq_false, n_lt (i := i) (j := 64) (by omega) (by decide), (show i < 64 by omega), e0, e1, e2, hdv, hrm, hx2, n_add]
    exact hK _ (of_eq_true (q_c1_i _))
  have stop : ∀ i a x6, q_c1 x6 = true → i ≤ 64 → (∀ x5 x6, q_c1 x6 = true → q_R 110 39 d [x0, x1, x2, some (.int (nI a)), some (.int (nI 0)), some (.int x5), x6] [] g m K) → q_R 110 8 d [x0, x1, x2, some (.int (nI a)), some (.int (nI 0)), some (.int (nI i)), x6] [] g m K := by
    intro i a x6 h6 hi hK
    rw [u110_8]
    by_cases q : i < 64
    · simp only [u110_10, u110_12, u110_15, u110_17, q_push_s, q_push_n, q_sm_0, q_sm_i, q_sm_r, q_sm_n, q_sm_l, q_c1_0, q_c1_i, q_c1_r, q_c1_n, Nat.zero_add, Nat.reduceAdd, Nat.reduceMul, Nat.reduceSub, Nat.reduceLeDiff, Nat.reduceLT, Nat.reduceEqDiff, true_and, and_true, not_false_eq_true, if_true, if_false, ite_true, ite_false, or_true, true_or, or_false, false_or, not_true_eq_false, n_lt (i := i) (j := 64) (by omega) (by decide), q]
      exact hK _ _ h6
    · simp only [u110_10, u110_12, u110_15, u110_17, q_push_s, q_push_n, q_sm_0, q_sm_i, q_sm_r, q_sm_n, q_sm_l, q_c1_0, q_c1_i, q_c1_r, q_c1_n, Nat.zero_add, Nat.reduceAdd, Nat.reduceMul, Nat.reduceSub, Nat.reduceLeDiff, Nat.reduceLT, Nat.reduceEqDiff, true_and, and_true, not_false_eq_true, if_true, if_false, ite_true, ite_false, or_true, true_or, or_false, false_or, not_true_eq_false, n_lt (i := i) (j := 64) (by omega) (by decide), q]
      exact hK _ _ h6
  intro k
  induction k with
  | zero =>
    intro f i a b x6 h6 hi hk hb ha hb2 hK
    have e : b = 0 := by omega
    subst e
    rw [Nat.gcd_zero_right] at hK
    exact stop i a x6 h6 (by omega) hK
  | succ k ih =>
    intro f i a b x6 h6 hi hk hb ha hb2 hK
    by_cases q : b = 0
    · subst q
      rw [Nat.gcd_zero_right] at hK
      exact stop i a x6 h6 (by omega) hK
    · have hb0 : 0 < b := by omega
      have hr := Nat.mod_lt a hb0
      have hg1 : Nat.gcd a b = Nat.gcd b (a % b) := by rw [Nat.gcd_comm a b, Nat.gcd_rec b a, Nat.gcd_comm]
      refine step (f - 1) i a b x6 h6 (by omega) hb0 ha hb2 (fun x6 h6 => ?_)
      by_cases q2 : a % b = 0
      · rw [hg1, q2, Nat.gcd_zero_right] at hK
        rw [q2]
        exact stop (i + 1) b x6 h6 (by omega) hK
      · have hr0 : 0 < a % b := by omega
        have hr2 := Nat.mod_lt b hr0
        have hg2 : Nat.gcd b (a % b) = Nat.gcd (a % b) (b % (a % b)) := by rw [Nat.gcd_comm b (a % b), Nat.gcd_rec (a % b) b, Nat.gcd_comm]
        refine step (f - 2) (i + 1) b (a % b) x6 h6 (by omega) hr0 hb2 (by omega) (fun x6 h6 => ?_)
        rw [hg1, hg2] at hK
        have hhalf : 2 * (b % (a % b)) < b := by
          have hdm := Nat.div_add_mod b (a % b)
          have hq : 1 ≤ b / (a % b) := Nat.div_pos (by omega) hr0
          have hm : a % b ≤ (a % b) * (b / (a % b)) := Nat.le_mul_of_pos_right _ (by omega)
          omega
        have h2k : 2 ^ (k + 1) = 2 * 2 ^ k := by rw [Nat.pow_succ]; omega
        exact ih (f - 2) (i + 1 + 1) (a % b) (b % (a % b)) x6 h6 (by omega) (by omega) (by omega) (by omega) (by omega) hK
theorem c_low7 {d a b p : Nat} (ha : a < 1000) (hb : b < 1000) (hb0 : 0 < b) (hp : p < 2) (hK : K (some (.long (lN (z_low a b p)))) g m) : q_C 110 d [.int (nI a), .int (nI b), .int (nI p)] g m K := by
  simp only [e110, u110_0, u110_1, u110_2, u110_3, u110_5, u110_6, q_push_s, q_push_n, q_sm_0, q_sm_i, q_sm_r, q_sm_n, q_sm_l, q_c1_0, q_c1_i, q_c1_r, q_c1_n, Nat.zero_add, Nat.reduceAdd, Nat.reduceMul, Nat.reduceSub, Nat.reduceLeDiff, Nat.reduceLT, Nat.reduceEqDiff, true_and, and_true, not_false_eq_true, if_true, if_false, ite_true, ite_false, or_true, true_or, or_false, false_or, not_true_eq_false]
  refine l_low7 _ _ _ (of_eq_true (q_c1_i _)) d 10 64 0 b a _ (of_eq_true q_c1_0) rfl (by decide) (by omega) hb ha (fun x5 x6 h6 => ?_)
  have hg0 : 0 < Nat.gcd b a := Nat.gcd_pos_of_pos_left a hb0
  have hgb : Nat.gcd b a ≤ b := Nat.gcd_le_left a hb0
  have e1 := n_eq (i := Nat.gcd b a) (j := 0) (by omega) (by decide)
  have e2 : ¬ Nat.gcd b a = 0 := by omega
  have e3 : (nI (Nat.gcd b a) = 0) = False := n_ne0 (by omega) hg0
  have hp' : p = 0 ∨ p = 1 := by omega
  unfold z_low at hK
  rcases hp' with rfl | rfl
  · rw [if_pos rfl] at hK
    have hdl : a / Nat.gcd b a ≤ a := Nat.div_le_self _ _
    simp only [u110_39, u110_40, u110_43, u110_44, u110_47, u110_48, u110_50, u110_51, u110_54, u110_56, u110_57, u110_60, u110_62, u110_63, u110_64, u110_65, q_push_s, q_push_n, q_sm_0, q_sm_i, q_sm_r, q_sm_n, q_sm_l, q_c1_0, q_c1_i, q_c1_r, q_c1_n, Nat.zero_add, Nat.reduceAdd, Nat.reduceMul, Nat.reduceSub, Nat.reduceLeDiff, Nat.reduceLT, Nat.reduceEqDiff, true_and, and_true, not_false_eq_true, if_true, if_false, ite_true, ite_false, or_true, true_or, or_false, false_or, not_true_eq_false, eq_self, lq_0_1, lq_0_2, lq_0_3, lq_0_4, lq_0_5, lq_0_6, lq_1_0, lq_1_2, lq_1_3, lq_1_4, lq_1_5, lq_1_6, lq_2_0, lq_2_1, lq_2_3, lq_2_4, lq_2_5, lq_2_6, lq_3_0, lq_3_1, lq_3_2, lq_3_4, lq_3_5, lq_3_6, lq_4_0, lq_4_1, lq_4_2, lq_4_3, lq_4_5, lq_4_6, lq_5_0, lq_5_1, lq_5_2, lq_5_3, lq_5_4, lq_5_6, lq_6_0, lq_6_1, lq_6_2, lq_6_3, lq_6_4, lq_6_5, ll_0_0, ll_0_1, ll_0_2, ll_0_3, ll_0_4, ll_0_5, ll_0_6, ll_1_0, ll_1_1, ll_1_2, ll_1_3, ll_1_4, ll_1_5, ll_1_6, ll_2_0, ll_2_1, ll_2_2, ll_2_3, ll_2_4, ll_2_5, ll_2_6, ll_3_0, ll_3_1, ll_3_2, ll_3_3, ll_3_4, ll_3_5, ll_3_6, ll_4_0, ll_4_1, ll_4_2, ll_4_3, ll_4_4, ll_4_5, ll_4_6, ll_5_0, ll_5_1, ll_5_2, ll_5_3, ll_5_4, ll_5_5, ll_5_6, ll_6_0, ll_6_1, ll_6_2, ll_6_3, ll_6_4, ll_6_5, ll_6_6, le_0_0, le_0_1, le_0_2, le_0_3, le_0_4, le_0_5, le_0_6, le_1_0, le_1_1, le_1_2, le_1_3, le_1_4, le_1_5, le_1_6, le_2_0, le_2_1, le_2_2, le_2_3, le_2_4, le_2_5, le_2_6, le_3_0, le_3_1, le_3_2, le_3_3, le_3_4, le_3_5, le_3_6, le_4_0, le_4_1, le_4_2, le_4_3, le_4_4, le_4_5, le_4_6, le_5_0, le_5_1, le_5_2, le_5_3, le_5_4, le_5_5, le_5_6, le_6_0, le_6_1, le_6_2, le_6_3, le_6_4, le_6_5, le_6_6, e1, e2, e3, n_div (a := a) (d := Nat.gcd b a) (by omega) hg0 (by omega), nI_l (n := a / Nat.gcd b a) (by omega)]
    exact hK
  · rw [if_neg (by decide)] at hK
    have hdl : b / Nat.gcd b a ≤ b := Nat.div_le_self _ _
    simp only [u110_39, u110_40, u110_43, u110_44, u110_47, u110_48, u110_50, u110_51, u110_54, u110_56, u110_57, u110_60, u110_62, u110_63, u110_64, u110_65, q_push_s, q_push_n, q_sm_0, q_sm_i, q_sm_r, q_sm_n, q_sm_l, q_c1_0, q_c1_i, q_c1_r, q_c1_n, Nat.zero_add, Nat.reduceAdd, Nat.reduceMul, Nat.reduceSub, Nat.reduceLeDiff, Nat.reduceLT, Nat.reduceEqDiff, true_and, and_true, not_false_eq_true, if_true, if_false, ite_true, ite_false, or_true, true_or, or_false, false_or, not_true_eq_false, eq_self, lq_0_1, lq_0_2, lq_0_3, lq_0_4, lq_0_5, lq_0_6, lq_1_0, lq_1_2, lq_1_3, lq_1_4, lq_1_5, lq_1_6, lq_2_0, lq_2_1, lq_2_3, lq_2_4, lq_2_5, lq_2_6, lq_3_0, lq_3_1, lq_3_2, lq_3_4, lq_3_5, lq_3_6, lq_4_0, lq_4_1, lq_4_2, lq_4_3, lq_4_5, lq_4_6, lq_5_0, lq_5_1, lq_5_2, lq_5_3, lq_5_4, lq_5_6, lq_6_0, lq_6_1, lq_6_2, lq_6_3, lq_6_4, lq_6_5, ll_0_0, ll_0_1, ll_0_2, ll_0_3, ll_0_4, ll_0_5, ll_0_6, ll_1_0, ll_1_1, ll_1_2, ll_1_3, ll_1_4, ll_1_5, ll_1_6, ll_2_0, ll_2_1, ll_2_2, ll_2_3, ll_2_4, ll_2_5, ll_2_6, ll_3_0, ll_3_1, ll_3_2, ll_3_3, ll_3_4, ll_3_5, ll_3_6, ll_4_0, ll_4_1, ll_4_2, ll_4_3, ll_4_4, ll_4_5, ll_4_6, ll_5_0, ll_5_1, ll_5_2, ll_5_3, ll_5_4, ll_5_5, ll_5_6, ll_6_0, ll_6_1, ll_6_2, ll_6_3, ll_6_4, ll_6_5, ll_6_6, le_0_0, le_0_1, le_0_2, le_0_3, le_0_4, le_0_5, le_0_6, le_1_0, le_1_1, le_1_2, le_1_3, le_1_4, le_1_5, le_1_6, le_2_0, le_2_1, le_2_2, le_2_3, le_2_4, le_2_5, le_2_6, le_3_0, le_3_1, le_3_2, le_3_3, le_3_4, le_3_5, le_3_6, le_4_0, le_4_1, le_4_2, le_4_3, le_4_4, le_4_5, le_4_6, le_5_0, le_5_1, le_5_2, le_5_3, le_5_4, le_5_5, le_5_6, le_6_0, le_6_1, le_6_2, le_6_3, le_6_4, le_6_5, le_6_6, e1, e2, e3, n_div (a := b) (d := Nat.gcd b a) (by omega) hg0 (by omega), nI_l (n := b / Nat.gcd b a) (by omega)]
    exact hK
theorem lg_e {a b : Nat} (ha : a < 2 ^ 63) (hb : b < 2 ^ 63) : (lg_cmp (lN a) (lN b) = nI 0) = (a = b) := by
  rw [nI_0]
  exact propext ((lg_cmp_eq (lN a) (lN b)).trans (pk_lEQ ha hb))
theorem l_low8 (x0 x2 x4 : Option Value) (hx4 : q_c1 x4 = true) (d : Nat) : ∀ f a b x9 x10, b < f → a < 1000 → b < 1000 → q_c1 x10 = true → (∀ x7 x9 x10, q_R 190 41 d [x0, none, x2, none, x4, some (.long (lN (Nat.gcd a b))), none, x7, none, x9, x10] [] g m K) →
    q_R 190 16 d [x0, none, x2, none, x4, some (.long (lN a)), none, some (.long (lN b)), none, x9, x10] [] g m K
  | 0, a, b, x9, x10, hf, ha, hb, h10, hK => absurd hf (Nat.not_lt_zero b)
  | f + 1, a, b, x9, x10, hf, ha, hb, h10, hK => by
    rw [u190_16]
    by_cases q : b = 0
    · subst q
      rw [Nat.gcd_zero_right] at hK
      simp only [u190_18, u190_19, u190_20, q_push_s, q_push_n, q_sm_0, q_sm_i, q_sm_r, q_sm_n, q_sm_l, q_c1_0, q_c1_i, q_c1_r, q_c1_n, Nat.zero_add, Nat.reduceAdd, Nat.reduceMul, Nat.reduceSub, Nat.reduceLeDiff, Nat.reduceLT, Nat.reduceEqDiff, true_and, and_true, not_false_eq_true, if_true, if_false, ite_true, ite_false, or_true, true_or, or_false, false_or, not_true_eq_false, lg_e (a := 0) (b := 0) (by decide) (by decide)]
      exact hK _ _ _
    · have hb0 : 0 < b := by omega
      have hr := Nat.mod_lt a hb0
      have hg1 : Nat.gcd a b = Nat.gcd b (a % b) := by rw [Nat.gcd_comm a b, Nat.gcd_rec b a, Nat.gcd_comm]
      rw [hg1] at hK
      simp only [u190_18, u190_19, u190_20, u190_23, u190_25, u190_27, u190_28, u190_30, u190_32, u190_34, u190_36, u190_38, q_push_s, q_push_n, q_sm_0, q_sm_i, q_sm_r, q_sm_n, q_sm_l, q_c1_0, q_c1_i, q_c1_r, q_c1_n, Nat.zero_add, Nat.reduceAdd, Nat.reduceMul, Nat.reduceSub, Nat.reduceLeDiff, Nat.reduceLT, Nat.reduceEqDiff, true_and, and_true, not_false_eq_true, if_true, if_false, ite_true, ite_false, or_true, true_or, or_false, false_or, not_true_eq_false, lg_e (a := b) (b := 0) (by omega) (by decide), q, n_l0 hb0 (by omega), pk_lDiv (a := a) (b := b) (by omega) hb0 (by omega), n_lrem (a := a) (b := b) (by omega) hb0 (by omega), hx4]
      exact l_low8 x0 x2 x4 hx4 d f b (a % b) _ _ (by omega) hb (by omega) (of_eq_true q_c1_0) hK
theorem c_low8 {d a b p : Nat} (ha : a < 1000) (hb : b < 1000) (hb0 : 0 < b) (hp : p < 2) (hK : K (some (.long (lN (z_low a b p)))) g m) : q_C 190 d [.long (lN a), .long (lN b), .int (nI p)] g m K := by
  have hp' : p = 0 ∨ p = 1 := by omega
  unfold z_low at hK
  by_cases q : a = 0
  · subst q
    rw [Nat.gcd_zero_right] at hK
    simp only [e190, u190_0, u190_1, u190_2, u190_3, u190_6, u190_8, u190_9, q_push_s, q_push_n, q_sm_0, q_sm_i, q_sm_r, q_sm_n, q_sm_l, q_c1_0, q_c1_i, q_c1_r, q_c1_n, Nat.zero_add, Nat.reduceAdd, Nat.reduceMul, Nat.reduceSub, Nat.reduceLeDiff, Nat.reduceLT, Nat.reduceEqDiff, true_and, and_true, not_false_eq_true, if_true, if_false, ite_true, ite_false, or_true, true_or, or_false, false_or, not_true_eq_false, lg_e (a := 0) (b := 0) (by decide) (by decide), nI_l (n := p) (by omega)]
    rcases hp' with rfl | rfl
    · rw [if_pos rfl, Nat.zero_div] at hK; exact hK
    · rw [if_neg (by decide), Nat.div_self hb0] at hK; exact hK
  · simp only [e190, u190_0, u190_1, u190_2, u190_3, u190_6, u190_8, u190_9, u190_10, u190_11, u190_13, u190_14, q_push_s, q_push_n, q_sm_0, q_sm_i, q_sm_r, q_sm_n, q_sm_l, q_c1_0, q_c1_i, q_c1_r, q_c1_n, Nat.zero_add, Nat.reduceAdd, Nat.reduceMul, Nat.reduceSub, Nat.reduceLeDiff, Nat.reduceLT, Nat.reduceEqDiff, true_and, and_true, not_false_eq_true, if_true, if_false, ite_true, ite_false, or_true, true_or, or_false, false_or, not_true_eq_false, lg_e (a := a) (b := 0) (by omega) (by decide), q]
    refine l_low8 _ _ _ (of_eq_true (q_c1_i _)) d (b + 1) a b _ _ (by omega) ha hb (of_eq_true q_c1_0) (fun x7 x9 x10 => ?_)
    rw [Nat.gcd_comm] at hK
    have hg0 : 0 < Nat.gcd a b := Nat.gcd_pos_of_pos_right a hb0
    have hgb : Nat.gcd a b ≤ b := Nat.gcd_le_right a hb0
    rcases hp' with rfl | rfl
    · rw [if_pos rfl] at hK
      simp only [u190_41, u190_43, u190_46, u190_47, u190_50, u190_51, u190_53, u190_54, q_push_s, q_push_n, q_sm_0, q_sm_i, q_sm_r, q_sm_n, q_sm_l, q_c1_0, q_c1_i, q_c1_r, q_c1_n, Nat.zero_add, Nat.reduceAdd, Nat.reduceMul, Nat.reduceSub, Nat.reduceLeDiff, Nat.reduceLT, Nat.reduceEqDiff, true_and, and_true, not_false_eq_true, if_true, if_false, ite_true, ite_false, or_true, true_or, or_false, false_or, not_true_eq_false, eq_self, lq_0_1, lq_0_2, lq_0_3, lq_0_4, lq_0_5, lq_0_6, lq_1_0, lq_1_2, lq_1_3, lq_1_4, lq_1_5, lq_1_6, lq_2_0, lq_2_1, lq_2_3, lq_2_4, lq_2_5, lq_2_6, lq_3_0, lq_3_1, lq_3_2, lq_3_4, lq_3_5, lq_3_6, lq_4_0, lq_4_1, lq_4_2, lq_4_3, lq_4_5, lq_4_6, lq_5_0, lq_5_1, lq_5_2, lq_5_3, lq_5_4, lq_5_6, lq_6_0, lq_6_1, lq_6_2, lq_6_3, lq_6_4, lq_6_5, ll_0_0, ll_0_1, ll_0_2, ll_0_3, ll_0_4, ll_0_5, ll_0_6, ll_1_0, ll_1_1, ll_1_2, ll_1_3, ll_1_4, ll_1_5, ll_1_6, ll_2_0, ll_2_1, ll_2_2, ll_2_3, ll_2_4, ll_2_5, ll_2_6, ll_3_0, ll_3_1, ll_3_2, ll_3_3, ll_3_4, ll_3_5, ll_3_6, ll_4_0, ll_4_1, ll_4_2, ll_4_3, ll_4_4, ll_4_5, ll_4_6, ll_5_0, ll_5_1, ll_5_2, ll_5_3, ll_5_4, ll_5_5, ll_5_6, ll_6_0, ll_6_1, ll_6_2, ll_6_3, ll_6_4, ll_6_5, ll_6_6, le_0_0, le_0_1, le_0_2, le_0_3, le_0_4, le_0_5, le_0_6, le_1_0, le_1_1, le_1_2, le_1_3, le_1_4, le_1_5, le_1_6, le_2_0, le_2_1, le_2_2, le_2_3, le_2_4, le_2_5, le_2_6, le_3_0, le_3_1, le_3_2, le_3_3, le_3_4, le_3_5, le_3_6, le_4_0, le_4_1, le_4_2, le_4_3, le_4_4, le_4_5, le_4_6, le_5_0, le_5_1, le_5_2, le_5_3, le_5_4, le_5_5, le_5_6, le_6_0, le_6_1, le_6_2, le_6_3, le_6_4, le_6_5, le_6_6, n_l0 hg0 (by omega), pk_lDiv (a := a) (b := Nat.gcd a b) (by omega) hg0 (by omega)]
      exact hK
    · rw [if_neg (by decide)] at hK
      simp only [u190_41, u190_43, u190_46, u190_47, u190_50, u190_51, u190_53, u190_54, q_push_s, q_push_n, q_sm_0, q_sm_i, q_sm_r, q_sm_n, q_sm_l, q_c1_0, q_c1_i, q_c1_r, q_c1_n, Nat.zero_add, Nat.reduceAdd, Nat.reduceMul, Nat.reduceSub, Nat.reduceLeDiff, Nat.reduceLT, Nat.reduceEqDiff, true_and, and_true, not_false_eq_true, if_true, if_false, ite_true, ite_false, or_true, true_or, or_false, false_or, not_true_eq_false, eq_self, lq_0_1, lq_0_2, lq_0_3, lq_0_4, lq_0_5, lq_0_6, lq_1_0, lq_1_2, lq_1_3, lq_1_4, lq_1_5, lq_1_6, lq_2_0, lq_2_1, lq_2_3, lq_2_4, lq_2_5, lq_2_6, lq_3_0, lq_3_1, lq_3_2, lq_3_4, lq_3_5, lq_3_6, lq_4_0, lq_4_1, lq_4_2, lq_4_3, lq_4_5, lq_4_6, lq_5_0, lq_5_1, lq_5_2, lq_5_3, lq_5_4, lq_5_6, lq_6_0, lq_6_1, lq_6_2, lq_6_3, lq_6_4, lq_6_5, ll_0_0, ll_0_1, ll_0_2, ll_0_3, ll_0_4, ll_0_5, ll_0_6, ll_1_0, ll_1_1, ll_1_2, ll_1_3, ll_1_4, ll_1_5, ll_1_6, ll_2_0, ll_2_1, ll_2_2, ll_2_3, ll_2_4, ll_2_5, ll_2_6, ll_3_0, ll_3_1, ll_3_2, ll_3_3, ll_3_4, ll_3_5, ll_3_6, ll_4_0, ll_4_1, ll_4_2, ll_4_3, ll_4_4, ll_4_5, ll_4_6, ll_5_0, ll_5_1, ll_5_2, ll_5_3, ll_5_4, ll_5_5, ll_5_6, ll_6_0, ll_6_1, ll_6_2, ll_6_3, ll_6_4, ll_6_5, ll_6_6, le_0_0, le_0_1, le_0_2, le_0_3, le_0_4, le_0_5, le_0_6, le_1_0, le_1_1, le_1_2, le_1_3, le_1_4, le_1_5, le_1_6, le_2_0, le_2_1, le_2_2, le_2_3, le_2_4, le_2_5, le_2_6, le_3_0, le_3_1, le_3_2, le_3_3, le_3_4, le_3_5, le_3_6, le_4_0, le_4_1, le_4_2, le_4_3, le_4_4, le_4_5, le_4_6, le_5_0, le_5_1, le_5_2, le_5_3, le_5_4, le_5_5, le_5_6, le_6_0, le_6_1, le_6_2, le_6_3, le_6_4, le_6_5, le_6_6, n_l0 hg0 (by omega), pk_lDiv (a := b) (b := Nat.gcd a b) (by omega) hg0 (by omega)]
      exact hK
def z_no (n seed i : Nat) : Bool := decide (z_bs (z_slf (z_draw n (seed + i))) n = 0)
theorem z_noT {n seed i : Nat} : z_no n seed i = true ↔ z_bs (z_slf (z_draw n (seed + i))) n = 0 := decide_eq_true_iff
theorem l_odds {seed w p : Nat} (hs : seed < 100000) (hw : w < 100) (d : Nat) : ∀ c i a m, i + c = w → CJ T L s tx n h m → (∀ m', (∀ p, p ≠ 18 → m' p = m p) → q_R 91 73 (d + 2) [some (.ref 0), some (.int (nI seed)), some (.int (nI w)), some (.int (nI p)), some (.int (nI (a + z_cn (z_no (s.1 0) seed) c i))), some (.int (nI w))] [] (GG T L) m' K) →
    q_R 91 37 (d + 2) [some (.ref 0), some (.int (nI seed)), some (.int (nI w)), some (.int (nI p)), some (.int (nI a)), some (.int (nI i))] [] (GG T L) m K
  | 0, i, a, m, hi, l, hK => by
    have e : i = w := by omega
    subst e
    simp only [u91_37, u91_39, u91_40, q_push_s, q_push_n, q_sm_0, q_sm_i, q_sm_r, q_sm_n, q_sm_l, q_c1_0, q_c1_i, q_c1_r, q_c1_n, Nat.zero_add, Nat.reduceAdd, Nat.reduceMul, Nat.reduceSub, Nat.reduceLeDiff, Nat.reduceLT, Nat.reduceEqDiff, true_and, and_true, not_false_eq_true, if_true, if_false, ite_true, ite_false, or_true, true_or, or_false, false_or, not_true_eq_false, n_lt (i := i) (j := i) (by omega) (by omega), Nat.lt_irrefl]
    exact hK m (fun _ _ => rfl)
  | c + 1, i, a, m, hi, l, hK => by
    have h6 := l.bz.1
    have e : i < w := by omega
    have hdl := z_draw_lt (n := s.1 0) (seed := seed + i)
    have hb64 : z_bs (z_slf (z_draw (s.1 0) (seed + i))) (s.1 0) < 64 := Nat.lt_of_lt_of_le (z_bs_lt _ _) (Nat.pow_le_pow_right (by decide) (show s.1 0 ≤ 6 from h6))
    rw [u91_37]
    simp only [u91_39, u91_40, u91_43, u91_44, u91_47, u91_48, u91_50, u91_51, q_push_s, q_push_n, q_sm_0, q_sm_i, q_sm_r, q_sm_n, q_sm_l, q_c1_0, q_c1_i, q_c1_r, q_c1_n, Nat.zero_add, Nat.reduceAdd, Nat.reduceMul, Nat.reduceSub, Nat.reduceLeDiff, Nat.reduceLT, Nat.reduceEqDiff, true_and, and_true, not_false_eq_true, if_true, if_false, ite_true, ite_false, or_true, true_or, or_false, false_or, not_true_eq_false, n_lt (i := i) (j := w) (by omega) (by omega), e, gf0_0, io1, n_add, Nat.zero_le, Nat.reduceLeDiff]
    refine l.byLots (d := d) (by omega) (fun m1 f1 g1 => ?_)
    have l1 : CJ T L s tx n h m1 := by
      obtain ⟨a, b, c, e, g, i, j⟩ := l
      exact ⟨a, b, c.fr (fun k h1 h2 => f1 k (by omega)), e.fr a.2.2.2 (fun k hk => f1 k (by omega)), g.fr (f1 901 (by decide)), i.fr (fun k h1 h2 => f1 k (by omega)), by rw [f1 2 (by decide)]; exact j⟩
    simp only [u91_54, u91_55, u91_58, u91_61, u91_64, u91_67, u91_70, q_push_s, q_push_n, q_sm_0, q_sm_i, q_sm_r, q_sm_n, q_sm_l, q_c1_0, q_c1_i, q_c1_r, q_c1_n, Nat.zero_add, Nat.reduceAdd, Nat.reduceMul, Nat.reduceSub, Nat.reduceLeDiff, Nat.reduceLT, Nat.reduceEqDiff, true_and, and_true, not_false_eq_true, if_true, if_false, ite_true, ite_false, or_true, true_or, or_false, false_or, not_true_eq_false, gf0_0, io1, c_selves h6 l1.cl.n g1 hdl, n_eq (i := z_bs (z_slf (z_draw (s.1 0) (seed + i))) (s.1 0)) (j := 0) (by omega) (by decide), n_add, Nat.zero_le, Nat.reduceLeDiff]
    unfold z_cn at hK
    by_cases q : z_bs (z_slf (z_draw (s.1 0) (seed + i))) (s.1 0) = 0
    · rw [if_pos q]
      rw [if_pos (z_noT.mpr q), ← Nat.add_assoc] at hK
      exact l_odds hs hw d c (i + 1) (a + 1) m1 (by omega) l1 (fun m' f' => hK m' (fun p hp => (f' p hp).trans (f1 p hp)))
    · rw [if_neg q]
      rw [if_neg (fun e => q (z_noT.mp e)), Nat.zero_add] at hK
      exact l_odds hs hw d c (i + 1) a m1 (by omega) l1 (fun m' f' => hK m' (fun p hp => (f' p hp).trans (f1 p hp)))
theorem l_odds8 {seed w p : Nat} (hs : seed < 100000) (hw : w < 100) (d : Nat) : ∀ c i a m, i + c = w → RJ s tx n h m → (∀ m', (∀ p, p ≠ 56 → m' p = m p) → q_R 191 76 (d + 2) [some (.ref 38), some (.int (nI seed)), some (.int (nI w)), some (.int (nI p)), some (.long (lN (a + z_cn (z_no (s.1 0) seed) c i))), none, some (.int (nI w))] [] (GG T L) m' K) →
    q_R 191 39 (d + 2) [some (.ref 38), some (.int (nI seed)), some (.int (nI w)), some (.int (nI p)), some (.long (lN a)), none, some (.int (nI i))] [] (GG T L) m K
  | 0, i, a, m, hi, l, hK => by
    have e : i = w := by omega
    subst e
    simp only [u191_39, u191_41, u191_42, q_push_s, q_push_n, q_sm_0, q_sm_i, q_sm_r, q_sm_n, q_sm_l, q_c1_0, q_c1_i, q_c1_r, q_c1_n, Nat.zero_add, Nat.reduceAdd, Nat.reduceMul, Nat.reduceSub, Nat.reduceLeDiff, Nat.reduceLT, Nat.reduceEqDiff, true_and, and_true, not_false_eq_true, if_true, if_false, ite_true, ite_false, or_true, true_or, or_false, false_or, not_true_eq_false, n_lt (i := i) (j := i) (by omega) (by omega), Nat.lt_irrefl]
    exact hK m (fun _ _ => rfl)
  | c + 1, i, a, m, hi, l, hK => by
    have h6 := l.bz.1
    have e : i < w := by omega
    have hdl := z_draw_lt (n := s.1 0) (seed := seed + i)
    have hb64 : z_bs (z_slf (z_draw (s.1 0) (seed + i))) (s.1 0) < 64 := Nat.lt_of_lt_of_le (z_bs_lt _ _) (Nat.pow_le_pow_right (by decide) (show s.1 0 ≤ 6 from h6))
    rw [u191_39]
    simp only [u191_41, u191_42, u191_45, u191_46, u191_47, u191_49, u191_50, q_push_s, q_push_n, q_sm_0, q_sm_i, q_sm_r, q_sm_n, q_sm_l, q_c1_0, q_c1_i, q_c1_r, q_c1_n, Nat.zero_add, Nat.reduceAdd, Nat.reduceMul, Nat.reduceSub, Nat.reduceLeDiff, Nat.reduceLT, Nat.reduceEqDiff, true_and, and_true, not_false_eq_true, if_true, if_false, ite_true, ite_false, or_true, true_or, or_false, false_or, not_true_eq_false, n_lt (i := i) (j := w) (by omega) (by omega), e, io38, n_add, Nat.zero_le, Nat.reduceLeDiff]
    refine l.drawsBy (d := d + 1) (by omega) (fun m1 f1 g1 => ?_)
    have l1 : RJ s tx n h m1 := by
      obtain ⟨a, c, e, i, j⟩ := l
      exact ⟨a, c.fr (by rw [f1 38 (by decide)]) (by rw [f1 38 (by decide)]) (by rw [f1 38 (by decide)]) (fun k h1 h2 => f1 k (by omega)), e.fr (f1 44 (by decide)) (f1 45 (by decide)), i.fr (fun k h1 h2 => f1 k (by omega)), by rw [f1 38 (by decide)]; exact j⟩
    simp only [u191_53, u191_55, u191_56, u191_59, u191_62, u191_63, u191_66, u191_67, u191_68, u191_70, u191_73, q_push_s, q_push_n, q_sm_0, q_sm_i, q_sm_r, q_sm_n, q_sm_l, q_c1_0, q_c1_i, q_c1_r, q_c1_n, Nat.zero_add, Nat.reduceAdd, Nat.reduceMul, Nat.reduceSub, Nat.reduceLeDiff, Nat.reduceLT, Nat.reduceEqDiff, true_and, and_true, not_false_eq_true, if_true, if_false, ite_true, ite_false, or_true, true_or, or_false, false_or, not_true_eq_false, io38, c_thems h6 l1.mo.n g1 hdl, n_eq (i := z_bs (z_slf (z_draw (s.1 0) (seed + i))) (s.1 0)) (j := 0) (by omega) (by decide), n_add, lN_add, Nat.add_zero, Nat.zero_le, Nat.reduceLeDiff]
    unfold z_cn at hK
    by_cases q : z_bs (z_slf (z_draw (s.1 0) (seed + i))) (s.1 0) = 0
    · rw [if_pos q]
      rw [if_pos (z_noT.mpr q), ← Nat.add_assoc] at hK
      exact l_odds8 hs hw d c (i + 1) (a + 1) m1 (by omega) l1 (fun m' f' => hK m' (fun p hp => (f' p hp).trans (f1 p hp)))
    · rw [if_neg q]
      rw [if_neg (fun e => q (z_noT.mp e)), Nat.zero_add] at hK
      exact l_odds8 hs hw d c (i + 1) a m1 (by omega) l1 (fun m' f' => hK m' (fun p hp => (f' p hp).trans (f1 p hp)))
end
section
variable {T : List Nat} {L d : Nat} {xs : Nat → Int32} {s : ZS} {tx : Nat → Nat → List Nat} {n : Nat} {tp : Nat → Nat} {z : Nat} {h : ZH} {wd : Nat → Int32} {m m1 m2 : q_M} {K : Option Value → Option Value → q_G → q_M → Prop}
theorem p_odds (l : LJ T L xs s tx n tp z h wd m) (a b c : Int32) (hK : ∀ r m', LJ T L xs s tx n tp z h wd m' → K (some (.long r)) (some (.long r)) (GG T L) m') :
    q_C 91 (d + 3) [.ref 0, .int a, .int b, .int c] (GG T L) m (fun v g m => q_C 191 (d + 3) [.ref 38, .int a, .int b, .int c] g m (fun v' g m => K v v' g m)) := by
  have h6 := l.bz.1
  by_cases ha : z_is a 100000
  · obtain ⟨seed, hs, rfl⟩ := z_is_n ha
    have a0 := n_lt0 (j := seed) (by omega)
    have a1 := n_le (i := seed) (j := 99999) (by omega) (by decide)
    have a2 : seed ≤ 99999 := by omega
    by_cases hb : nI 1 ≤ b ∧ b ≤ nI 99
    · obtain ⟨b1, b2⟩ := hb
      have b1' := b1
      have b2' := b2
      rw [Int32.le_iff_toInt_le, nI_toInt (by decide)] at b1' b2'
      obtain ⟨w, hw, rfl⟩ := z_is_n (v := b) (n := 100) ⟨by omega, by omega⟩
      rw [nI_toInt (by omega)] at b1' b2'
      have hw1 := n_lt (i := w) (j := 1) (by omega) (by decide)
      have hw1' : ¬ w < 1 := by omega
      have hw2 := n_le (i := w) (j := 99) (by omega) (by decide)
      have hw2' : w ≤ 99 := by omega
      by_cases hc : z_is c 2
      · obtain ⟨p, hp, rfl⟩ := z_is_n hc
        have p0 := n_lt0 (j := p) (by omega)
        have p1 := n_le (i := p) (j := 1) (by omega) (by decide)
        have p2 : p ≤ 1 := by omega
        have hcn := z_cn_le (z_no (s.1 0) seed) w 0
        simp only [u91_0, u91_1, u91_4, u91_7, u91_8, u91_9, u91_12, u91_13, u91_15, u91_18, u91_19, u91_22, u91_23, u91_24, u91_27, u91_30, u91_31, u91_32, u91_34, u91_35, e91, q_push_s, q_push_n, q_sm_0, q_sm_i, q_sm_r, q_sm_n, q_sm_l, q_c1_0, q_c1_i, q_c1_r, q_c1_n, Nat.zero_add, Nat.reduceAdd, Nat.reduceMul, Nat.reduceSub, Nat.reduceLeDiff, Nat.reduceLT, Nat.reduceEqDiff, true_and, and_true, not_false_eq_true, if_true, if_false, ite_true, ite_false, or_true, true_or, or_false, false_or, not_true_eq_false, c_isSeed, ha, z_b_z, hw1, hw1', hw2, hw2', p0, p1, p2, Nat.zero_le, Nat.reduceLeDiff]
        refine l_odds hs hw (d + 1) w 0 0 m (by omega) l.cj (fun m1 f1 => ?_)
        have lj1 := l.fr (FR.of18 f1)
        simp only [u91_73, u91_75, u91_76, u91_77, q_push_s, q_push_n, q_sm_0, q_sm_i, q_sm_r, q_sm_n, q_sm_l, q_c1_0, q_c1_i, q_c1_r, q_c1_n, Nat.zero_add, Nat.reduceAdd, Nat.reduceMul, Nat.reduceSub, Nat.reduceLeDiff, Nat.reduceLT, Nat.reduceEqDiff, true_and, and_true, not_false_eq_true, if_true, if_false, ite_true, ite_false, or_true, true_or, or_false, false_or, not_true_eq_false, Nat.zero_le, Nat.reduceLeDiff]
        refine c_low7 (by omega) (by omega) (by omega) hp ?_
        simp only [u91_80, q_push_s, q_push_n, q_sm_0, q_sm_i, q_sm_r, q_sm_n, q_sm_l, q_c1_0, q_c1_i, q_c1_r, q_c1_n, Nat.zero_add, Nat.reduceAdd, Nat.reduceMul, Nat.reduceSub, Nat.reduceLeDiff, Nat.reduceLT, Nat.reduceEqDiff, true_and, and_true, not_false_eq_true, if_true, if_false, ite_true, ite_false, or_true, true_or, or_false, false_or, not_true_eq_false]
        have ew := nI_l (n := w) (by omega)
        simp only [u191_0, u191_1, u191_2, u191_4, u191_7, u191_10, u191_11, u191_12, u191_14, u191_17, u191_20, u191_21, u191_22, u191_23, u191_26, u191_29, u191_32, u191_33, u191_34, u191_36, u191_37, e191, q_push_s, q_push_n, q_sm_0, q_sm_i, q_sm_r, q_sm_n, q_sm_l, q_c1_0, q_c1_i, q_c1_r, q_c1_n, Nat.zero_add, Nat.reduceAdd, Nat.reduceMul, Nat.reduceSub, Nat.reduceLeDiff, Nat.reduceLT, Nat.reduceEqDiff, true_and, and_true, not_false_eq_true, if_true, if_false, ite_true, ite_false, or_true, true_or, or_false, false_or, not_true_eq_false, c_in, and_self, a0, a1, a2, hw1, hw1', hw2, hw2', not_false_eq_true, p0, p1, p2, z_b_z, Nat.zero_le, Nat.reduceLeDiff]
        refine l_odds8 hs hw (d + 1) w 0 0 m1 (by omega) lj1.rj (fun m2 f2 => ?_)
        simp only [u191_76, u191_78, u191_79, u191_80, u191_81, q_push_s, q_push_n, q_sm_0, q_sm_i, q_sm_r, q_sm_n, q_sm_l, q_c1_0, q_c1_i, q_c1_r, q_c1_n, Nat.zero_add, Nat.reduceAdd, Nat.reduceMul, Nat.reduceSub, Nat.reduceLeDiff, Nat.reduceLT, Nat.reduceEqDiff, true_and, and_true, not_false_eq_true, if_true, if_false, ite_true, ite_false, or_true, true_or, or_false, false_or, not_true_eq_false, ew, Nat.zero_le, Nat.reduceLeDiff]
        refine c_low8 (by omega) (by omega) (by omega) hp ?_
        simp only [u191_84, q_push_s, q_push_n, q_sm_0, q_sm_i, q_sm_r, q_sm_n, q_sm_l, q_c1_0, q_c1_i, q_c1_r, q_c1_n, Nat.zero_add, Nat.reduceAdd, Nat.reduceMul, Nat.reduceSub, Nat.reduceLeDiff, Nat.reduceLT, Nat.reduceEqDiff, true_and, and_true, not_false_eq_true, if_true, if_false, ite_true, ite_false, or_true, true_or, or_false, false_or, not_true_eq_false]
        exact hK _ _ (lj1.fr (FR.of56 f2))
      · rcases z_is_f (n := 1) (by decide) hc with q | ⟨q1, q2⟩
        · simp only [u91_0, u91_1, u91_4, u91_7, u91_8, u91_9, u91_12, u91_13, u91_15, u91_18, u91_19, u91_22, u91_23, u91_24, u91_27, u91_30, e91, u191_0, u191_1, u191_2, u191_4, u191_7, u191_10, u191_11, u191_12, u191_14, u191_17, u191_20, u191_21, u191_22, u191_23, u191_26, u191_29, u191_32, e191, q_push_s, q_push_n, q_sm_0, q_sm_i, q_sm_r, q_sm_n, q_sm_l, q_c1_0, q_c1_i, q_c1_r, q_c1_n, Nat.zero_add, Nat.reduceAdd, Nat.reduceMul, Nat.reduceSub, Nat.reduceLeDiff, Nat.reduceLT, Nat.reduceEqDiff, true_and, and_true, not_false_eq_true, if_true, if_false, ite_true, ite_false, or_true, true_or, or_false, false_or, not_true_eq_false, c_isSeed, ha, z_b_z, c_in, and_self, not_false_eq_true, a0, a1, a2, hw1, hw1', hw2, hw2', q, false_and, Nat.zero_le, Nat.reduceLeDiff]
          exact hK _ _ l
        · simp only [u91_0, u91_1, u91_4, u91_7, u91_8, u91_9, u91_12, u91_13, u91_15, u91_18, u91_19, u91_22, u91_23, u91_24, u91_27, u91_30, e91, u191_0, u191_1, u191_2, u191_4, u191_7, u191_10, u191_11, u191_12, u191_14, u191_17, u191_20, u191_21, u191_22, u191_23, u191_26, u191_29, u191_32, e191, q_push_s, q_push_n, q_sm_0, q_sm_i, q_sm_r, q_sm_n, q_sm_l, q_c1_0, q_c1_i, q_c1_r, q_c1_n, Nat.zero_add, Nat.reduceAdd, Nat.reduceMul, Nat.reduceSub, Nat.reduceLeDiff, Nat.reduceLT, Nat.reduceEqDiff, true_and, and_true, not_false_eq_true, if_true, if_false, ite_true, ite_false, or_true, true_or, or_false, false_or, not_true_eq_false, c_isSeed, ha, z_b_z, c_in, and_self, not_false_eq_true, a0, a1, a2, hw1, hw1', hw2, hw2', q1, q2, and_false, Nat.zero_le, Nat.reduceLeDiff]
          exact hK _ _ l
    · by_cases q : b < nI 1
      · simp only [u91_0, u91_1, u91_4, u91_7, u91_8, u91_9, u91_12, u91_13, u91_15, u91_18, u91_19, u91_22, u91_23, u91_24, u91_27, u91_30, e91, u191_0, u191_1, u191_2, u191_4, u191_7, u191_10, u191_11, u191_12, u191_14, u191_17, u191_20, u191_21, u191_22, u191_23, u191_26, u191_29, u191_32, e191, q_push_s, q_push_n, q_sm_0, q_sm_i, q_sm_r, q_sm_n, q_sm_l, q_c1_0, q_c1_i, q_c1_r, q_c1_n, Nat.zero_add, Nat.reduceAdd, Nat.reduceMul, Nat.reduceSub, Nat.reduceLeDiff, Nat.reduceLT, Nat.reduceEqDiff, true_and, and_true, not_false_eq_true, if_true, if_false, ite_true, ite_false, or_true, true_or, or_false, false_or, not_true_eq_false, c_isSeed, ha, z_b_z, c_in, and_self, not_false_eq_true, a0, a1, a2, q, false_and, Nat.zero_le, Nat.reduceLeDiff]
        exact hK _ _ l
      · have q2 : ¬ b ≤ nI 99 := fun e => hb ⟨by rw [Int32.lt_iff_toInt_lt] at q; rw [Int32.le_iff_toInt_le]; omega, e⟩
        simp only [u91_0, u91_1, u91_4, u91_7, u91_8, u91_9, u91_12, u91_13, u91_15, u91_18, u91_19, u91_22, u91_23, u91_24, u91_27, u91_30, e91, u191_0, u191_1, u191_2, u191_4, u191_7, u191_10, u191_11, u191_12, u191_14, u191_17, u191_20, u191_21, u191_22, u191_23, u191_26, u191_29, u191_32, e191, q_push_s, q_push_n, q_sm_0, q_sm_i, q_sm_r, q_sm_n, q_sm_l, q_c1_0, q_c1_i, q_c1_r, q_c1_n, Nat.zero_add, Nat.reduceAdd, Nat.reduceMul, Nat.reduceSub, Nat.reduceLeDiff, Nat.reduceLT, Nat.reduceEqDiff, true_and, and_true, not_false_eq_true, if_true, if_false, ite_true, ite_false, or_true, true_or, or_false, false_or, not_true_eq_false, c_isSeed, ha, z_b_z, c_in, and_self, not_false_eq_true, a0, a1, a2, q, q2, and_false, Nat.zero_le, Nat.reduceLeDiff]
        exact hK _ _ l
  · rcases z_is_f (n := 99999) (by decide) ha with q | ⟨q1, q2⟩
    · simp only [u91_0, u91_1, u91_4, u91_7, u91_8, u91_9, u91_12, u91_13, u91_15, u91_18, u91_19, u91_22, u91_23, u91_24, u91_27, u91_30, e91, u191_0, u191_1, u191_2, u191_4, u191_7, u191_10, u191_11, u191_12, u191_14, u191_17, u191_20, u191_21, u191_22, u191_23, u191_26, u191_29, u191_32, e191, q_push_s, q_push_n, q_sm_0, q_sm_i, q_sm_r, q_sm_n, q_sm_l, q_c1_0, q_c1_i, q_c1_r, q_c1_n, Nat.zero_add, Nat.reduceAdd, Nat.reduceMul, Nat.reduceSub, Nat.reduceLeDiff, Nat.reduceLT, Nat.reduceEqDiff, true_and, and_true, not_false_eq_true, if_true, if_false, ite_true, ite_false, or_true, true_or, or_false, false_or, not_true_eq_false, c_isSeed, ha, z_b_z, c_in, q, false_and, Nat.zero_le, Nat.reduceLeDiff]
      exact hK _ _ l
    · simp only [u91_0, u91_1, u91_4, u91_7, u91_8, u91_9, u91_12, u91_13, u91_15, u91_18, u91_19, u91_22, u91_23, u91_24, u91_27, u91_30, e91, u191_0, u191_1, u191_2, u191_4, u191_7, u191_10, u191_11, u191_12, u191_14, u191_17, u191_20, u191_21, u191_22, u191_23, u191_26, u191_29, u191_32, e191, q_push_s, q_push_n, q_sm_0, q_sm_i, q_sm_r, q_sm_n, q_sm_l, q_c1_0, q_c1_i, q_c1_r, q_c1_n, Nat.zero_add, Nat.reduceAdd, Nat.reduceMul, Nat.reduceSub, Nat.reduceLeDiff, Nat.reduceLT, Nat.reduceEqDiff, true_and, and_true, not_false_eq_true, if_true, if_false, ite_true, ite_false, or_true, true_or, or_false, false_or, not_true_eq_false, c_isSeed, ha, z_b_z, c_in, q1, q2, and_false, Nat.zero_le, Nat.reduceLeDiff]
      exact hK _ _ l
end
