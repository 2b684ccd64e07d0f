/-! ===== best ===== -/
def z_wt (tx : Nat → Nat → List Nat) (s : ZS) (goal g o : Nat) : Int := if z_kn tx s g o = (-1 : Int32) then 0 else if goal = 0 then 1 else if goal = 1 then (z_ask tx s 1 g o (z_kni tx s g o) : Int) else -(z_ask tx s 1 g o (z_kni tx s g o) : Int)
theorem z_wt_b (tx : Nat → Nat → List Nat) (s : ZS) (goal g o : Nat) : -100 ≤ z_wt tx s goal g o ∧ z_wt tx s goal g o ≤ 100 := by
  have := z_ask_le tx s 1 g o (z_kni tx s g o)
  unfold z_wt
  split
  · omega
  · split
    · omega
    · split <;> omega
def z_vl (goal : Nat) (a : Nat × Nat × Nat) : Int := if goal = 0 then (a.1 : Int) else if goal = 1 then (a.2.2 : Int) else -(a.2.2 : Int)
theorem z_vl_s (tx : Nat → Nat → List Nat) (s : ZS) (goal : Nat) (dd : Nat → Nat) : ∀ k, z_sm' (z_wt tx s goal) dd k = z_vl goal (z_tl tx s dd k)
  | 0 => by
    show (0 : Int) = z_vl goal (0, 0, 0)
    unfold z_vl
    split
    · rfl
    · split <;> rfl
  | k + 1 => by
    show z_sm' (z_wt tx s goal) dd k + z_wt tx s goal k (dd k) = z_vl goal (z_t1 tx s dd k (z_tl tx s dd k))
    rw [z_vl_s tx s goal dd k]
    unfold z_t1 z_wt z_vl
    by_cases q : z_kn tx s k (dd k) = (-1 : Int32)
    · rw [if_pos q, if_pos q, Int.add_zero]
    · rw [if_neg q, if_neg q]
      by_cases g0 : goal = 0
      · rw [if_pos g0, if_pos g0, if_pos g0]; rfl
      · rw [if_neg g0, if_neg g0, if_neg g0]
        by_cases g1 : goal = 1
        · rw [if_pos g1, if_pos g1, if_pos g1]; rfl
        · rw [if_neg g1, if_neg g1, if_neg g1]
          show -((z_tl tx s dd k).2.2 : Int) + -(z_ask tx s 1 k (dd k) (z_kni tx s k (dd k)) : Int) = -(((z_tl tx s dd k).2.2 + z_ask tx s 1 k (dd k) (z_kni tx s k (dd k)) : Nat) : Int)
          omega
section
variable {T : List Nat} {L : Nat} {s : ZS} {tx : Nat → Nat → List Nat} {n : Nat} {h : ZH} {m : q_M} {K : Option Value → q_G → q_M → Prop}
theorem c_sumBy {N t g o r d : Nat} {w : Nat → Nat → Int} (hw : ∀ g d, -100 ≤ w g d ∧ w g d ≤ 100) (hN : N ≤ 6) (ht : t < 64) (hg : g < N) (ho : o < N) (hr5 : r ≤ 5) (h0 : m 3 0 = nI N) (h15 : m 15 (g * 6 + o) = jI (w g o)) (hr : t / 2 ^ o % 2 = 0 → m 16 (t ||| 2 ^ o) = jI (z_L w N r (g + 1) (t ||| 2 ^ o))) : q_C 17 (d + 1) [.ref 1, .int (nI t), .int (nI g), .int (nI o)] (GG T L) m K ↔ K (some (.int (jI (z_sb w N r g t o)))) (GG T L) m := by
  have e1 := n_eq (i := g) (j := o) (by omega) (by omega)
  have e2 := n_le (i := N) (j := 1) (by omega) (by decide)
  have hdl : t / 2 ^ o ≤ t := Nat.div_le_self _ _
  have n_and1 : nI (t / 2 ^ o) &&& nI 1 = nI (t / 2 ^ o % 2) := pk_andN (by omega) 1 (by decide +kernel)
  have e3 := n_eq (i := t / 2 ^ o % 2) (j := 0) (by omega) (by decide)
  have hor := (z_popb t ht o (by omega)).2
  unfold z_sb
  by_cases q : (decide (t / 2 ^ o % 2 = 0) && z_e N g o) = true
  · have q' := q
    rw [Bool.and_eq_true, decide_eq_true_iff, z_eT] at q'
    obtain ⟨qa, qb⟩ := q'
    rw [if_pos q]
    have hb := z_bd_r (z_L_bd hw (n := N) r (g + 1) (t ||| 2 ^ o) (by omega)) (by omega)
    have ef := jI_eq (a := z_L w N r (g + 1) (t ||| 2 ^ o)) (b := z_far) hb.1 hb.2.1 (by decide) (by decide)
    have tail : q_R 17 39 (d + 1) [some (.ref 1), some (.int (nI t)), some (.int (nI g)), some (.int (nI o)), some (.int (nI 0)), none] [] (GG T L) m K ↔ K (some (.int (jI (if z_L w N r (g + 1) (t ||| 2 ^ o) = z_far then z_far else z_L w N r (g + 1) (t ||| 2 ^ o) + w g o)))) (GG T L) m := by
      by_cases q3 : z_L w N r (g + 1) (t ||| 2 ^ o) = z_far
      · rw [if_pos q3]
        simp only [u17_39, u17_40, u17_43, u17_44, u17_45, u17_46, u17_47, u17_48, u17_51, u17_53, u17_55, u17_57, u17_60, u17_62, u17_65, u17_67, u17_68, u17_71, u17_72, u17_73, u17_76, u17_79, u17_80, q_push_s, q_push_n, q_sm_0, q_sm_i, q_sm_r, q_sm_n, q_sm_l, q_c1_0, q_c1_i, q_c1_r, q_c1_n, Nat.zero_add, Nat.reduceAdd, Nat.reduceMul, Nat.reduceSub, Nat.reduceLeDiff, Nat.reduceLT, Nat.reduceEqDiff, true_and, and_true, not_false_eq_true, if_true, if_false, ite_true, ite_false, or_true, true_or, or_false, false_or, not_true_eq_false, gf1_3, n_s1 o (by omega), n_or, c_at (j := t ||| 2 ^ o) sh16 (by decide) (by decide) hor, hr qa, jI_far, ef, q3, Nat.zero_le, Nat.reduceLeDiff]
      · rw [if_neg q3]
        simp only [u17_39, u17_40, u17_43, u17_44, u17_45, u17_46, u17_47, u17_48, u17_51, u17_53, u17_55, u17_57, u17_60, u17_62, u17_65, u17_67, u17_68, u17_71, u17_72, u17_73, u17_76, u17_79, u17_80, q_push_s, q_push_n, q_sm_0, q_sm_i, q_sm_r, q_sm_n, q_sm_l, q_c1_0, q_c1_i, q_c1_r, q_c1_n, Nat.zero_add, Nat.reduceAdd, Nat.reduceMul, Nat.reduceSub, Nat.reduceLeDiff, Nat.reduceLT, Nat.reduceEqDiff, true_and, and_true, not_false_eq_true, if_true, if_false, ite_true, ite_false, or_true, true_or, or_false, false_or, not_true_eq_false, gf1_2, gf1_3, n_s1 o (by omega), n_or, c_at (j := t ||| 2 ^ o) sh16 (by decide) (by decide) hor, hr qa, jI_far, ef, q3, c_place, c_at (j := g * 6 + o) sh15 (by decide) (by decide) (show g * 6 + o < 36 by omega), h15, jI_add, Nat.zero_le, Nat.reduceLeDiff]
    rw [← tail]
    by_cases q1 : g = o
    · have q2 : N ≤ 1 := by omega
      have q1' : nI g = nI o := by rw [q1]
      simp only [e17, u17_0, u17_1, u17_2, u17_5, u17_6, u17_9, u17_12, u17_13, u17_16, u17_17, u17_20, u17_21, u17_23, u17_25, u17_28, u17_29, u17_30, u17_31, u17_32, u17_33, q_push_s, q_push_n, q_sm_0, q_sm_i, q_sm_r, q_sm_n, q_sm_l, q_c1_0, q_c1_i, q_c1_r, q_c1_n, Nat.zero_add, Nat.reduceAdd, Nat.reduceMul, Nat.reduceSub, Nat.reduceLeDiff, Nat.reduceLT, Nat.reduceEqDiff, true_and, and_true, not_false_eq_true, if_true, if_false, ite_true, ite_false, or_true, true_or, or_false, false_or, not_true_eq_false, gf1_1, gf3_0, h0, q1', e2, q2, eq_self, n_shr (a := t) (k := o) (by omega) (by omega), n_and1, e3, qa]
    · simp only [e17, u17_0, u17_1, u17_2, u17_5, u17_6, u17_9, u17_12, u17_13, u17_16, u17_17, u17_20, u17_21, u17_23, u17_25, u17_28, u17_29, u17_30, u17_31, u17_32, u17_33, q_push_s, q_push_n, q_sm_0, q_sm_i, q_sm_r, q_sm_n, q_sm_l, q_c1_0, q_c1_i, q_c1_r, q_c1_n, Nat.zero_add, Nat.reduceAdd, Nat.reduceMul, Nat.reduceSub, Nat.reduceLeDiff, Nat.reduceLT, Nat.reduceEqDiff, true_and, and_true, not_false_eq_true, if_true, if_false, ite_true, ite_false, or_true, true_or, or_false, false_or, not_true_eq_false, e1, q1, eq_self, n_shr (a := t) (k := o) (by omega) (by omega), n_and1, e3, qa]
  · rw [if_neg q]
    have q' : ¬ (t / 2 ^ o % 2 = 0 ∧ (N ≤ 1 ∨ g ≠ o)) := by
      rw [Bool.and_eq_true, decide_eq_true_iff, z_eT] at q
      exact q
    by_cases q1 : g = o
    · have q1' : nI g = nI o := by rw [q1]
      by_cases q2 : N ≤ 1
      · have qa : ¬ t / 2 ^ o % 2 = 0 := fun e => q' ⟨e, Or.inl q2⟩
        simp only [e17, u17_0, u17_1, u17_2, u17_5, u17_6, u17_9, u17_12, u17_13, u17_16, u17_17, u17_20, u17_21, u17_23, u17_25, u17_28, u17_29, u17_30, u17_31, u17_32, u17_33, u17_36, u17_38, q_push_s, q_push_n, q_sm_0, q_sm_i, q_sm_r, q_sm_n, q_sm_l, q_c1_0, q_c1_i, q_c1_r, q_c1_n, Nat.zero_add, Nat.reduceAdd, Nat.reduceMul, Nat.reduceSub, Nat.reduceLeDiff, Nat.reduceLT, Nat.reduceEqDiff, true_and, and_true, not_false_eq_true, if_true, if_false, ite_true, ite_false, or_true, true_or, or_false, false_or, not_true_eq_false, gf1_1, gf3_0, h0, q1', e2, q2, eq_self, n_shr (a := t) (k := o) (by omega) (by omega), n_and1, e3, qa, jI_far]
      · simp only [e17, u17_0, u17_1, u17_2, u17_5, u17_6, u17_9, u17_12, u17_13, u17_16, u17_17, u17_20, u17_21, u17_23, u17_25, u17_28, u17_29, u17_30, u17_31, u17_32, u17_33, u17_36, u17_38, q_push_s, q_push_n, q_sm_0, q_sm_i, q_sm_r, q_sm_n, q_sm_l, q_c1_0, q_c1_i, q_c1_r, q_c1_n, Nat.zero_add, Nat.reduceAdd, Nat.reduceMul, Nat.reduceSub, Nat.reduceLeDiff, Nat.reduceLT, Nat.reduceEqDiff, true_and, and_true, not_false_eq_true, if_true, if_false, ite_true, ite_false, or_true, true_or, or_false, false_or, not_true_eq_false, eq_self, lq_0_1, lq_0_2, lq_0_3, lq_0_4, lq_0_5, lq_0_6, lq_1_0, lq_1_2, lq_1_3, lq_1_4, lq_1_5, lq_1_6, lq_2_0, lq_2_1, lq_2_3, lq_2_4, lq_2_5, lq_2_6, lq_3_0, lq_3_1, lq_3_2, lq_3_4, lq_3_5, lq_3_6, lq_4_0, lq_4_1, lq_4_2, lq_4_3, lq_4_5, lq_4_6, lq_5_0, lq_5_1, lq_5_2, lq_5_3, lq_5_4, lq_5_6, lq_6_0, lq_6_1, lq_6_2, lq_6_3, lq_6_4, lq_6_5, ll_0_0, ll_0_1, ll_0_2, ll_0_3, ll_0_4, ll_0_5, ll_0_6, ll_1_0, ll_1_1, ll_1_2, ll_1_3, ll_1_4, ll_1_5, ll_1_6, ll_2_0, ll_2_1, ll_2_2, ll_2_3, ll_2_4, ll_2_5, ll_2_6, ll_3_0, ll_3_1, ll_3_2, ll_3_3, ll_3_4, ll_3_5, ll_3_6, ll_4_0, ll_4_1, ll_4_2, ll_4_3, ll_4_4, ll_4_5, ll_4_6, ll_5_0, ll_5_1, ll_5_2, ll_5_3, ll_5_4, ll_5_5, ll_5_6, ll_6_0, ll_6_1, ll_6_2, ll_6_3, ll_6_4, ll_6_5, ll_6_6, le_0_0, le_0_1, le_0_2, le_0_3, le_0_4, le_0_5, le_0_6, le_1_0, le_1_1, le_1_2, le_1_3, le_1_4, le_1_5, le_1_6, le_2_0, le_2_1, le_2_2, le_2_3, le_2_4, le_2_5, le_2_6, le_3_0, le_3_1, le_3_2, le_3_3, le_3_4, le_3_5, le_3_6, le_4_0, le_4_1, le_4_2, le_4_3, le_4_4, le_4_5, le_4_6, le_5_0, le_5_1, le_5_2, le_5_3, le_5_4, le_5_5, le_5_6, le_6_0, le_6_1, le_6_2, le_6_3, le_6_4, le_6_5, le_6_6, gf1_1, gf3_0, h0, q1', e2, q2, jI_far]
    · have qa : ¬ t / 2 ^ o % 2 = 0 := fun e => q' ⟨e, Or.inr q1⟩
      simp only [e17, u17_0, u17_1, u17_2, u17_5, u17_6, u17_9, u17_12, u17_13, u17_16, u17_17, u17_20, u17_21, u17_23, u17_25, u17_28, u17_29, u17_30, u17_31, u17_32, u17_33, u17_36, u17_38, q_push_s, q_push_n, q_sm_0, q_sm_i, q_sm_r, q_sm_n, q_sm_l, q_c1_0, q_c1_i, q_c1_r, q_c1_n, Nat.zero_add, Nat.reduceAdd, Nat.reduceMul, Nat.reduceSub, Nat.reduceLeDiff, Nat.reduceLT, Nat.reduceEqDiff, true_and, and_true, not_false_eq_true, if_true, if_false, ite_true, ite_false, or_true, true_or, or_false, false_or, not_true_eq_false, e1, q1, eq_self, n_shr (a := t) (k := o) (by omega) (by omega), n_and1, e3, qa, jI_far]
theorem z_imin_q (a b : Int) (h1 : -2000000 ≤ a) (h2 : a ≤ 2000000) (h3 : -2000000 ≤ b) (h4 : b ≤ 2000000) : q_min (jI a) (jI b) = jI (z_imin a b) := by
  have e := jI_lt h3 h4 h1 h2
  unfold q_min z_imin
  by_cases q : b < a
  · rw [if_pos (show jI b < jI a by rw [e]; exact q), if_pos q]
  · rw [if_neg (show ¬ jI b < jI a by rw [e]; exact q), if_neg q]
theorem l_ls2 {N t r g : Nat} {w : Nat → Nat → Int} (hw : ∀ g d, -100 ≤ w g d ∧ w g d ≤ 100) (hN : N ≤ 6) (ht : t < 64) (hg : g < N) (hr5 : r ≤ 5) (h0 : m 3 0 = nI N) (h15 : ∀ o, o < N → m 15 (g * 6 + o) = jI (w g o)) (hr : ∀ o, o < N → t / 2 ^ o % 2 = 0 → m 16 (t ||| 2 ^ o) = jI (z_L w N r (g + 1) (t ||| 2 ^ o))) (x1 : Option Value) (d : Nat) : ∀ c i a, -2000000 ≤ a → a ≤ z_far → i + c = N → (q_R 18 74 (d + 2) [some (.ref 1), x1, some (.int (nI t)), some (.int (nI g)), some (.int (jI (z_fo (fun d a => z_imin a (z_sb w N r g t d)) c i a))), some (.int (nI N))] [] (GG T L) m K) →
    q_R 18 41 (d + 2) [some (.ref 1), x1, some (.int (nI t)), some (.int (nI g)), some (.int (jI a)), some (.int (nI i))] [] (GG T L) m K
  | 0, i, a, ha, ha2, hi, hK => by
    have e : i = N := by omega
    subst e
    simp only [u18_41, u18_43, u18_44, u18_47, u18_50, q_push_s, q_push_n, q_sm_0, q_sm_i, q_sm_r, q_sm_n, q_sm_l, q_c1_0, q_c1_i, q_c1_r, q_c1_n, Nat.zero_add, Nat.reduceAdd, Nat.reduceMul, Nat.reduceSub, Nat.reduceLeDiff, Nat.reduceLT, Nat.reduceEqDiff, true_and, and_true, not_false_eq_true, if_true, if_false, ite_true, ite_false, or_true, true_or, or_false, false_or, not_true_eq_false, gf1_1, gf3_0, h0, n_lt (i := i) (j := i) (by omega) (by omega), Nat.lt_irrefl]
    exact hK
  | c + 1, i, a, ha, ha2, hi, hK => by
    have e : i < N := by omega
    have hb := z_bd_r (z_sb_bd hw (n := N) (r := r) (k := g) (t := t) (d := i) hr5) (by omega)
    have ef : z_far = 1000000 := rfl
    rw [u18_41]
    simp only [u18_43, u18_44, u18_47, u18_50, u18_53, u18_55, u18_56, u18_57, u18_58, u18_60, u18_63, u18_66, u18_68, u18_71, q_push_s, q_push_n, q_sm_0, q_sm_i, q_sm_r, q_sm_n, q_sm_l, q_c1_0, q_c1_i, q_c1_r, q_c1_n, Nat.zero_add, Nat.reduceAdd, Nat.reduceMul, Nat.reduceSub, Nat.reduceLeDiff, Nat.reduceLT, Nat.reduceEqDiff, true_and, and_true, not_false_eq_true, if_true, if_false, ite_true, ite_false, or_true, true_or, or_false, false_or, not_true_eq_false, gf1_1, gf3_0, h0, n_lt (i := i) (j := N) (by omega) (by omega), e, io1, c_sumBy hw hN ht hg e hr5 h0 (h15 i e) (hr i e), z_imin_q a (z_sb w N r g t i) ha (by omega) hb.1 hb.2.1, n_add, Nat.zero_le, Nat.reduceLeDiff]
    refine l_ls2 hw hN ht hg hr5 h0 h15 hr x1 d c (i + 1) (z_imin a (z_sb w N r g t i)) ?_ ?_ (by omega) hK
    · unfold z_imin; split <;> omega
    · unfold z_imin; split <;> omega
theorem l_ls3 {N : Nat} {w : Nat → Nat → Int} (hw : ∀ g d, -100 ≤ w g d ∧ w g d ≤ 100) (x1 : Option Value) (hx1 : q_c1 x1 = true) (hN : N ≤ 6) (d : Nat) : ∀ cc m x3 x4 x5, q_c1 x3 = true → q_c1 x4 = true → q_c1 x5 = true → cc ≤ 2 ^ N - 1 → m 3 0 = nI N → (∀ g, g < N → ∀ o, o < N → m 15 (g * 6 + o) = jI (w g o)) → (∀ t, cc ≤ t → t < 2 ^ N → m 16 t = jI (z_L w N (N - z_pop t) (z_pop t) t)) → (∀ m', (∀ p, p ≠ 16 → m' p = m p) → (∀ t, t < 2 ^ N → m' 16 t = jI (z_L w N (N - z_pop t) (z_pop t) t)) → K (some (.int (jI (z_L w N N 0 0)))) (GG T L) m') →
    q_R 18 25 (d + 2) [some (.ref 1), x1, some (.int (z_ct cc)), x3, x4, x5] [] (GG T L) m K
  | 0, m, x3, x4, x5, h3, h4, h5, hcc, h0, h15, ht, hK => by
    have e1 : ((-1 : Int32) < nI 0) = True := eq_true (by decide)
    have e2 : z_ct 0 = (-1 : Int32) := rfl
    have e3 : z_pop 0 = 0 := by decide +kernel
    have e4 := ht 0 (Nat.le_refl 0) (Nat.two_pow_pos N)
    rw [e3, Nat.sub_zero] at e4
    rw [e2]
    simp only [u18_25, u18_26, u18_90, u18_91, u18_94, u18_95, u18_98, q_push_s, q_push_n, q_sm_0, q_sm_i, q_sm_r, q_sm_n, q_sm_l, q_c1_0, q_c1_i, q_c1_r, q_c1_n, Nat.zero_add, Nat.reduceAdd, Nat.reduceMul, Nat.reduceSub, Nat.reduceLeDiff, Nat.reduceLT, Nat.reduceEqDiff, true_and, and_true, not_false_eq_true, if_true, if_false, ite_true, ite_false, or_true, true_or, or_false, false_or, not_true_eq_false, e1, gf1_3, c_at (j := 0) sh16 (by decide) (by decide) (by decide), e4, Nat.zero_le, Nat.reduceLeDiff]
    exact hK m (fun _ _ => rfl) (fun t h => ht t (Nat.zero_le t) h)
  | t + 1, m, x3, x4, x5, h3, h4, h5, hcc, h0, h15, ht, hK => by
    have e2 : z_ct (t + 1) = nI t := rfl
    have h64 : 2 ^ N ≤ 64 := Nat.pow_le_pow_right (by decide) (show N ≤ 6 from hN)
    have htl : t < 2 ^ N := by omega
    have hpl := z_popl N (by omega) t (by omega) htl
    have hpn : z_pop t ≠ N := fun e => by
      have := (z_popf N (by omega) t (by omega) htl).mpr e
      omega
    have hp : z_pop t < N := by omega
    have e3 : N - z_pop t = (N - z_pop t - 1) + 1 := by omega
    rw [e2, u18_25]
    simp only [u18_26, u18_29, u18_30, u18_33, u18_34, u18_36, u18_38, u18_39, q_push_s, q_push_n, q_sm_0, q_sm_i, q_sm_r, q_sm_n, q_sm_l, q_c1_0, q_c1_i, q_c1_r, q_c1_n, Nat.zero_add, Nat.reduceAdd, Nat.reduceMul, Nat.reduceSub, Nat.reduceLeDiff, Nat.reduceLT, Nat.reduceEqDiff, true_and, and_true, not_false_eq_true, if_true, if_false, ite_true, ite_false, or_true, true_or, or_false, false_or, not_true_eq_false, n_lt0 (j := t) (by omega), c_bits (v := t) (by omega), jI_far, Nat.zero_le, Nat.reduceLeDiff]
    refine l_ls2 (r := N - z_pop t - 1) hw hN (by omega) hp (by omega) h0 (h15 _ hp) (fun o ho hb => ?_) x1 d N 0 z_far (by decide) (Int.le_refl _) (by omega) ?_
    · have hlt := z_orl t (by omega) o (by omega) hb
      have hpo := (z_popb t (by omega) o (by omega)).1
      rw [if_pos hb] at hpo
      have hor : t ||| 2 ^ o < 2 ^ N := Nat.or_lt_two_pow htl (Nat.pow_lt_pow_right (by decide) ho)
      rw [ht (t ||| 2 ^ o) (by omega) hor, hpo, show N - (z_pop t + 1) = N - z_pop t - 1 by omega]
    · rw [← z_L_s, ← e3]
      simp only [u18_74, u18_75, u18_78, u18_79, u18_81, u18_84, u18_87, q_push_s, q_push_n, q_sm_0, q_sm_i, q_sm_r, q_sm_n, q_sm_l, q_c1_0, q_c1_i, q_c1_r, q_c1_n, Nat.zero_add, Nat.reduceAdd, Nat.reduceMul, Nat.reduceSub, Nat.reduceLeDiff, Nat.reduceLT, Nat.reduceEqDiff, true_and, and_true, not_false_eq_true, if_true, if_false, ite_true, ite_false, or_true, true_or, or_false, false_or, not_true_eq_false, gf1_3, c_put (j := t) sh16 (by decide) (by decide) (show t < 64 by omega), z_ct_s, hx1, Nat.zero_le, Nat.reduceLeDiff]
      refine l_ls3 hw x1 hx1 hN d t _ _ _ _ (of_eq_true (q_c1_i _)) (of_eq_true (q_c1_i _)) (of_eq_true (q_c1_i _)) (by omega) (by rw [q_up_f _ _ _ (by decide)]; exact h0) (fun g hg o ho => by rw [q_up_f _ _ _ (by decide)]; exact h15 g hg o ho) (fun t' h1 h2 => ?_) (fun m' f1 f2 => hK m' (fun p hp => (f1 p hp).trans (q_up_f _ _ _ hp)) f2)
      by_cases q : t' = t
      · rw [q, q_up_eq]
      · rw [q_up_i _ _ q]; exact ht t' (by omega) h2
theorem c_leastSum {N d : Nat} {w : Nat → Nat → Int} (hw : ∀ g d, -100 ≤ w g d ∧ w g d ≤ 100) (hN : N ≤ 6) (h0 : m 3 0 = nI N) (h15 : ∀ g, g < N → ∀ o, o < N → m 15 (g * 6 + o) = jI (w g o)) (hK : ∀ m', (∀ p, p ≠ 16 → m' p = m p) → (∀ t, t < 2 ^ N → m' 16 t = jI (z_L w N (N - z_pop t) (z_pop t) t)) → K (some (.int (jI (z_L w N N 0 0)))) (GG T L) m') : q_C 18 (d + 2) [.ref 1] (GG T L) m K := by
  have h64 : 2 ^ N ≤ 64 := Nat.pow_le_pow_right (by decide) (show N ≤ 6 from hN)
  have h1 : 1 ≤ 2 ^ N := Nat.two_pow_pos _
  have hp : z_pop (2 ^ N - 1) = N := (z_popf N (by omega) _ (by omega) (by omega)).mp rfl
  simp only [e18, u18_0, u18_1, u18_2, u18_5, u18_8, u18_9, u18_10, u18_11, u18_12, u18_13, u18_16, u18_17, u18_18, u18_21, u18_22, u18_23, u18_24, q_push_s, q_push_n, q_sm_0, q_sm_i, q_sm_r, q_sm_n, q_sm_l, q_c1_0, q_c1_i, q_c1_r, q_c1_n, Nat.zero_add, Nat.reduceAdd, Nat.reduceMul, Nat.reduceSub, Nat.reduceLeDiff, Nat.reduceLT, Nat.reduceEqDiff, true_and, and_true, not_false_eq_true, if_true, if_false, ite_true, ite_false, or_true, true_or, or_false, false_or, not_true_eq_false, gf1_1, gf1_3, gf3_0, h0, n_s1 N (by omega), n_sub h1, c_put (j := 2 ^ N - 1) sh16 (by decide) (by decide) (show 2 ^ N - 1 < 64 by omega), z_ct_n, Nat.zero_le, Nat.reduceLeDiff]
  refine l_ls3 hw _ (of_eq_true (q_c1_i _)) hN d (2 ^ N - 1) _ _ _ _ (of_eq_true q_c1_0) (of_eq_true q_c1_0) (of_eq_true q_c1_0) (Nat.le_refl _) (by rw [q_up_f _ _ _ (by decide)]; exact h0) (fun g hg o ho => by rw [q_up_f _ _ _ (by decide)]; exact h15 g hg o ho) (fun t h2 h3 => ?_) (fun m' f2 g2 => hK m' (fun p hp => (f2 p hp).trans (q_up_f _ _ _ hp)) g2)
  have e : t = 2 ^ N - 1 := by omega
  rw [e, q_up_eq, hp, Nat.sub_self]
  rfl
theorem l_fl1 {N t r g : Nat} {w : Nat → Nat → Int} (hw : ∀ g d, -100 ≤ w g d ∧ w g d ≤ 100) (hN : N ≤ 6) (ht : t < 64) (hg : g < N) (hr5 : r ≤ 5) (h0 : m 3 0 = nI N) (h15 : ∀ o, o < N → m 15 (g * 6 + o) = jI (w g o)) (hr : ∀ o, o < N → t / 2 ^ o % 2 = 0 → m 16 (t ||| 2 ^ o) = jI (z_L w N r (g + 1) (t ||| 2 ^ o))) (h16 : m 16 t = jI (z_L w N (r + 1) g t)) (d : Nat) : ∀ i x5, q_c1 x5 = true → i ≤ N → (∀ x5, q_c1 x5 = true → q_R 19 72 (d + 2) [some (.ref 1), some (.int (nI t)), some (.int (nI g)), some (.int (nI (z_min (z_pk (z_sb w N r g t) (z_L w N (r + 1) g t)) N 0))), some (.int (-1 : Int32)), x5] [] (GG T L) m K) →
    q_R 19 28 (d + 2) [some (.ref 1), some (.int (nI t)), some (.int (nI g)), some (.int (nI (z_min (z_pk (z_sb w N r g t) (z_L w N (r + 1) g t)) (N - i) i))), some (.int (z_ct i)), x5] [] (GG T L) m K
  | 0, x5, h5, hi, hK => by
    have e1 : ((-1 : Int32) < nI 0) = True := eq_true (by decide)
    have e2 : z_ct 0 = (-1 : Int32) := rfl
    rw [e2, Nat.sub_zero]
    simp only [u19_28, u19_30, q_push_s, q_push_n, q_sm_0, q_sm_i, q_sm_r, q_sm_n, q_sm_l, q_c1_0, q_c1_i, q_c1_r, q_c1_n, Nat.zero_add, Nat.reduceAdd, Nat.reduceMul, Nat.reduceSub, Nat.reduceLeDiff, Nat.reduceLT, Nat.reduceEqDiff, true_and, and_true, not_false_eq_true, if_true, if_false, ite_true, ite_false, or_true, true_or, or_false, false_or, not_true_eq_false, e1]
    exact hK x5 h5
  | i + 1, x5, h5, hi, hK => by
    have e : i < N := by omega
    have e2 : z_ct (i + 1) = nI i := rfl
    have hb := z_bd_r (z_sb_bd hw (n := N) (r := r) (k := g) (t := t) (d := i) hr5) (by omega)
    have hb2 := z_bd_r (z_L_bd hw (n := N) (r + 1) g t (by omega)) (by omega)
    have e3 := jI_eq (a := z_sb w N r g t i) (b := z_far) hb.1 hb.2.1 (by decide) (by decide)
    have e4 := jI_eq (a := z_sb w N r g t i) (b := z_L w N (r + 1) g t) hb.1 hb.2.1 hb2.1 hb2.2.1
    have rec2 := fun x5 h5 => l_fl1 hw hN ht hg hr5 h0 h15 hr h16 d i x5 h5 (by omega) hK
    have em : N - i = (N - (i + 1)) + 1 := by omega
    rw [em, show z_min (z_pk (z_sb w N r g t) (z_L w N (r + 1) g t)) ((N - (i + 1)) + 1) i = if z_pk (z_sb w N r g t) (z_L w N (r + 1) g t) i = true then i else z_min (z_pk (z_sb w N r g t) (z_L w N (r + 1) g t)) (N - (i + 1)) (i + 1) from rfl] at rec2
    rw [e2, u19_28]
    by_cases q1 : z_sb w N r g t i = z_far
    · rw [if_neg (fun e => (z_pkT.mp e).1 q1)] at rec2
      have q1' : jI (z_sb w N r g t i) = jI z_far := by rw [q1]
      simp only [u19_30, u19_33, u19_34, u19_35, u19_36, u19_38, u19_41, u19_43, u19_45, u19_47, u19_50, u19_52, u19_53, u19_56, u19_57, u19_60, u19_63, u19_65, u19_66, u19_69, q_push_s, q_push_n, q_sm_0, q_sm_i, q_sm_r, q_sm_n, q_sm_l, q_c1_0, q_c1_i, q_c1_r, q_c1_n, Nat.zero_add, Nat.reduceAdd, Nat.reduceMul, Nat.reduceSub, Nat.reduceLeDiff, Nat.reduceLT, Nat.reduceEqDiff, true_and, and_true, not_false_eq_true, if_true, if_false, ite_true, ite_false, or_true, true_or, or_false, false_or, not_true_eq_false, n_lt0 (j := i) (by omega), io1, c_sumBy hw hN ht hg e hr5 h0 (h15 i e) (hr i e), jI_far, q1', eq_self, z_ct_s, Nat.zero_le, Nat.reduceLeDiff]
      exact rec2 _ (of_eq_true (q_c1_i _))
    · by_cases q2 : z_sb w N r g t i = z_L w N (r + 1) g t
      · rw [if_pos (z_pkT.mpr ⟨q1, q2⟩)] at rec2
        simp only [u19_30, u19_33, u19_34, u19_35, u19_36, u19_38, u19_41, u19_43, u19_45, u19_47, u19_50, u19_52, u19_53, u19_56, u19_57, u19_60, u19_63, u19_65, u19_66, u19_69, q_push_s, q_push_n, q_sm_0, q_sm_i, q_sm_r, q_sm_n, q_sm_l, q_c1_0, q_c1_i, q_c1_r, q_c1_n, Nat.zero_add, Nat.reduceAdd, Nat.reduceMul, Nat.reduceSub, Nat.reduceLeDiff, Nat.reduceLT, Nat.reduceEqDiff, true_and, and_true, not_false_eq_true, if_true, if_false, ite_true, ite_false, or_true, true_or, or_false, false_or, not_true_eq_false, n_lt0 (j := i) (by omega), io1, c_sumBy hw hN ht hg e hr5 h0 (h15 i e) (hr i e), jI_far, e3, q1, gf1_3, c_at (j := t) sh16 (by decide) (by decide) ht, h16, e4, eq_true q2, z_ct_s, Nat.zero_le, Nat.reduceLeDiff]
        exact rec2 _ (of_eq_true (q_c1_i _))
      · rw [if_neg (fun e => q2 (z_pkT.mp e).2)] at rec2
        simp only [u19_30, u19_33, u19_34, u19_35, u19_36, u19_38, u19_41, u19_43, u19_45, u19_47, u19_50, u19_52, u19_53, u19_56, u19_57, u19_60, u19_63, u19_65, u19_66, u19_69, q_push_s, q_push_n, q_sm_0, q_sm_i, q_sm_r, q_sm_n, q_sm_l, q_c1_0, q_c1_i, q_c1_r, q_c1_n, Nat.zero_add, Nat.reduceAdd, Nat.reduceMul, Nat.reduceSub, Nat.reduceLeDiff, Nat.reduceLT, Nat.reduceEqDiff, true_and, and_true, not_false_eq_true, if_true, if_false, ite_true, ite_false, or_true, true_or, or_false, false_or, not_true_eq_false, n_lt0 (j := i) (by omega), io1, c_sumBy hw hN ht hg e hr5 h0 (h15 i e) (hr i e), jI_far, e3, q1, gf1_3, c_at (j := t) sh16 (by decide) (by decide) ht, h16, e4, q2, z_ct_s, Nat.zero_le, Nat.reduceLeDiff]
        exact rec2 _ (of_eq_true (q_c1_i _))
end
