/-! ===== fits, next, fewest ===== -/
theorem z_gd_o (c : Nat → Nat) (n : Nat) : ∀ r k t dd i, i < k → z_gd c n r k t dd i = dd i
  | 0, _, _, _, _, _ => rfl
  | r + 1, k, t, dd, i, h => by
    refine (z_gd_o c n r (k + 1) _ _ i (by omega)).trans ?_
    exact if_neg (by omega)
theorem z_gd_lt (c : Nat → Nat) {n : Nat} (hn : 0 < n) : ∀ r k t dd, (∀ i, dd i < n) → ∀ i, z_gd c n r k t dd i < n
  | 0, _, _, _, h, i => h i
  | r + 1, k, t, dd, h, i => by
    refine z_gd_lt c hn r (k + 1) _ _ (fun i => ?_) i
    show (if i = k then z_min _ n 0 else dd i) < n
    split
    · exact z_min_lt _ hn n 0 (by omega)
    · exact h i
theorem z_dg_c {dr dr2 : Nat → Nat} : ∀ n, (∀ i, i < n → dr i = dr2 i) → z_dg dr n = z_dg dr2 n
  | 0, _ => rfl
  | n + 1, h => by
    show z_dg dr n * 10 + dr n + 1 = z_dg dr2 n * 10 + dr2 n + 1
    rw [z_dg_c n (fun i hi => h i (by omega)), h n (by omega)]
section
variable {T : List Nat} {L : Nat} {s : ZS} {tx : Nat → Nat → List Nat} {n : Nat} {h : ZH} {m : q_M} {K : Option Value → q_G → q_M → Prop}
/-- the first of whom the others can be played -/
theorem l_ff1 {N t r k : Nat} {c : Nat → Nat} {x1 : Option Value} (hN : N ≤ 6) (ht64 : t < 64) (hk : k < N) (hr6 : r ≤ 6) (hck : c k < 64) (h0 : m 3 0 = nI N) (hr : ∀ d, d < N → t / 2 ^ d % 2 = 0 → m 16 (t ||| 2 ^ d) = nI (z_W c N r (k + 1) (t ||| 2 ^ d))) (d : Nat) : ∀ i, i ≤ N → (q_R 15 95 (d + 1) [some (.ref 1), some (.int (nI t)), x1, some (.int (nI (c k &&& (63 ^^^ t)))), some (.int (nI (z_min (fun d => decide (0 < z_w c N r k t d)) N 0))), some (.int (-1 : Int32))] [] (GG T L) m K) →
    q_R 15 55 (d + 1) [some (.ref 1), some (.int (nI t)), x1, some (.int (nI (c k &&& (63 ^^^ t)))), some (.int (nI (z_min (fun d => decide (0 < z_w c N r k t d)) (N - i) i))), some (.int (z_ct i))] [] (GG T L) m K
  | 0, hi, hK => by
    have e1 : ((-1 : Int32) < nI 0) = True := eq_true (by decide)
    have e2 : z_ct 0 = (-1 : Int32) := rfl
    rw [e2, Nat.sub_zero]
    simp only [u15_55, u15_57, q_push_s, q_push_n, q_sm_0, q_sm_i, q_sm_r, q_sm_n, q_sm_l, q_c1_0, q_c1_i, q_c1_r, q_c1_n, Nat.zero_add, Nat.reduceAdd, Nat.reduceMul, Nat.reduceSub, Nat.reduceLeDiff, Nat.reduceLT, Nat.reduceEqDiff, true_and, and_true, not_false_eq_true, if_true, if_false, ite_true, ite_false, or_true, true_or, or_false, false_or, not_true_eq_false, e1]
    exact hK
  | i + 1, hi, hK => by
    have e : i < N := by omega
    have e2 : z_ct (i + 1) = nI i := rfl
    obtain ⟨q1, q2⟩ := z_fr (c k) hck t ht64
    have qb := z_frb (c k) hck t ht64 i (by omega)
    have hdl : (c k &&& (63 ^^^ t)) / 2 ^ i ≤ c k &&& (63 ^^^ t) := Nat.div_le_self _ _
    have n_and1 : nI ((c k &&& (63 ^^^ t)) / 2 ^ i) &&& nI 1 = nI ((c k &&& (63 ^^^ t)) / 2 ^ i % 2) := pk_andN (by omega) 1 (by decide +kernel)
    have e0 := n_eq (i := (c k &&& (63 ^^^ t)) / 2 ^ i % 2) (j := 0) (by omega) (by decide)
    have hor := (z_popb t ht64 i (by omega)).2
    have hwb := z_W_b (c := c) (n := N) (r := r) (k := k + 1) (t := t ||| 2 ^ i) hN hr6
    have rec2 := l_ff1 (x1 := x1) hN ht64 hk hr6 hck h0 hr d i (by omega) hK
    have em : N - i = (N - (i + 1)) + 1 := by omega
    rw [em, show z_min (fun d => decide (0 < z_w c N r k t d)) ((N - (i + 1)) + 1) i = if decide (0 < z_w c N r k t i) = true then i else z_min (fun d => decide (0 < z_w c N r k t d)) (N - (i + 1)) (i + 1) from rfl] at rec2
    rw [e2, u15_55]
    by_cases q : (c k &&& (63 ^^^ t)) / 2 ^ i % 2 = 0
    · have qw : z_w c N r k t i = 0 := by
        unfold z_w
        rw [if_neg]
        rw [Bool.and_eq_true, decide_eq_true_iff, z_cbT]
        exact qb.mp q
      rw [qw, if_neg (by decide)] at rec2
      simp only [u15_57, u15_60, u15_61, u15_63, u15_64, u15_65, u15_66, u15_69, u15_70, u15_73, u15_74, u15_75, u15_77, u15_78, u15_79, u15_82, u15_85, u15_87, u15_89, u15_92, q_push_s, q_push_n, q_sm_0, q_sm_i, q_sm_r, q_sm_n, q_sm_l, q_c1_0, q_c1_i, q_c1_r, q_c1_n, Nat.zero_add, Nat.reduceAdd, Nat.reduceMul, Nat.reduceSub, Nat.reduceLeDiff, Nat.reduceLT, Nat.reduceEqDiff, true_and, and_true, not_false_eq_true, if_true, if_false, ite_true, ite_false, or_true, true_or, or_false, false_or, not_true_eq_false, n_lt0 (j := i) (by omega), n_shr (a := c k &&& (63 ^^^ t)) (k := i) (by omega) (by omega), n_and1, e0, q, z_ct_s]
      exact rec2
    · have qq : t / 2 ^ i % 2 = 0 ∧ c k / 2 ^ i % 2 = 1 := Classical.not_not.mp (fun e => q (qb.mpr e))
      have qw : z_w c N r k t i = z_W c N r (k + 1) (t ||| 2 ^ i) := by
        unfold z_w
        rw [if_pos]
        rw [Bool.and_eq_true, decide_eq_true_iff, z_cbT]
        exact qq
      rw [qw] at rec2
      by_cases q3 : 0 < z_W c N r (k + 1) (t ||| 2 ^ i)
      · have q4 : ¬ z_W c N r (k + 1) (t ||| 2 ^ i) ≤ 0 := by omega
        rw [if_pos (decide_eq_true q3)] at rec2
        simp only [u15_57, u15_60, u15_61, u15_63, u15_64, u15_65, u15_66, u15_69, u15_70, u15_73, u15_74, u15_75, u15_77, u15_78, u15_79, u15_82, u15_85, u15_87, u15_89, u15_92, q_push_s, q_push_n, q_sm_0, q_sm_i, q_sm_r, q_sm_n, q_sm_l, q_c1_0, q_c1_i, q_c1_r, q_c1_n, Nat.zero_add, Nat.reduceAdd, Nat.reduceMul, Nat.reduceSub, Nat.reduceLeDiff, Nat.reduceLT, Nat.reduceEqDiff, true_and, and_true, not_false_eq_true, if_true, if_false, ite_true, ite_false, or_true, true_or, or_false, false_or, not_true_eq_false, gf1_3, n_lt0 (j := i) (by omega), n_shr (a := c k &&& (63 ^^^ t)) (k := i) (by omega) (by omega), n_and1, e0, q, n_s1 i (by omega), n_or, c_at (j := t ||| 2 ^ i) sh16 (by decide) (by decide) hor, hr i e qq.1, n_le (i := z_W c N r (k + 1) (t ||| 2 ^ i)) (j := 0) hwb (by decide), q4, z_ct_s, Nat.zero_le, Nat.reduceLeDiff]
        exact rec2
      · have q4 : z_W c N r (k + 1) (t ||| 2 ^ i) ≤ 0 := by omega
        rw [if_neg (fun e => q3 (of_decide_eq_true e))] at rec2
        simp only [u15_57, u15_60, u15_61, u15_63, u15_64, u15_65, u15_66, u15_69, u15_70, u15_73, u15_74, u15_75, u15_77, u15_78, u15_79, u15_82, u15_85, u15_87, u15_89, u15_92, q_push_s, q_push_n, q_sm_0, q_sm_i, q_sm_r, q_sm_n, q_sm_l, q_c1_0, q_c1_i, q_c1_r, q_c1_n, Nat.zero_add, Nat.reduceAdd, Nat.reduceMul, Nat.reduceSub, Nat.reduceLeDiff, Nat.reduceLT, Nat.reduceEqDiff, true_and, and_true, not_false_eq_true, if_true, if_false, ite_true, ite_false, or_true, true_or, or_false, false_or, not_true_eq_false, gf1_3, n_lt0 (j := i) (by omega), n_shr (a := c k &&& (63 ^^^ t)) (k := i) (by omega) (by omega), n_and1, e0, q, n_s1 i (by omega), n_or, c_at (j := t ||| 2 ^ i) sh16 (by decide) (by decide) hor, hr i e qq.1, n_le (i := z_W c N r (k + 1) (t ||| 2 ^ i)) (j := 0) hwb (by decide), q4, z_ct_s, Nat.zero_le, Nat.reduceLeDiff]
        exact rec2
theorem z_w_pos {c : Nat → Nat} {n r k t d : Nat} (h : 0 < z_w c n r k t d) : t / 2 ^ d % 2 = 0 := by
  unfold z_w at h
  by_cases q : (decide (t / 2 ^ d % 2 = 0) && z_cb c k d) = true
  · rw [Bool.and_eq_true, decide_eq_true_iff] at q
    exact q.1
  · rw [if_neg q] at h
    exact absurd h (by decide)
theorem z_fo_pos (w : Nat → Nat) : ∀ c i, 0 < z_fo (fun d a => a + w d) c i 0 → 0 < w (z_min (fun d => decide (0 < w d)) c i)
  | 0, _, h => absurd h (by show ¬ 0 < 0; decide)
  | c + 1, i, h => by
    have e1 : z_fo (fun d a => a + w d) (c + 1) i 0 = w i + z_fo (fun d a => a + w d) c (i + 1) 0 := by
      show z_fo (fun d a => a + w d) c (i + 1) (0 + w i) = _
      rw [z_fo_sum, Nat.zero_add]
    rw [e1] at h
    rw [show z_min (fun d => decide (0 < w d)) (c + 1) i = if decide (0 < w i) = true then i else z_min (fun d => decide (0 < w d)) c (i + 1) from rfl]
    by_cases q : 0 < w i
    · rw [if_pos (decide_eq_true q)]; exact q
    · rw [if_neg (fun e => q (of_decide_eq_true e))]
      exact z_fo_pos w c (i + 1) (by omega)
theorem l_ff2 {N : Nat} {c : Nat → Nat} (hN : N ≤ 6) (hc : ∀ g, g < N → c g < 64) (d : Nat) : ∀ r k t dd m x3 x4 x5, q_c1 x3 = true → q_c1 x4 = true → q_c1 x5 = true → k + r = N → t < 2 ^ N → z_pop t = k → 0 < z_W c N r k t → m 3 0 = nI N → (∀ g, g < N → m 17 g = nI (c g)) → (∀ t, t < 2 ^ N → m 16 t = nI (z_W c N (N - z_pop t) (z_pop t) t)) → (∀ i, i < k → m 18 i = nI (dd i)) → (∀ m', (∀ p, p ≠ 18 → m' p = m p) → K (some (.int (nI (z_dg (z_gd c N r k t dd) N)))) (GG T L) m') →
    q_R 15 17 (d + 2) [some (.ref 1), some (.int (nI t)), some (.int (nI k)), x3, x4, x5] [] (GG T L) m K
  | 0, k, t, dd, m, x3, x4, x5, h3, h4, h5, hk, ht, hp, hw, h0, hch, hr, hd, hK => by
    have e : k = N := by omega
    subst e
    simp only [u15_17, u15_18, u15_19, u15_22, u15_25, u15_118, u15_119, u15_122, q_push_s, q_push_n, q_sm_0, q_sm_i, q_sm_r, q_sm_n, q_sm_l, q_c1_0, q_c1_i, q_c1_r, q_c1_n, Nat.zero_add, Nat.reduceAdd, Nat.reduceMul, Nat.reduceSub, Nat.reduceLeDiff, Nat.reduceLT, Nat.reduceEqDiff, true_and, and_true, not_false_eq_true, if_true, if_false, ite_true, ite_false, or_true, true_or, or_false, false_or, not_true_eq_false, gf1_1, gf3_0, h0, n_lt (i := k) (j := k) (by omega) (by omega), Nat.lt_irrefl, io1, c_digits hN h0 hd, Nat.zero_le, Nat.reduceLeDiff]
    exact hK m (fun _ _ => rfl)
  | r + 1, k, t, dd, m, x3, x4, x5, h3, h4, h5, hk, ht, hp, hw, h0, hch, hr, hd, hK => by
    have e : k < N := by omega
    have h64 : 2 ^ N ≤ 64 := Nat.pow_le_pow_right (by decide) (show N ≤ 6 from hN)
    have hck := hc k e
    obtain ⟨q1, q2⟩ := z_fr (c k) hck t (by omega)
    rw [z_W_s] at hw
    have hpos := z_fo_pos (z_w c N r k t) N 0 hw
    have hch0 := z_min_lt (fun d => decide (0 < z_w c N r k t d)) (n := N) (by omega) N 0 (by omega)
    have hb := z_w_pos hpos
    generalize hcg : z_min (fun d => decide (0 < z_w c N r k t d)) N 0 = ch at hpos hch0 hb
    rw [u15_17]
    simp only [u15_18, u15_19, u15_22, u15_25, u15_28, u15_29, u15_32, u15_33, u15_36, u15_37, u15_38, u15_39, u15_40, u15_41, u15_42, u15_44, u15_45, u15_48, u15_51, u15_52, u15_53, q_push_s, q_push_n, q_sm_0, q_sm_i, q_sm_r, q_sm_n, q_sm_l, q_c1_0, q_c1_i, q_c1_r, q_c1_n, Nat.zero_add, Nat.reduceAdd, Nat.reduceMul, Nat.reduceSub, Nat.reduceLeDiff, Nat.reduceLT, Nat.reduceEqDiff, true_and, and_true, not_false_eq_true, if_true, if_false, ite_true, ite_false, or_true, true_or, or_false, false_or, not_true_eq_false, gf1_1, gf1_4, gf3_0, h0, n_lt (i := k) (j := N) (by omega) (by omega), e, c_at (j := k) sh17 (by decide) (by decide) (show k < 6 by omega), hch k e, q1, z_ct_n, Nat.zero_le, Nat.reduceLeDiff]
    have hin := l_ff1 (T := T) (L := L) (K := K) (m := m) (r := r) (x1 := some (.int (nI k))) hN (show t < 64 by omega) e (by omega) hck h0 (fun dd' hd' hb' => by
      have hpo := (z_popb t (by omega) dd' (by omega)).1
      rw [if_pos hb', hp] at hpo
      have hor : t ||| 2 ^ dd' < 2 ^ N := Nat.or_lt_two_pow ht (Nat.pow_lt_pow_right (by decide) hd')
      rw [hr (t ||| 2 ^ dd') hor, hpo, show N - (k + 1) = r by omega]) (d + 1) N (Nat.le_refl N)
    rw [Nat.sub_self] at hin
    refine hin ?_
    rw [hcg]
    simp only [u15_95, u15_96, u15_99, u15_100, u15_102, u15_105, u15_106, u15_107, u15_109, u15_110, u15_111, u15_112, u15_115, q_push_s, q_push_n, q_sm_0, q_sm_i, q_sm_r, q_sm_n, q_sm_l, q_c1_0, q_c1_i, q_c1_r, q_c1_n, Nat.zero_add, Nat.reduceAdd, Nat.reduceMul, Nat.reduceSub, Nat.reduceLeDiff, Nat.reduceLT, Nat.reduceEqDiff, true_and, and_true, not_false_eq_true, if_true, if_false, ite_true, ite_false, or_true, true_or, or_false, false_or, not_true_eq_false, gf1_5, c_put (j := k) sh18 (by decide) (by decide) (show k < 6 by omega), n_s1 ch (by omega), n_or, n_add, Nat.zero_le, Nat.reduceLeDiff]
    have hpo := (z_popb t (by omega) ch (by omega)).1
    rw [if_pos hb, hp] at hpo
    have hor : t ||| 2 ^ ch < 2 ^ N := Nat.or_lt_two_pow ht (Nat.pow_lt_pow_right (by decide) hch0)
    have hW : 0 < z_W c N r (k + 1) (t ||| 2 ^ ch) := by
      have := hpos
      unfold z_w at this
      by_cases q : (decide (t / 2 ^ ch % 2 = 0) && z_cb c k ch) = true
      · rw [if_pos q] at this; exact this
      · rw [if_neg q] at this; exact absurd this (by decide)
    refine l_ff2 hN hc d r (k + 1) (t ||| 2 ^ ch) (fun i => if i = k then ch else dd i) _ _ _ _ (of_eq_true (q_c1_i _)) (of_eq_true (q_c1_i _)) (of_eq_true (q_c1_i _)) (by omega) hor hpo hW (by rw [q_up_f _ _ _ (by decide)]; exact h0) (fun g hg => by rw [q_up_f _ _ _ (by decide)]; exact hch g hg) (fun t' ht' => by rw [q_up_f _ _ _ (by decide)]; exact hr t' ht') (fun i hi => ?_) (fun m' f1 => ?_)
    · by_cases q : i = k
      · rw [q, q_up_eq, if_pos rfl]
      · rw [q_up_i _ _ q, if_neg q]; exact hd i (by omega)
    · have := hK m' (fun p hp => (f1 p hp).trans (q_up_f _ _ _ hp))
      rw [show z_gd c N (r + 1) k t dd = z_gd c N r (k + 1) (t ||| 2 ^ z_min (fun d => decide (0 < z_w c N r k t d)) N 0) (fun i => if i = k then z_min (fun d => decide (0 < z_w c N r k t d)) N 0 else dd i) from rfl, hcg] at this
      exact this
theorem c_ff {d mt : Nat} (l : CJ T L s tx n h m) (g17 : ∀ g, g < s.1 0 → m 17 g = nI (z_may tx s g mt)) (g16 : ∀ t, t < 2 ^ s.1 0 → m 16 t = nI (z_W (fun g => z_may tx s g mt) (s.1 0) (s.1 0 - z_pop t) (z_pop t) t)) (hK : ∀ m', (∀ p, p ≠ 18 → m' p = m p) → K (some (.int (nI (z_ff tx s mt)))) (GG T L) m') : q_C 15 (d + 2) [.ref 1] (GG T L) m K := by
  have h6 := l.bz.1
  have h1 : 0 < 2 ^ s.1 0 := Nat.two_pow_pos _
  have e3 : z_pop 0 = 0 := by decide +kernel
  have e4 := g16 0 h1
  rw [e3, Nat.sub_zero] at e4
  have hb := z_W_b (c := fun g => z_may tx s g mt) (n := s.1 0) (r := s.1 0) (k := 0) (t := 0) h6 h6
  unfold z_ff z_fit at hK
  by_cases q : 0 < z_W (fun g => z_may tx s g mt) (s.1 0) (s.1 0) 0 0
  · rw [if_pos q] at hK
    have e5 := n_eq (i := z_W (fun g => z_may tx s g mt) (s.1 0) (s.1 0) 0 0) (j := 0) hb (by decide)
    have e6 : ¬ z_W (fun g => z_may tx s g mt) (s.1 0) (s.1 0) 0 0 = 0 := by omega
    simp only [e15, u15_0, u15_1, u15_4, u15_5, u15_8, u15_11, u15_12, u15_13, u15_14, u15_15, u15_16, q_push_s, q_push_n, q_sm_0, q_sm_i, q_sm_r, q_sm_n, q_sm_l, q_c1_0, q_c1_i, q_c1_r, q_c1_n, Nat.zero_add, Nat.reduceAdd, Nat.reduceMul, Nat.reduceSub, Nat.reduceLeDiff, Nat.reduceLT, Nat.reduceEqDiff, true_and, and_true, not_false_eq_true, if_true, if_false, ite_true, ite_false, or_true, true_or, or_false, false_or, not_true_eq_false, gf1_3, c_at (j := 0) sh16 (by decide) (by decide) (by decide), e4, e5, e6, Nat.zero_le, Nat.reduceLeDiff]
    exact l_ff2 (c := fun g => z_may tx s g mt) h6 (fun g _ => z_may_lt tx h6 g mt) d (s.1 0) 0 0 (fun _ => 0) m _ _ _ (of_eq_true q_c1_0) (of_eq_true q_c1_0) (of_eq_true q_c1_0) (by omega) h1 e3 q l.cl.n g17 g16 (fun i hi => absurd hi (Nat.not_lt_zero i)) hK
  · rw [if_neg q] at hK
    have e6 : z_W (fun g => z_may tx s g mt) (s.1 0) (s.1 0) 0 0 = 0 := by omega
    rw [e6] at e4
    simp only [e15, u15_0, u15_1, u15_4, u15_5, u15_8, u15_11, u15_12, q_push_s, q_push_n, q_sm_0, q_sm_i, q_sm_r, q_sm_n, q_sm_l, q_c1_0, q_c1_i, q_c1_r, q_c1_n, Nat.zero_add, Nat.reduceAdd, Nat.reduceMul, Nat.reduceSub, Nat.reduceLeDiff, Nat.reduceLT, Nat.reduceEqDiff, true_and, and_true, not_false_eq_true, if_true, if_false, ite_true, ite_false, or_true, true_or, or_false, false_or, not_true_eq_false, gf1_3, c_at (j := 0) sh16 (by decide) (by decide) (by decide), e4, Nat.zero_le, Nat.reduceLeDiff]
    exact hK m (fun _ _ => rfl)
/-! the reference's -/
/-- what the reference's draws may change -/
def FV (m m' : q_M) : Prop := (∀ k, k ≠ 38 → ¬ (52 ≤ k ∧ k < 58) → m' k = m k) ∧ ∀ f, f < 21 → m' 38 f = m 38 f
theorem FV.refl (m : q_M) : FV m m := ⟨fun _ _ _ => rfl, fun _ _ => rfl⟩
theorem FV.trans {a b c : q_M} (h : FV a b) (h' : FV b c) : FV a c := ⟨fun k h1 h2 => (h'.1 k h1 h2).trans (h.1 k h1 h2), fun f hf => (h'.2 f hf).trans (h.2 f hf)⟩
theorem FM.fv {a b : q_M} (h : FM a b) : FV a b := ⟨fun k h1 h2 => h.1 k h1 (by omega), h.2⟩
theorem FV.up {p : Nat} (hp : 52 ≤ p ∧ p < 58) (i : Nat) (v : Int32) (m : q_M) : FV m (q_up m p i v) := ⟨fun k _ h2 => q_up_f _ _ _ (by omega), fun f _ => by rw [q_up_f _ _ _ (by omega)]⟩
theorem FV.up38 {f : Nat} (hf : 21 ≤ f) (v : Int32) (m : q_M) : FV m (q_up m 38 f v) := ⟨fun k h1 _ => q_up_f _ _ _ h1, fun f' hf' => q_up_i _ _ (by omega) _⟩
theorem FV.of56 {a b : q_M} (h : ∀ p, p ≠ 56 → b p = a p) : FV a b := ⟨fun k _ h2 => h k (by omega), fun f _ => by rw [h 38 (by decide)]⟩
theorem FV.fr {a b : q_M} (h : FV a b) : FR a b := ⟨fun k h1 _ h3 => h.1 k h3 (by unfold z_scr at h1; omega), by rw [h.1 26 (by decide) (by decide)], h.2⟩
theorem RJ.fv {m' : q_M} (l : RJ s tx n h m) (f : FV m m') : RJ s tx n h m' := by
  obtain ⟨a, c, e, i, j⟩ := l
  exact ⟨a, c.fr (f.2 0 (by decide)) (f.2 5 (by decide)) (f.2 11 (by decide)) (fun k h1 h2 => f.1 k (by omega) (by omega)), e.fr (f.1 44 (by decide) (by decide)) (f.1 45 (by decide) (by decide)), i.fr (fun k h1 h2 => f.1 k (by omega) (by omega)), (f.2 10 (by decide)).trans j⟩
theorem l_fm1 {mt : Nat} (hm : mt < 16) (x2 : Option Value) (d : Nat) : ∀ c i m, i + c = s.1 0 → RJ s tx n h m → (∀ m', FV m m' → m' 38 36 = m 38 36 → RJ s tx n h m' → (∀ g, g < s.1 0 → m' 55 g = if i ≤ g then nI (z_may tx s g mt) else m 55 g) → q_R 164 35 (d + 6) [some (.ref 38), some (.int (nI mt)), x2, some (.int (nI (s.1 0))), none, none] [] (GG T L) m' K) → q_c1 x2 = true →
    q_R 164 9 (d + 6) [some (.ref 38), some (.int (nI mt)), x2, some (.int (nI i)), none, none] [] (GG T L) m K
  | 0, i, m, hi, l, hK, h2 => by
    have h6 := l.bz.1
    have e : i = s.1 0 := by omega
    have e2 : ¬ i < s.1 0 := by omega
    simp only [u164_9, u164_10, u164_11, u164_14, q_push_s, q_push_n, q_sm_0, q_sm_i, q_sm_r, q_sm_n, q_sm_l, q_c1_0, q_c1_i, q_c1_r, q_c1_n, Nat.zero_add, Nat.reduceAdd, Nat.reduceMul, Nat.reduceSub, Nat.reduceLeDiff, Nat.reduceLT, Nat.reduceEqDiff, true_and, and_true, not_false_eq_true, if_true, if_false, ite_true, ite_false, or_true, true_or, or_false, false_or, not_true_eq_false, gf38_0, l.mo.n, n_lt (i := i) (j := s.1 0) (by omega) (by omega), e2]
    have := hK m (FV.refl m) rfl l (fun g hg => by rw [if_neg (by omega)])
    rw [← e] at this
    exact this
  | c + 1, i, m, hi, l, hK, h2 => by
    have h6 := l.bz.1
    have e : i < s.1 0 := by omega
    have ci : (nI i).toNatClampNeg = i := n_cl (by omega)
    rw [u164_9]
    simp only [u164_10, u164_11, u164_14, u164_17, u164_18, u164_21, u164_22, u164_23, u164_24, u164_25, q_push_s, q_push_n, q_sm_0, q_sm_i, q_sm_r, q_sm_n, q_sm_l, q_c1_0, q_c1_i, q_c1_r, q_c1_n, Nat.zero_add, Nat.reduceAdd, Nat.reduceMul, Nat.reduceSub, Nat.reduceLeDiff, Nat.reduceLT, Nat.reduceEqDiff, true_and, and_true, not_false_eq_true, if_true, if_false, ite_true, ite_false, or_true, true_or, or_false, false_or, not_true_eq_false, gf38_0, gf38_34, l.mo.n, n_lt (i := i) (j := s.1 0) (by omega) (by omega), e, io38, Nat.zero_le, Nat.reduceLeDiff]
    refine l.mayOf (d := d) e hm (fun m1 f1 l1 => ?_)
    have e55 : m1 55 = m 55 := f1 55 (by decide)
    have e38 : m1 38 = m 38 := f1 38 (by decide)
    simp only [u164_28, u164_29, u164_32, q_push_s, q_push_n, q_sm_0, q_sm_i, q_sm_r, q_sm_n, q_sm_l, q_c1_0, q_c1_i, q_c1_r, q_c1_n, Nat.zero_add, Nat.reduceAdd, Nat.reduceMul, Nat.reduceSub, Nat.reduceLeDiff, Nat.reduceLT, Nat.reduceEqDiff, true_and, and_true, not_false_eq_true, if_true, if_false, ite_true, ite_false, or_true, true_or, or_false, false_or, not_true_eq_false, is55 (i := i) (by omega), ci, n_add, h2]
    have fa := f1.fm.fv.trans (FV.up (p := 55) (by decide) i (nI (z_may tx s i mt)) m1)
    refine l_fm1 hm x2 d c (i + 1) _ (by omega) (l.fv fa) (fun m' f' g36 l' g' => hK m' (fa.trans f') ?_ l' (fun g hg => ?_)) h2
    · rw [g36, q_up_f _ _ _ (by decide), e38]
    · rw [g' g hg]
      by_cases q : g = i
      · subst q; rw [if_neg (by omega), if_pos (by omega), q_up_eq]
      · rw [q_up_i _ _ q, e55]
        by_cases q2 : i ≤ g
        · rw [if_pos q2, if_pos (by omega)]
        · rw [if_neg q2, if_neg (by omega)]
/-- whether a draw fits -/
theorem l_fm2 {N : Nat} {c dd : Nat → Nat} {x1 x2 : Option Value} {x3 : Int32} (hN : N ≤ 6) (hc : ∀ g, g < N → c g < 64) (hdd : ∀ g, g < N → dd g < N) (h0 : m 38 0 = nI N) (h55 : ∀ g, g < N → m 55 g = nI (c g)) (h56 : ∀ g, g < N → m 56 g = nI (dd g)) (d : Nat) : ∀ cc i (p : Prop), i + cc = N → (∀ p', (p' ↔ (p ∧ ∀ g, g < N → i ≤ g → z_cb c g (dd g) = true)) → q_R 164 105 d [some (.ref 38), x1, x2, some (.int x3), some (.int (z_b p')), some (.int (nI N))] [] (GG T L) m K) →
    q_R 164 59 d [some (.ref 38), x1, x2, some (.int x3), some (.int (z_b p)), some (.int (nI i))] [] (GG T L) m K
  | 0, i, p, hi, hK => by
    have e : i = N := by omega
    subst e
    simp only [u164_59, u164_61, u164_62, u164_65, q_push_s, q_push_n, q_sm_0, q_sm_i, q_sm_r, q_sm_n, q_sm_l, q_c1_0, q_c1_i, q_c1_r, q_c1_n, Nat.zero_add, Nat.reduceAdd, Nat.reduceMul, Nat.reduceSub, Nat.reduceLeDiff, Nat.reduceLT, Nat.reduceEqDiff, true_and, and_true, not_false_eq_true, if_true, if_false, ite_true, ite_false, or_true, true_or, or_false, false_or, not_true_eq_false, gf38_0, h0, n_lt (i := i) (j := i) (by omega) (by omega), Nat.lt_irrefl]
    exact hK p ⟨fun a => ⟨a, fun g h1 h2 => absurd h1 (by omega)⟩, fun a => a.1⟩
  | cc + 1, i, p, hi, hK => by
    have e : i < N := by omega
    have hci := hc i e
    have hdi := hdd i e
    have hdl : c i / 2 ^ dd i ≤ c i := Nat.div_le_self _ _
    have n_and1 : nI (c i / 2 ^ dd i) &&& nI 1 = nI (c i / 2 ^ dd i % 2) := pk_andN (by omega) 1 (by decide +kernel)
    have e1 := n_eq (i := c i / 2 ^ dd i % 2) (j := 1) (by omega) (by decide)
    have fin : ∀ q : Prop, (q ↔ z_cb c i (dd i) = true) → q_R 164 96 d [some (.ref 38), x1, x2, some (.int x3), some (.int (z_b p)), some (.int (nI i))] [.int (z_b q), .int (z_b p)] (GG T L) m K := by
      intro q hq
      simp only [u164_96, u164_97, u164_99, u164_102, q_push_s, q_push_n, q_sm_0, q_sm_i, q_sm_r, q_sm_n, q_sm_l, q_c1_0, q_c1_i, q_c1_r, q_c1_n, Nat.zero_add, Nat.reduceAdd, Nat.reduceMul, Nat.reduceSub, Nat.reduceLeDiff, Nat.reduceLT, Nat.reduceEqDiff, true_and, and_true, not_false_eq_true, if_true, if_false, ite_true, ite_false, or_true, true_or, or_false, false_or, not_true_eq_false, z_b_and, n_add]
      refine l_fm2 hN hc hdd h0 h55 h56 d cc (i + 1) (p ∧ q) (by omega) (fun p' hp' => hK p' ⟨fun a => ?_, fun a => ?_⟩)
      · obtain ⟨⟨a1, a2⟩, a3⟩ := hp'.mp a
        refine ⟨a1, fun g h1 h2 => ?_⟩
        by_cases eg : g = i
        · rw [eg]; exact hq.mp a2
        · exact a3 g h1 (by omega)
      · exact hp'.mpr ⟨⟨a.1, hq.mpr (a.2 i e (Nat.le_refl i))⟩, fun g h1 h2 => a.2 g h1 (by omega)⟩
    rw [u164_59]
    simp only [u164_61, u164_62, u164_65, u164_68, u164_70, u164_71, u164_74, u164_76, u164_77, u164_78, u164_81, u164_83, u164_84, u164_85, u164_86, u164_87, u164_88, u164_91, u164_92, u164_95, q_push_s, q_push_n, q_sm_0, q_sm_i, q_sm_r, q_sm_n, q_sm_l, q_c1_0, q_c1_i, q_c1_r, q_c1_n, Nat.zero_add, Nat.reduceAdd, Nat.reduceMul, Nat.reduceSub, Nat.reduceLeDiff, Nat.reduceLT, Nat.reduceEqDiff, true_and, and_true, not_false_eq_true, if_true, if_false, ite_true, ite_false, or_true, true_or, or_false, false_or, not_true_eq_false, gf38_0, gf38_34, gf38_35, h0, n_lt (i := i) (j := N) (by omega) (by omega), e, ia55 (i := i) (by omega), ia56 (i := i) (by omega), h55 i e, h56 i e, n_shr (a := c i) (k := dd i) (by omega) (by omega), n_and1, e1]
    by_cases q : c i / 2 ^ dd i % 2 = 1
    · rw [if_pos q]
      have := fin True ⟨fun _ => z_cbT.mpr q, fun _ => trivial⟩
      rw [z_b_t] at this
      exact this
    · rw [if_neg q]
      have := fin False ⟨fun e => e.elim, fun e => q (z_cbT.mp e)⟩
      rw [z_b_f] at this
      exact this
end
