/-! ===== best, put together ===== -/
theorem z_mx_d (f : Nat → Int) : ∀ c i d, i ≤ d → d < i + c → z_mx f c i ≤ f d
  | 0, i, d, h1, h2 => by omega
  | c + 1, i, d, h1, h2 => by
    show z_imin (f i) (z_mx f c (i + 1)) ≤ f d
    by_cases q : d = i
    · rw [q]; unfold z_imin; split <;> omega
    · have := z_mx_d f c (i + 1) d (by omega) (by omega)
      unfold z_imin
      split <;> omega
theorem z_mx_at (f : Nat → Int) : ∀ c i, z_mx f c i ≠ z_far → ∃ d, i ≤ d ∧ d < i + c ∧ f d = z_mx f c i
  | 0, i, h => absurd rfl h
  | c + 1, i, h => by
    have e : z_mx f (c + 1) i = z_imin (f i) (z_mx f c (i + 1)) := rfl
    rw [e] at h ⊢
    by_cases q : z_mx f c (i + 1) < f i
    · have e2 : z_imin (f i) (z_mx f c (i + 1)) = z_mx f c (i + 1) := by unfold z_imin; rw [if_pos q]
      rw [e2] at h ⊢
      obtain ⟨d, h1, h2, h3⟩ := z_mx_at f c (i + 1) h
      exact ⟨d, by omega, by omega, h3⟩
    · have e2 : z_imin (f i) (z_mx f c (i + 1)) = f i := by unfold z_imin; rw [if_neg q]
      rw [e2]
      exact ⟨i, Nat.le_refl i, by omega, rfl⟩
theorem z_min_at (P : Nat → Bool) : ∀ c i d, i ≤ d → d < i + c → P d = true → P (z_min P c i) = true
  | 0, i, d, h1, h2, _ => by omega
  | c + 1, i, d, h1, h2, h3 => by
    unfold z_min
    by_cases q : P i = true
    · rw [if_pos q]; exact q
    · rw [if_neg q]
      refine z_min_at P c (i + 1) d ?_ (by omega) h3
      by_cases e : d = i
      · rw [e] at h3; exact absurd h3 q
      · omega
def z_fe (n : Nat) : Nat → Nat → Nat → Bool
  | 0, _, _ => true
  | r + 1, k, t => z_fo (fun d a => a || ((decide (t / 2 ^ d % 2 = 0) && z_e n k d) && z_fe n r (k + 1) (t ||| 2 ^ d))) n 0 false
theorem z_fo_or (p : Nat → Bool) : ∀ c i a, z_fo (fun d a => a || p d) c i a = true → a = true ∨ ∃ d, i ≤ d ∧ d < i + c ∧ p d = true
  | 0, _, _, h => Or.inl h
  | c + 1, i, a, h => by
    rcases z_fo_or p c (i + 1) (a || p i) h with q | ⟨d, h1, h2, h3⟩
    · rw [Bool.or_eq_true] at q
      rcases q with q | q
      · exact Or.inl q
      · exact Or.inr ⟨i, Nat.le_refl i, by omega, q⟩
    · exact Or.inr ⟨d, by omega, by omega, h3⟩
theorem z_L_ne {w : Nat → Nat → Int} {n : Nat} (hw : ∀ g d, -100 ≤ w g d ∧ w g d ≤ 100) : ∀ r k t, r ≤ 6 → z_fe n r k t = true → z_L w n r k t ≠ z_far
  | 0, k, t, _, _ => by show (0 : Int) ≠ z_far; decide
  | r + 1, k, t, hr, h => by
    rw [z_L_mx hw r k t (by omega)]
    rcases z_fo_or (fun d => (decide (t / 2 ^ d % 2 = 0) && z_e n k d) && z_fe n r (k + 1) (t ||| 2 ^ d)) n 0 false h with q | ⟨d, h1, h2, h3⟩
    · cases q
    · have h3' : ((decide (t / 2 ^ d % 2 = 0) && z_e n k d) && z_fe n r (k + 1) (t ||| 2 ^ d)) = true := h3
      rw [Bool.and_eq_true] at h3'
      have ih := z_L_ne hw r (k + 1) (t ||| 2 ^ d) (by omega) h3'.2
      have hb := (z_bd_r (z_L_bd hw (n := n) r (k + 1) (t ||| 2 ^ d) (by omega)) (by omega)).2.2.2 ih
      have hwd := hw k d
      have e : z_far = 1000000 := rfl
      have hsb : z_sb w n r k t d = z_L w n r (k + 1) (t ||| 2 ^ d) + w k d := by
        unfold z_sb
        rw [if_pos h3'.1, if_neg ih]
      have := z_mx_d (z_sb w n r k t) n 0 d h1 h2
      omega
theorem z_fe_6 : ∀ n, n < 7 → z_fe n n 0 0 = true := by decide +kernel
theorem z_gl_pick {w : Nat → Nat → Int} {n r k t : Nat} (hw : ∀ g d, -100 ≤ w g d ∧ w g d ≤ 100) (hr : r ≤ 5) (h : z_L w n (r + 1) k t ≠ z_far) : ∃ ch, ch = z_min (z_pk (z_sb w n r k t) (z_L w n (r + 1) k t)) n 0 ∧ ch < n ∧ t / 2 ^ ch % 2 = 0 ∧ z_L w n r (k + 1) (t ||| 2 ^ ch) ≠ z_far := by
  refine ⟨_, rfl, ?_⟩
  have h' := h
  rw [z_L_mx hw r k t hr] at h'
  obtain ⟨d, h1, h2, h3⟩ := z_mx_at _ n 0 h'
  rw [← z_L_mx hw r k t hr] at h3
  have hp := z_min_at (z_pk (z_sb w n r k t) (z_L w n (r + 1) k t)) n 0 d h1 h2 (z_pkT.mpr ⟨by rw [h3]; exact h, h3⟩)
  have hlt := z_min_lt (z_pk (z_sb w n r k t) (z_L w n (r + 1) k t)) (n := n) (by omega) n 0 (by omega)
  generalize z_min (z_pk (z_sb w n r k t) (z_L w n (r + 1) k t)) n 0 = ch at hp hlt ⊢
  have hs := (z_pkT.mp hp).1
  unfold z_sb at hs
  by_cases q : (decide (t / 2 ^ ch % 2 = 0) && z_e n k ch) = true
  · rw [if_pos q] at hs
    have q' := q
    rw [Bool.and_eq_true, decide_eq_true_iff] at q'
    refine ⟨hlt, q'.1, fun e => hs ?_⟩
    rw [if_pos e]
  · rw [if_neg q] at hs
    exact absurd rfl hs
section
variable {T : List Nat} {L : Nat} {s : ZS} {tx : Nat → Nat → List Nat} {n : Nat} {h : ZH} {m : q_M} {K : Option Value → q_G → q_M → Prop}
theorem l_fl2 {N : Nat} {w : Nat → Nat → Int} (hw : ∀ g d, -100 ≤ w g d ∧ w g d ≤ 100) (hN : N ≤ 6) (d : Nat) : ∀ r k t dd m x3 x4 x5, q_c1 x3 = true → q_c1 x4 = true → q_c1 x5 = true → k + r = N → t < 2 ^ N → z_pop t = k → z_L w N r k t ≠ z_far → m 3 0 = nI N → (∀ g, g < N → ∀ o, o < N → m 15 (g * 6 + o) = jI (w g o)) → (∀ t, t < 2 ^ N → m 16 t = jI (z_L w N (N - z_pop t) (z_pop t) t)) → (∀ i, i < k → m 18 i = nI (dd i)) → (∀ m', (∀ p, p ≠ 18 → m' p = m p) → K (some (.int (nI (z_dg (z_gl w N r k t dd) N)))) (GG T L) m') →
    q_R 19 4 (d + 2) [some (.ref 1), some (.int (nI t)), some (.int (nI k)), x3, x4, x5] [] (GG T L) m K
  | 0, k, t, dd, m, x3, x4, x5, h3, h4, h5, hk, ht, hp, hne, h0, h15, hr, hd, hK => by
    have e : k = N := by omega
    subst e
    simp only [u19_4, u19_5, u19_6, u19_9, u19_12, u19_93, u19_94, u19_97, q_push_s, q_push_n, q_sm_0, q_sm_i, q_sm_r, q_sm_n, q_sm_l, q_c1_0, q_c1_i, q_c1_r, q_c1_n, Nat.zero_add, Nat.reduceAdd, Nat.reduceMul, Nat.reduceSub, Nat.reduceLeDiff, Nat.reduceLT, Nat.reduceEqDiff, true_and, and_true, not_false_eq_true, if_true, if_false, ite_true, ite_false, or_true, true_or, or_false, false_or, not_true_eq_false, gf1_1, gf3_0, h0, n_lt (i := k) (j := k) (by omega) (by omega), Nat.lt_irrefl, io1, c_digits hN h0 hd, Nat.zero_le, Nat.reduceLeDiff]
    exact hK m (fun _ _ => rfl)
  | r + 1, k, t, dd, m, x3, x4, x5, h3, h4, h5, hk, ht, hp, hne, h0, h15, hr, hd, hK => by
    have e : k < N := by omega
    have h64 : 2 ^ N ≤ 64 := Nat.pow_le_pow_right (by decide) (show N ≤ 6 from hN)
    obtain ⟨ch, hce, hcn, hcb, hcl⟩ := z_gl_pick hw (show r ≤ 5 by omega) hne
    rw [u19_4]
    simp only [u19_5, u19_6, u19_9, u19_12, u19_15, u19_16, u19_17, u19_18, u19_21, u19_24, u19_25, u19_26, q_push_s, q_push_n, q_sm_0, q_sm_i, q_sm_r, q_sm_n, q_sm_l, q_c1_0, q_c1_i, q_c1_r, q_c1_n, Nat.zero_add, Nat.reduceAdd, Nat.reduceMul, Nat.reduceSub, Nat.reduceLeDiff, Nat.reduceLT, Nat.reduceEqDiff, true_and, and_true, not_false_eq_true, if_true, if_false, ite_true, ite_false, or_true, true_or, or_false, false_or, not_true_eq_false, gf1_1, gf3_0, h0, n_lt (i := k) (j := N) (by omega) (by omega), e, z_ct_n, h4]
    have hin := l_fl1 (T := T) (L := L) (K := K) (m := m) (t := t) (r := r) (g := k) hw hN (by omega) e (by omega) h0 (h15 k e) (fun o ho hb => by
      have hpo := (z_popb t (by omega) o (by omega)).1
      rw [if_pos hb, hp] at hpo
      have hor : t ||| 2 ^ o < 2 ^ N := Nat.or_lt_two_pow ht (Nat.pow_lt_pow_right (by decide) ho)
      rw [hr (t ||| 2 ^ o) hor, hpo, show N - (k + 1) = r by omega]) (by rw [hr t ht, hp, show N - k = r + 1 by omega]) d N x5 h5 (Nat.le_refl N)
    rw [Nat.sub_self, ← hce] at hin
    refine hin (fun y5 g5 => ?_)
    simp only [u19_72, u19_73, u19_76, u19_77, u19_78, u19_81, u19_82, u19_83, u19_84, u19_85, u19_86, u19_87, u19_90, q_push_s, q_push_n, q_sm_0, q_sm_i, q_sm_r, q_sm_n, q_sm_l, q_c1_0, q_c1_i, q_c1_r, q_c1_n, Nat.zero_add, Nat.reduceAdd, Nat.reduceMul, Nat.reduceSub, Nat.reduceLeDiff, Nat.reduceLT, Nat.reduceEqDiff, true_and, and_true, not_false_eq_true, if_true, if_false, ite_true, ite_false, or_true, true_or, or_false, false_or, not_true_eq_false, gf1_5, c_put (j := k) sh18 (by decide) (by decide) (show k < 6 by omega), n_s1 ch (by omega), n_or, n_add, Nat.zero_le, Nat.reduceLeDiff]
    have hpo := (z_popb t (by omega) ch (by omega)).1
    rw [if_pos hcb, hp] at hpo
    have hor : t ||| 2 ^ ch < 2 ^ N := Nat.or_lt_two_pow ht (Nat.pow_lt_pow_right (by decide) hcn)
    refine l_fl2 hw hN d r (k + 1) (t ||| 2 ^ ch) (fun i => if i = k then ch else dd i) _ _ _ _ (of_eq_true (q_c1_i _)) (of_eq_true (q_c1_i _)) g5 (by omega) hor hpo hcl (by rw [q_up_f _ _ _ (by decide)]; exact h0) (fun g hg o ho => by rw [q_up_f _ _ _ (by decide)]; exact h15 g hg o ho) (fun t' ht' => by rw [q_up_f _ _ _ (by decide)]; exact hr t' ht') (fun i hi => ?_) (fun m' f1 => ?_)
    · by_cases q : i = k
      · rw [q, q_up_eq, if_pos rfl]
      · rw [q_up_i _ _ q, if_neg q]; exact hd i (by omega)
    · have := hK m' (fun p hp => (f1 p hp).trans (q_up_f _ _ _ hp))
      rw [show z_gl w N (r + 1) k t dd = z_gl w N r (k + 1) (t ||| 2 ^ z_min (z_pk (z_sb w N r k t) (z_L w N (r + 1) k t)) N 0) (fun i => if i = k then z_min (z_pk (z_sb w N r k t) (z_L w N (r + 1) k t)) N 0 else dd i) from rfl, ← hce] at this
      exact this
theorem c_firstLeast {N d : Nat} {w : Nat → Nat → Int} (hw : ∀ g d, -100 ≤ w g d ∧ w g d ≤ 100) (hN : N ≤ 6) (h0 : m 3 0 = nI N) (h15 : ∀ g, g < N → ∀ o, o < N → m 15 (g * 6 + o) = jI (w g o)) (hr : ∀ t, t < 2 ^ N → m 16 t = jI (z_L w N (N - z_pop t) (z_pop t) t)) (hK : ∀ m', (∀ p, p ≠ 18 → m' p = m p) → K (some (.int (nI (z_dg (z_gl w N N 0 0 (fun _ => 0)) N)))) (GG T L) m') : q_C 19 (d + 2) [.ref 1] (GG T L) m K := by
  have e3 : z_pop 0 = 0 := by decide +kernel
  simp only [e19, u19_0, u19_1, u19_2, u19_3, q_push_s, q_push_n, q_sm_0, q_sm_i, q_sm_r, q_sm_n, q_sm_l, q_c1_0, q_c1_i, q_c1_r, q_c1_n, Nat.zero_add, Nat.reduceAdd, Nat.reduceMul, Nat.reduceSub, Nat.reduceLeDiff, Nat.reduceLT, Nat.reduceEqDiff, true_and, and_true, not_false_eq_true, if_true, if_false, ite_true, ite_false, or_true, true_or, or_false, false_or, not_true_eq_false]
  exact l_fl2 hw hN d N 0 0 (fun _ => 0) m _ _ _ (of_eq_true q_c1_0) (of_eq_true q_c1_0) (of_eq_true q_c1_0) (by omega) (Nat.two_pow_pos N) e3 (z_L_ne hw N 0 0 hN (z_fe_6 N (by omega))) h0 h15 hr (fun i hi => absurd hi (Nat.not_lt_zero i)) hK
/-- the table of how dear each is -/
theorem l_bs1 {goal gu : Nat} (hgoal : goal < 3) (hg : gu < s.1 0) (x2 : Option Value) (d : Nat) : ∀ c i m x5 x6, q_c1 x5 = true → q_c1 x6 = true → i + c = s.1 0 → CJ T L s tx n h m → (∀ m' x4 x5 x6, q_c1 x4 = true → q_c1 x5 = true → q_c1 x6 = true → FT m m' → CJ T L s tx n h m' → (∀ o, o < s.1 0 → i ≤ o → m' 15 (gu * 6 + o) = jI (z_wt tx s goal gu o)) → (∀ x, (∀ o, o < s.1 0 → i ≤ o → x ≠ gu * 6 + o) → m' 15 x = m 15 x) → q_R 78 132 (d + 6) [some (.ref 0), some (.int (nI goal)), x2, some (.int (nI gu)), x4, x5, x6] [] (GG T L) m' K) →
    q_R 78 37 (d + 6) [some (.ref 0), some (.int (nI goal)), x2, some (.int (nI gu)), some (.int (nI i)), x5, x6] [] (GG T L) m K
  | 0, i, m, x5, x6, h5, h6', hi, l, hK => by
    have h6 := l.bz.1
    have e : i = s.1 0 := by omega
    have e2 : ¬ i < s.1 0 := by omega
    simp only [u78_37, u78_39, u78_40, u78_43, u78_46, q_push_s, q_push_n, q_sm_0, q_sm_i, q_sm_r, q_sm_n, q_sm_l, q_c1_0, q_c1_i, q_c1_r, q_c1_n, Nat.zero_add, Nat.reduceAdd, Nat.reduceMul, Nat.reduceSub, Nat.reduceLeDiff, Nat.reduceLT, Nat.reduceEqDiff, true_and, and_true, not_false_eq_true, if_true, if_false, ite_true, ite_false, or_true, true_or, or_false, false_or, not_true_eq_false, gf0_2, gf3_0, l.cl.n, n_lt (i := i) (j := s.1 0) (by omega) (by omega), e2]
    exact hK m _ x5 x6 (of_eq_true (q_c1_i _)) h5 h6' (FT.refl m) l (fun o h1 h2 => absurd h1 (by omega)) (fun x _ => rfl)
  | c + 1, i, m, x5, x6, h5, h6', hi, l, hK => by
    have h6 := l.bz.1
    have e : i < s.1 0 := by omega
    have hpx : gu * 6 + i < 36 := by omega
    rw [u78_37]
    simp only [u78_39, u78_40, u78_43, u78_46, u78_49, u78_50, u78_53, u78_54, u78_56, q_push_s, q_push_n, q_sm_0, q_sm_i, q_sm_r, q_sm_n, q_sm_l, q_c1_0, q_c1_i, q_c1_r, q_c1_n, Nat.zero_add, Nat.reduceAdd, Nat.reduceMul, Nat.reduceSub, Nat.reduceLeDiff, Nat.reduceLT, Nat.reduceEqDiff, true_and, and_true, not_false_eq_true, if_true, if_false, ite_true, ite_false, or_true, true_or, or_false, false_or, not_true_eq_false, gf0_1, gf0_2, gf3_0, l.cl.n, n_lt (i := i) (j := s.1 0) (by omega) (by omega), e, io2, Nat.zero_le, Nat.reduceLeDiff]
    refine l.knownOn (d := d) hg e (fun m1 f1 l1 => ?_)
    have hg3 : goal = 0 ∨ goal = 1 ∨ goal = 2 := by omega
    have fin : ∀ m2 wgt v5, FC m1 m2 → CJ T L s tx n h m2 → (if goal = 2 then -wgt else wgt) = jI (z_wt tx s goal gu i) → q_R 78 101 (d + 6) [some (.ref 0), some (.int (nI goal)), x2, some (.int (nI gu)), some (.int (nI i)), some (.int v5), x6] [.int wgt] (GG T L) m2 K := by
      intro m2 wgt v5 f2 l2 hwt
      have e15 : m2 15 = m 15 := (f2 15 (by decide)).trans (f1 15 (by decide))
      have fa := (f1.trans f2).ft.trans (FT.up (gu * 6 + i) (jI (z_wt tx s goal gu i)) m2)
      have rec2 := l_bs1 hgoal hg x2 d c (i + 1) (q_up m2 15 (gu * 6 + i) (jI (z_wt tx s goal gu i))) (some (.int v5)) (some (.int wgt)) (of_eq_true (q_c1_i _)) (of_eq_true (q_c1_i _)) (by omega) (l.ft fa) (fun m' x4 x5 x6 g4 g5 g6 f' l' k1 k2 => hK m' x4 x5 x6 g4 g5 g6 (fa.trans f') l' (fun o h1 h2 => by
        by_cases q : o = i
        · rw [q, k2 _ (fun o' h3 h4 => by omega), q_up_eq]
        · exact k1 o h1 (by omega)) (fun x hx => by rw [k2 x (fun o h3 h4 => hx o h3 (by omega)), q_up_i _ _ (hx i e (Nat.le_refl i)), e15]))
      rcases hg3 with rfl | rfl | rfl
      · rw [if_neg (by decide)] at hwt
        subst hwt
        simp only [u78_101, u78_103, u78_104, u78_107, u78_108, u78_110, u78_111, u78_112, u78_115, u78_117, u78_118, u78_121, u78_123, u78_126, u78_129, e16, u16_0, u16_1, u16_4, u16_5, u16_6, u16_9, u16_10, u16_13, q_push_s, q_push_n, q_sm_0, q_sm_i, q_sm_r, q_sm_n, q_sm_l, q_c1_0, q_c1_i, q_c1_r, q_c1_n, Nat.zero_add, Nat.reduceAdd, Nat.reduceMul, Nat.reduceSub, Nat.reduceLeDiff, Nat.reduceLT, Nat.reduceEqDiff, true_and, and_true, not_false_eq_true, if_true, if_false, ite_true, ite_false, or_true, true_or, or_false, false_or, not_true_eq_false, eq_self, lq_0_1, lq_0_2, lq_0_3, lq_0_4, lq_0_5, lq_0_6, lq_1_0, lq_1_2, lq_1_3, lq_1_4, lq_1_5, lq_1_6, lq_2_0, lq_2_1, lq_2_3, lq_2_4, lq_2_5, lq_2_6, lq_3_0, lq_3_1, lq_3_2, lq_3_4, lq_3_5, lq_3_6, lq_4_0, lq_4_1, lq_4_2, lq_4_3, lq_4_5, lq_4_6, lq_5_0, lq_5_1, lq_5_2, lq_5_3, lq_5_4, lq_5_6, lq_6_0, lq_6_1, lq_6_2, lq_6_3, lq_6_4, lq_6_5, ll_0_0, ll_0_1, ll_0_2, ll_0_3, ll_0_4, ll_0_5, ll_0_6, ll_1_0, ll_1_1, ll_1_2, ll_1_3, ll_1_4, ll_1_5, ll_1_6, ll_2_0, ll_2_1, ll_2_2, ll_2_3, ll_2_4, ll_2_5, ll_2_6, ll_3_0, ll_3_1, ll_3_2, ll_3_3, ll_3_4, ll_3_5, ll_3_6, ll_4_0, ll_4_1, ll_4_2, ll_4_3, ll_4_4, ll_4_5, ll_4_6, ll_5_0, ll_5_1, ll_5_2, ll_5_3, ll_5_4, ll_5_5, ll_5_6, ll_6_0, ll_6_1, ll_6_2, ll_6_3, ll_6_4, ll_6_5, ll_6_6, le_0_0, le_0_1, le_0_2, le_0_3, le_0_4, le_0_5, le_0_6, le_1_0, le_1_1, le_1_2, le_1_3, le_1_4, le_1_5, le_1_6, le_2_0, le_2_1, le_2_2, le_2_3, le_2_4, le_2_5, le_2_6, le_3_0, le_3_1, le_3_2, le_3_3, le_3_4, le_3_5, le_3_6, le_4_0, le_4_1, le_4_2, le_4_3, le_4_4, le_4_5, le_4_6, le_5_0, le_5_1, le_5_2, le_5_3, le_5_4, le_5_5, le_5_6, le_6_0, le_6_1, le_6_2, le_6_3, le_6_4, le_6_5, le_6_6, gf0_0, gf1_2, io1, c_place, c_put (j := gu * 6 + i) sh15 (by decide) (by decide) hpx, n_add, Nat.zero_le, Nat.reduceLeDiff]
        exact rec2
      · rw [if_neg (by decide)] at hwt
        subst hwt
        simp only [u78_101, u78_103, u78_104, u78_107, u78_108, u78_110, u78_111, u78_112, u78_115, u78_117, u78_118, u78_121, u78_123, u78_126, u78_129, e16, u16_0, u16_1, u16_4, u16_5, u16_6, u16_9, u16_10, u16_13, q_push_s, q_push_n, q_sm_0, q_sm_i, q_sm_r, q_sm_n, q_sm_l, q_c1_0, q_c1_i, q_c1_r, q_c1_n, Nat.zero_add, Nat.reduceAdd, Nat.reduceMul, Nat.reduceSub, Nat.reduceLeDiff, Nat.reduceLT, Nat.reduceEqDiff, true_and, and_true, not_false_eq_true, if_true, if_false, ite_true, ite_false, or_true, true_or, or_false, false_or, not_true_eq_false, eq_self, lq_0_1, lq_0_2, lq_0_3, lq_0_4, lq_0_5, lq_0_6, lq_1_0, lq_1_2, lq_1_3, lq_1_4, lq_1_5, lq_1_6, lq_2_0, lq_2_1, lq_2_3, lq_2_4, lq_2_5, lq_2_6, lq_3_0, lq_3_1, lq_3_2, lq_3_4, lq_3_5, lq_3_6, lq_4_0, lq_4_1, lq_4_2, lq_4_3, lq_4_5, lq_4_6, lq_5_0, lq_5_1, lq_5_2, lq_5_3, lq_5_4, lq_5_6, lq_6_0, lq_6_1, lq_6_2, lq_6_3, lq_6_4, lq_6_5, ll_0_0, ll_0_1, ll_0_2, ll_0_3, ll_0_4, ll_0_5, ll_0_6, ll_1_0, ll_1_1, ll_1_2, ll_1_3, ll_1_4, ll_1_5, ll_1_6, ll_2_0, ll_2_1, ll_2_2, ll_2_3, ll_2_4, ll_2_5, ll_2_6, ll_3_0, ll_3_1, ll_3_2, ll_3_3, ll_3_4, ll_3_5, ll_3_6, ll_4_0, ll_4_1, ll_4_2, ll_4_3, ll_4_4, ll_4_5, ll_4_6, ll_5_0, ll_5_1, ll_5_2, ll_5_3, ll_5_4, ll_5_5, ll_5_6, ll_6_0, ll_6_1, ll_6_2, ll_6_3, ll_6_4, ll_6_5, ll_6_6, le_0_0, le_0_1, le_0_2, le_0_3, le_0_4, le_0_5, le_0_6, le_1_0, le_1_1, le_1_2, le_1_3, le_1_4, le_1_5, le_1_6, le_2_0, le_2_1, le_2_2, le_2_3, le_2_4, le_2_5, le_2_6, le_3_0, le_3_1, le_3_2, le_3_3, le_3_4, le_3_5, le_3_6, le_4_0, le_4_1, le_4_2, le_4_3, le_4_4, le_4_5, le_4_6, le_5_0, le_5_1, le_5_2, le_5_3, le_5_4, le_5_5, le_5_6, le_6_0, le_6_1, le_6_2, le_6_3, le_6_4, le_6_5, le_6_6, gf0_0, gf1_2, io1, c_place, c_put (j := gu * 6 + i) sh15 (by decide) (by decide) hpx, n_add, Nat.zero_le, Nat.reduceLeDiff]
        exact rec2
      · rw [if_pos rfl] at hwt
        simp only [u78_101, u78_103, u78_104, u78_107, u78_108, u78_110, u78_111, u78_112, u78_115, u78_117, u78_118, u78_121, u78_123, u78_126, u78_129, e16, u16_0, u16_1, u16_4, u16_5, u16_6, u16_9, u16_10, u16_13, q_push_s, q_push_n, q_sm_0, q_sm_i, q_sm_r, q_sm_n, q_sm_l, q_c1_0, q_c1_i, q_c1_r, q_c1_n, Nat.zero_add, Nat.reduceAdd, Nat.reduceMul, Nat.reduceSub, Nat.reduceLeDiff, Nat.reduceLT, Nat.reduceEqDiff, true_and, and_true, not_false_eq_true, if_true, if_false, ite_true, ite_false, or_true, true_or, or_false, false_or, not_true_eq_false, eq_self, hwt, gf0_0, gf1_2, io1, c_place, c_put (j := gu * 6 + i) sh15 (by decide) (by decide) hpx, n_add, Nat.zero_le, Nat.reduceLeDiff]
        exact rec2
    have eneg : -nI 0 = jI 0 := by decide
    rcases z_kn_is tx s gu i with q | ⟨q1, q2, q3⟩
    · have e1 : ((-1 : Int32) < nI 0) = True := eq_true (by decide)
      simp only [u78_59, u78_61, u78_63, u78_66, u78_67, q_push_s, q_push_n, q_sm_0, q_sm_i, q_sm_r, q_sm_n, q_sm_l, q_c1_0, q_c1_i, q_c1_r, q_c1_n, Nat.zero_add, Nat.reduceAdd, Nat.reduceMul, Nat.reduceSub, Nat.reduceLeDiff, Nat.reduceLT, Nat.reduceEqDiff, true_and, and_true, not_false_eq_true, if_true, if_false, ite_true, ite_false, or_true, true_or, or_false, false_or, not_true_eq_false, q, e1]
      refine fin m1 (nI 0) _ (FC.refl m1) l1 ?_
      unfold z_wt
      rw [if_pos q]
      by_cases g2 : goal = 2
      · rw [if_pos g2]; exact eneg
      · rw [if_neg g2]; exact jI_n 0
    · have e1 := n_lt0 (j := z_kni tx s gu i) (by omega)
      by_cases g0 : goal = 0
      · subst g0
        simp only [u78_59, u78_61, u78_63, u78_66, u78_67, u78_70, u78_71, u78_74, u78_75, q_push_s, q_push_n, q_sm_0, q_sm_i, q_sm_r, q_sm_n, q_sm_l, q_c1_0, q_c1_i, q_c1_r, q_c1_n, Nat.zero_add, Nat.reduceAdd, Nat.reduceMul, Nat.reduceSub, Nat.reduceLeDiff, Nat.reduceLT, Nat.reduceEqDiff, true_and, and_true, not_false_eq_true, if_true, if_false, ite_true, ite_false, or_true, true_or, or_false, false_or, not_true_eq_false, q2, e1]
        refine fin m1 (nI 1) _ (FC.refl m1) l1 ?_
        unfold z_wt
        rw [if_neg q3, if_neg (by decide), if_pos rfl]
        exact jI_n 1
      · have e0 := n_eq (i := goal) (j := 0) (by omega) (by decide)
        simp only [u78_59, u78_61, u78_63, u78_66, u78_67, u78_70, u78_71, u78_74, u78_75, u78_78, u78_79, u78_82, u78_85, u78_86, u78_87, u78_90, u78_91, u78_93, u78_95, q_push_s, q_push_n, q_sm_0, q_sm_i, q_sm_r, q_sm_n, q_sm_l, q_c1_0, q_c1_i, q_c1_r, q_c1_n, Nat.zero_add, Nat.reduceAdd, Nat.reduceMul, Nat.reduceSub, Nat.reduceLeDiff, Nat.reduceLT, Nat.reduceEqDiff, true_and, and_true, not_false_eq_true, if_true, if_false, ite_true, ite_false, or_true, true_or, or_false, false_or, not_true_eq_false, q2, e1, e0, g0, gf0_1, io2, l1.law, Nat.zero_le, Nat.reduceLeDiff]
        refine l1.asking (d := d + 3) hg e (fun m2 f2 l2 hn2 => ?_)
        simp only [u78_98, q_push_s, q_push_n, q_sm_0, q_sm_i, q_sm_r, q_sm_n, q_sm_l, q_c1_0, q_c1_i, q_c1_r, q_c1_n, Nat.zero_add, Nat.reduceAdd, Nat.reduceMul, Nat.reduceSub, Nat.reduceLeDiff, Nat.reduceLT, Nat.reduceEqDiff, true_and, and_true, not_false_eq_true, if_true, if_false, ite_true, ite_false, or_true, true_or, or_false, false_or, not_true_eq_false, l2.iop, Nat.zero_le, Nat.reduceLeDiff]
        refine l2.says (d := d + 3) (p := 1) (by decide) hn2 (fun m3 f3 l3 => ?_)
        refine fin m3 _ _ (f2.trans f3) l3 ?_
        unfold z_wt
        rw [if_neg q3, if_neg g0]
        by_cases g1 : goal = 1
        · rw [if_neg (by omega), if_pos g1]; exact jI_n _
        · rw [if_pos (by omega), if_neg g1, jI_n, jI_neg]
theorem l_bs2 {goal : Nat} (hgoal : goal < 3) (x2 : Int32) (d : Nat) : ∀ c i m x4 x5 x6, q_c1 x4 = true → q_c1 x5 = true → q_c1 x6 = true → i + c = s.1 0 → CJ T L s tx n h m → (∀ g, g < i → ∀ o, o < s.1 0 → m 15 (g * 6 + o) = jI (z_wt tx s goal g o)) → (∀ m' x3 x4 x5 x6, FT m m' → CJ T L s tx n h m' → (∀ g, g < s.1 0 → ∀ o, o < s.1 0 → m' 15 (g * 6 + o) = jI (z_wt tx s goal g o)) → q_R 78 138 (d + 6) [some (.ref 0), some (.int (nI goal)), some (.int x2), x3, x4, x5, x6] [] (GG T L) m' K) →
    q_R 78 23 (d + 6) [some (.ref 0), some (.int (nI goal)), some (.int x2), some (.int (nI i)), x4, x5, x6] [] (GG T L) m K
  | 0, i, m, x4, x5, x6, h4, h5, h6', hi, l, ht, hK => by
    have h6 := l.bz.1
    have e2 : ¬ i < s.1 0 := by omega
    simp only [u78_23, u78_24, u78_25, u78_28, u78_31, q_push_s, q_push_n, q_sm_0, q_sm_i, q_sm_r, q_sm_n, q_sm_l, q_c1_0, q_c1_i, q_c1_r, q_c1_n, Nat.zero_add, Nat.reduceAdd, Nat.reduceMul, Nat.reduceSub, Nat.reduceLeDiff, Nat.reduceLT, Nat.reduceEqDiff, true_and, and_true, not_false_eq_true, if_true, if_false, ite_true, ite_false, or_true, true_or, or_false, false_or, not_true_eq_false, gf0_2, gf3_0, l.cl.n, n_lt (i := i) (j := s.1 0) (by omega) (by omega), e2]
    exact hK m _ x4 x5 x6 (FT.refl m) l (fun g hg => ht g (by omega))
  | c + 1, i, m, x4, x5, x6, h4, h5, h6', hi, l, ht, hK => by
    have h6 := l.bz.1
    have e : i < s.1 0 := by omega
    rw [u78_23]
    simp only [u78_24, u78_25, u78_28, u78_31, u78_34, u78_35, q_push_s, q_push_n, q_sm_0, q_sm_i, q_sm_r, q_sm_n, q_sm_l, q_c1_0, q_c1_i, q_c1_r, q_c1_n, Nat.zero_add, Nat.reduceAdd, Nat.reduceMul, Nat.reduceSub, Nat.reduceLeDiff, Nat.reduceLT, Nat.reduceEqDiff, true_and, and_true, not_false_eq_true, if_true, if_false, ite_true, ite_false, or_true, true_or, or_false, false_or, not_true_eq_false, gf0_2, gf3_0, l.cl.n, n_lt (i := i) (j := s.1 0) (by omega) (by omega), e]
    refine l_bs1 hgoal e _ d (s.1 0) 0 m x5 x6 h5 h6' (by omega) l (fun m1 y4 y5 y6 g4 g5 g6 f1 l1 k1 k2 => ?_)
    simp only [u78_132, u78_135, q_push_s, q_push_n, q_sm_0, q_sm_i, q_sm_r, q_sm_n, q_sm_l, q_c1_0, q_c1_i, q_c1_r, q_c1_n, Nat.zero_add, Nat.reduceAdd, Nat.reduceMul, Nat.reduceSub, Nat.reduceLeDiff, Nat.reduceLT, Nat.reduceEqDiff, true_and, and_true, not_false_eq_true, if_true, if_false, ite_true, ite_false, or_true, true_or, or_false, false_or, not_true_eq_false, n_add]
    refine l_bs2 hgoal x2 d c (i + 1) m1 y4 y5 y6 g4 g5 g6 (by omega) l1 (fun g hg o ho => ?_) (fun m' x3 x4 x5 x6 f' l' => hK m' x3 x4 x5 x6 (f1.trans f') l')
    by_cases q : g = i
    · rw [q]; exact k1 o ho (Nat.zero_le o)
    · rw [k2 _ (fun o' ho' _ => by omega)]; exact ht g (by omega) o ho
def z_al (N : Nat) (dr : Nat → Nat) : Prop := ∀ g, g < N → z_e N g (dr g) = true
theorem l_allow {N : Nat} {dr : Nat → Nat} (hN : N ≤ 6) (h0 : m 38 0 = nI N) (hd : ∀ i, i < N → m 56 i = nI (dr i)) (hdl : ∀ i, i < N → dr i < N) (d : Nat) : ∀ c i, i + c = N → (q_R 168 2 d [some (.ref 38), some (.int (nI i))] [] (GG T L) m K ↔ K (some (.int (z_b (∀ g, g < N → i ≤ g → z_e N g (dr g) = true)))) (GG T L) m)
  | 0, i, hi => by
    have e : i = N := by omega
    subst e
    rw [z_b_1 (fun g h1 h2 => absurd h1 (by omega))]
    simp only [u168_2, u168_3, u168_4, u168_7, u168_36, u168_37, q_push_s, q_push_n, q_sm_0, q_sm_i, q_sm_r, q_sm_n, q_sm_l, q_c1_0, q_c1_i, q_c1_r, q_c1_n, Nat.zero_add, Nat.reduceAdd, Nat.reduceMul, Nat.reduceSub, Nat.reduceLeDiff, Nat.reduceLT, Nat.reduceEqDiff, true_and, and_true, not_false_eq_true, if_true, if_false, ite_true, ite_false, or_true, true_or, or_false, false_or, not_true_eq_false, gf38_0, h0, n_lt (i := i) (j := i) (by omega) (by omega), Nat.lt_irrefl, z_r1]
  | c + 1, i, hi => by
    have e : i < N := by omega
    have hdi := hdl i e
    have rec2 := l_allow hN h0 hd hdl d c (i + 1) (by omega)
    have ee := n_eq (i := dr i) (j := i) (by omega) (by omega)
    have en := n_le (i := N) (j := 1) (by omega) (by decide)
    have hstep : z_e N i (dr i) = true → ((∀ g, g < N → i ≤ g → z_e N g (dr g) = true) ↔ (∀ g, g < N → i + 1 ≤ g → z_e N g (dr g) = true)) := fun hz => ⟨fun a g h1 h2 => a g h1 (by omega), fun a g h1 h2 => by
      by_cases q : g = i
      · rw [q]; exact hz
      · exact a g h1 (by omega)⟩
    rw [u168_2]
    by_cases q : dr i = i
    · by_cases q2 : N ≤ 1
      · rw [propext (hstep (z_eT.mpr (Or.inl q2)))]
        simp only [u168_3, u168_4, u168_7, u168_10, u168_11, u168_14, u168_15, u168_16, u168_17, u168_20, u168_21, u168_24, u168_25, u168_28, u168_29, u168_30, u168_33, q_push_s, q_push_n, q_sm_0, q_sm_i, q_sm_r, q_sm_n, q_sm_l, q_c1_0, q_c1_i, q_c1_r, q_c1_n, Nat.zero_add, Nat.reduceAdd, Nat.reduceMul, Nat.reduceSub, Nat.reduceLeDiff, Nat.reduceLT, Nat.reduceEqDiff, true_and, and_true, not_false_eq_true, if_true, if_false, ite_true, ite_false, or_true, true_or, or_false, false_or, not_true_eq_false, gf38_0, gf38_35, h0, n_lt (i := i) (j := N) (by omega) (by omega), e, ia56 (i := i) (by omega), hd i e, ee, q, en, q2, n_add]
        exact rec2
      · rw [z_b_0 (fun a => (z_eT.mp (a i e (Nat.le_refl i))).elim (fun h => q2 h) (fun h => h q.symm))]
        simp only [u168_3, u168_4, u168_7, u168_10, u168_11, u168_14, u168_15, u168_16, u168_17, u168_20, u168_21, u168_24, u168_25, u168_28, u168_29, u168_30, u168_33, q_push_s, q_push_n, q_sm_0, q_sm_i, q_sm_r, q_sm_n, q_sm_l, q_c1_0, q_c1_i, q_c1_r, q_c1_n, Nat.zero_add, Nat.reduceAdd, Nat.reduceMul, Nat.reduceSub, Nat.reduceLeDiff, Nat.reduceLT, Nat.reduceEqDiff, true_and, and_true, not_false_eq_true, if_true, if_false, ite_true, ite_false, or_true, true_or, or_false, false_or, not_true_eq_false, gf38_0, gf38_35, h0, n_lt (i := i) (j := N) (by omega) (by omega), e, ia56 (i := i) (by omega), hd i e, ee, q, en, q2, z_r0]
    · rw [propext (hstep (z_eT.mpr (Or.inr (fun h => q h.symm))))]
      simp only [u168_3, u168_4, u168_7, u168_10, u168_11, u168_14, u168_15, u168_16, u168_17, u168_20, u168_21, u168_24, u168_25, u168_28, u168_29, u168_30, u168_33, q_push_s, q_push_n, q_sm_0, q_sm_i, q_sm_r, q_sm_n, q_sm_l, q_c1_0, q_c1_i, q_c1_r, q_c1_n, Nat.zero_add, Nat.reduceAdd, Nat.reduceMul, Nat.reduceSub, Nat.reduceLeDiff, Nat.reduceLT, Nat.reduceEqDiff, true_and, and_true, not_false_eq_true, if_true, if_false, ite_true, ite_false, or_true, true_or, or_false, false_or, not_true_eq_false, gf38_0, gf38_35, h0, n_lt (i := i) (j := N) (by omega) (by omega), e, ia56 (i := i) (by omega), hd i e, ee, q, n_add]
      exact rec2
theorem c_allow {N d : Nat} {dr : Nat → Nat} (hN : N ≤ 6) (h0 : m 38 0 = nI N) (hd : ∀ i, i < N → m 56 i = nI (dr i)) (hdl : ∀ i, i < N → dr i < N) : q_C 168 d [.ref 38] (GG T L) m K ↔ K (some (.int (z_b (z_al N dr)))) (GG T L) m := by
  have e : z_al N dr = (∀ g, g < N → 0 ≤ g → z_e N g (dr g) = true) := propext ⟨fun a g h1 _ => a g h1, fun a g h1 => a g h1 (Nat.zero_le g)⟩
  rw [e]
  simp only [e168, u168_0, u168_1, q_c1_r, true_and]
  exact l_allow hN h0 hd hdl d N 0 (by omega)
end
