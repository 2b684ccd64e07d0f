/-! ===== chance ===== -/
def z_fac (n : Nat) : Nat := [1, 1, 2, 6, 24, 120, 720].getD n 0
def z_nob (n : Nat) : Nat := [1, 0, 1, 2, 9, 44, 265].getD n 0
def z_cA (n w : Nat) (dd : Nat → Nat) (a : Nat × Nat) : Nat × Nat := (a.1 + (if z_pop (z_bs (z_slf dd) n) = w then 1 else 0), a.2 + 1)
theorem z_chk : ∀ n, n < 7 → ∀ w, w < 7 → w ≤ n → z_DT z_tt (z_cA n w) n n 0 0 (fun _ => 0) (0, 0) = (z_fac n / (z_fac w * z_fac (n - w)) * z_nob (n - w), z_fac n) := by decide +kernel
theorem z_chb : ∀ n, n < 7 → ∀ w, w < 7 → w ≤ n → 0 < z_fac w * z_fac (n - w) ∧ z_fac w * z_fac (n - w) < 1000 ∧ 0 < z_fac n ∧ z_fac n < 1000 ∧ z_fac n / (z_fac w * z_fac (n - w)) * z_nob (n - w) < 1000 := by decide +kernel
theorem z_6 {i : Nat} (h : i < 7) : i = 0 ∨ i = 1 ∨ i = 2 ∨ i = 3 ∨ i = 4 ∨ i = 5 ∨ i = 6 := by omega
theorem z_nn : ∀ n, n < 7 → n ^ n < 46657 ∧ 0 < n ^ n := by decide +kernel
section
variable {T : List Nat} {L : Nat} {m : q_M} {K : Option Value → q_G → q_M → Prop}
theorem sh902 (hT : T.length ≤ 5) : (GG T L).1 902 = .inl 7 := by
  show q_S T L 902 = _
  unfold q_S
  have h : ¬ 902 < 58 + 2 * T.length := by omega
  simp only [h, if_false]
  rfl
theorem sh903 (hT : T.length ≤ 5) : (GG T L).1 903 = .inl 7 := by
  show q_S T L 903 = _
  unfold q_S
  have h : ¬ 903 < 58 + 2 * T.length := by omega
  simp only [h, if_false]
  rfl
theorem l_chan {N w : Nat} (hN : N ≤ 6) (hw : w ≤ 6) (x2 : Option Value) (d : Nat) : ∀ c x (a : Nat × Nat) m, x + c = N ^ N → m 38 0 = nI N → (∀ m', (∀ p, p ≠ 56 → m' p = m p) → q_R 192 82 (d + 2) [some (.ref 38), some (.int (nI w)), x2, some (.long (lN (z_fo (fun x a => if z_ok z_tt N N x then z_cA N w (z_dd N N x) a else a) c x a).1)), none, some (.long (lN (z_fo (fun x a => if z_ok z_tt N N x then z_cA N w (z_dd N N x) a else a) c x a).2)), none, some (.int (nI (N ^ N)))] [] (GG T L) m' K) → q_c1 x2 = true →
    q_R 192 33 (d + 2) [some (.ref 38), some (.int (nI w)), x2, some (.long (lN a.1)), none, some (.long (lN a.2)), none, some (.int (nI x))] [] (GG T L) m K
  | 0, x, a, m, hx, h0, hK, h2 => by
    have e : x = N ^ N := by omega
    have hn := z_nn N (by omega)
    have e2 : ¬ N ^ N < N ^ N := Nat.lt_irrefl _
    simp only [u192_33, u192_35, u192_36, u192_39, q_push_s, q_push_n, q_sm_0, q_sm_i, q_sm_r, q_sm_n, q_sm_l, q_c1_0, q_c1_i, q_c1_r, q_c1_n, Nat.zero_add, Nat.reduceAdd, Nat.reduceMul, Nat.reduceSub, Nat.reduceLeDiff, Nat.reduceLT, Nat.reduceEqDiff, true_and, and_true, not_false_eq_true, if_true, if_false, ite_true, ite_false, or_true, true_or, or_false, false_or, not_true_eq_false, io38, c_num hN h0, e, n_lt (i := N ^ N) (j := N ^ N) (by omega) (by omega), e2, Nat.zero_le, Nat.reduceLeDiff]
    exact hK m (fun _ _ => rfl)
  | c + 1, x, a, m, hx, h0, hK, h2 => by
    have e : x < N ^ N := by omega
    have hn := z_nn N (by omega)
    rw [u192_33]
    simp only [u192_35, u192_36, u192_39, u192_42, u192_43, u192_45, q_push_s, q_push_n, q_sm_0, q_sm_i, q_sm_r, q_sm_n, q_sm_l, q_c1_0, q_c1_i, q_c1_r, q_c1_n, Nat.zero_add, Nat.reduceAdd, Nat.reduceMul, Nat.reduceSub, Nat.reduceLeDiff, Nat.reduceLT, Nat.reduceEqDiff, true_and, and_true, not_false_eq_true, if_true, if_false, ite_true, ite_false, or_true, true_or, or_false, false_or, not_true_eq_false, io38, c_num hN h0, n_lt (i := x) (j := N ^ N) (by omega) (by omega), e, Nat.zero_le, Nat.reduceLeDiff]
    refine c_tells hN (by omega) h0 (fun m1 f1 g1 => ?_)
    have e0 : m1 38 0 = nI N := by rw [f1 38 (by decide)]; exact h0
    rw [show z_fo (fun x a => if z_ok z_tt N N x then z_cA N w (z_dd N N x) a else a) (c + 1) x a = z_fo (fun x a => if z_ok z_tt N N x then z_cA N w (z_dd N N x) a else a) c (x + 1) (if z_ok z_tt N N x then z_cA N w (z_dd N N x) a else a) from rfl] at hK
    by_cases q : z_ok z_tt N N x = true
    · rw [if_pos q] at hK
      have hN0 : N = 0 ∨ 0 < N := by omega
      have hdl : ∀ i, i < N → z_dd N N x i < N := fun i hi => z_dd_lt (by omega) N x i
      have hb64 : z_bs (z_slf (z_dd N N x)) N < 64 := Nat.lt_of_lt_of_le (z_bs_lt _ _) (Nat.pow_le_pow_right (by decide) (show N ≤ 6 from hN))
      have hp8 : z_pop (z_bs (z_slf (z_dd N N x)) N) ≤ 8 := by unfold z_pop; omega
      have rec2 := l_chan hN hw x2 d c (x + 1) (z_cA N w (z_dd N N x) a) m1 (by omega) e0 (fun m' f' => hK m' (fun p hp => (f' p hp).trans (f1 p hp))) h2
      unfold z_cA at rec2
      have ez : (z_b True = nI 0) = False := by rw [z_b_t]; exact lq_1_0
      by_cases q2 : z_pop (z_bs (z_slf (z_dd N N x)) N) = w
      · simp only [q2, if_true] at rec2
        simp only [u192_48, u192_51, u192_53, u192_54, u192_55, u192_57, u192_58, u192_59, u192_62, u192_65, u192_66, u192_69, u192_70, u192_73, u192_74, u192_75, u192_76, u192_79, q_push_s, q_push_n, q_sm_0, q_sm_i, q_sm_r, q_sm_n, q_sm_l, q_c1_0, q_c1_i, q_c1_r, q_c1_n, Nat.zero_add, Nat.reduceAdd, Nat.reduceMul, Nat.reduceSub, Nat.reduceLeDiff, Nat.reduceLT, Nat.reduceEqDiff, true_and, and_true, not_false_eq_true, if_true, if_false, ite_true, ite_false, or_true, true_or, or_false, false_or, not_true_eq_false, q, ez, io38, c_thems hN e0 g1 hdl, c_ones hb64, n_eq (i := z_pop (z_bs (z_slf (z_dd N N x)) N)) (j := w) (by omega) (by omega), q2, lN_add, n_add, h2, Nat.zero_le, Nat.reduceLeDiff]
        exact rec2
      · simp only [q2, if_false] at rec2
        simp only [u192_48, u192_51, u192_53, u192_54, u192_55, u192_57, u192_58, u192_59, u192_62, u192_65, u192_66, u192_69, u192_70, u192_73, u192_74, u192_75, u192_76, u192_79, q_push_s, q_push_n, q_sm_0, q_sm_i, q_sm_r, q_sm_n, q_sm_l, q_c1_0, q_c1_i, q_c1_r, q_c1_n, Nat.zero_add, Nat.reduceAdd, Nat.reduceMul, Nat.reduceSub, Nat.reduceLeDiff, Nat.reduceLT, Nat.reduceEqDiff, true_and, and_true, not_false_eq_true, if_true, if_false, ite_true, ite_false, or_true, true_or, or_false, false_or, not_true_eq_false, q, ez, io38, c_thems hN e0 g1 hdl, c_ones hb64, n_eq (i := z_pop (z_bs (z_slf (z_dd N N x)) N)) (j := w) (by omega) (by omega), q2, lN_add, n_add, h2, Nat.zero_le, Nat.reduceLeDiff]
        exact rec2
    · rw [if_neg q] at hK
      have ez : (z_b (false = true) = nI 0) = True := by rw [z_b_0 (by decide)]; exact eq_self _
      simp only [u192_48, u192_76, u192_79, q_push_s, q_push_n, q_sm_0, q_sm_i, q_sm_r, q_sm_n, q_sm_l, q_c1_0, q_c1_i, q_c1_r, q_c1_n, Nat.zero_add, Nat.reduceAdd, Nat.reduceMul, Nat.reduceSub, Nat.reduceLeDiff, Nat.reduceLT, Nat.reduceEqDiff, true_and, and_true, not_false_eq_true, if_true, if_false, ite_true, ite_false, or_true, true_or, or_false, false_or, not_true_eq_false, q, ez, n_add]
      exact l_chan hN hw x2 d c (x + 1) a m1 (by omega) e0 (fun m' f' => hK m' (fun p hp => (f' p hp).trans (f1 p hp))) h2
end
section
variable {T : List Nat} {L d : Nat} {xs : Nat → Int32} {s : ZS} {tx : Nat → Nat → List Nat} {n : Nat} {tp : Nat → Nat} {z : Nat} {h : ZH} {wd : Nat → Int32} {m m1 m2 : q_M} {K : Option Value → Option Value → q_G → q_M → Prop}
theorem LJ.fac (l : LJ T L xs s tx n tp z h wd m) : ∀ i, i < 7 → m 902 i = nI (z_fac i) ∧ m 903 i = nI (z_nob i) := by
  intro i hi
  rw [l.xm 902 (by decide), l.xm 903 (by decide)]
  rcases z_6 hi with rfl | rfl | rfl | rfl | rfl | rfl | rfl <;> exact ⟨rfl, rfl⟩
theorem p_chance (l : LJ T L xs s tx n tp z h wd m) (a b : Int32) (hK : ∀ r m', LJ T L xs s tx n tp z h wd m' → K (some (.long r)) (some (.long r)) (GG T L) m') :
    q_C 92 (d + 3) [.ref 0, .int a, .int b] (GG T L) m (fun v g m => q_C 192 (d + 3) [.ref 38, .int a, .int b] g m (fun v' g m => K v v' g m)) := by
  have h6 := l.bz.1
  have hT5 : T.length ≤ 5 := by have := l.t; have := l.iw.2.2.2; omega
  by_cases ha : z_is a (s.1 0 + 1)
  · obtain ⟨w, hw, rfl⟩ := z_is_n ha
    have a0 := n_lt0 (j := w) (by omega)
    have a1 := n_le (i := w) (j := s.1 0) (by omega) (by omega)
    have a2 : w ≤ s.1 0 := by omega
    by_cases hb : z_is b 2
    · obtain ⟨p, hp, rfl⟩ := z_is_n hb
      have p0 := n_lt0 (j := p) (by omega)
      have p1 := n_le (i := p) (j := 1) (by omega) (by decide)
      have p2 : p ≤ 1 := by omega
      obtain ⟨b1, b2, b3, b4, b5⟩ := z_chb (s.1 0) (by omega) w (by omega) a2
      have hch := z_chk (s.1 0) (by omega) w (by omega) a2
      have hn := z_nn (s.1 0) (by omega)
      have e1 := n_eq (i := z_fac w * z_fac (s.1 0 - w)) (j := 0) (by omega) (by decide)
      have e2 : ¬ z_fac w * z_fac (s.1 0 - w) = 0 := by omega
      have e3 : (nI (z_fac w * z_fac (s.1 0 - w)) = 0) = False := n_ne0 (by omega) b1
      simp only [u92_0, u92_1, u92_4, u92_5, u92_6, u92_9, u92_12, u92_15, u92_16, u92_19, u92_20, u92_21, u92_24, u92_27, u92_28, u92_29, u92_32, u92_35, u92_36, u92_37, u92_38, u92_41, u92_42, u92_45, u92_48, u92_51, u92_53, u92_56, u92_57, u92_60, u92_63, u92_64, u92_67, u92_68, u92_70, u92_72, u92_75, u92_78, u92_79, u92_81, u92_83, u92_84, u92_87, u92_88, u92_91, u92_92, u92_94, u92_95, e92, q_push_s, q_push_n, q_sm_0, q_sm_i, q_sm_r, q_sm_n, q_sm_l, q_c1_0, q_c1_i, q_c1_r, q_c1_n, Nat.zero_add, Nat.reduceAdd, Nat.reduceMul, Nat.reduceSub, Nat.reduceLeDiff, Nat.reduceLT, Nat.reduceEqDiff, true_and, and_true, not_false_eq_true, if_true, if_false, ite_true, ite_false, or_true, true_or, or_false, false_or, not_true_eq_false, gf0_2, gf3_0, l.cl.n, a0, a1, a2, p0, p1, p2, n_sub (a := s.1 0) (b := w) a2, c_at (j := s.1 0) (sh902 hT5) (by decide) (by decide) (show s.1 0 < 7 by omega), c_at (j := w) (sh902 hT5) (by decide) (by decide) (show w < 7 by omega), c_at (j := s.1 0 - w) (sh902 hT5) (by decide) (by decide) (show s.1 0 - w < 7 by omega), c_at (j := s.1 0 - w) (sh903 hT5) (by decide) (by decide) (show s.1 0 - w < 7 by omega), (l.fac (s.1 0) (by omega)).1, (l.fac w (by omega)).1, (l.fac (s.1 0 - w) (by omega)).1, (l.fac (s.1 0 - w) (by omega)).2, n_mul, e1, e2, e3, n_div (a := z_fac (s.1 0)) (d := z_fac w * z_fac (s.1 0 - w)) (by omega) b1 (by omega), Nat.zero_le, Nat.reduceLeDiff]
      refine c_low7 b5 b4 b3 hp ?_
      simp only [u92_98, q_push_s, q_push_n, q_sm_0, q_sm_i, q_sm_r, q_sm_n, q_sm_l, q_c1_0, q_c1_i, q_c1_r, q_c1_n, Nat.zero_add, Nat.reduceAdd, Nat.reduceMul, Nat.reduceSub, Nat.reduceLeDiff, Nat.reduceLT, Nat.reduceEqDiff, true_and, and_true, not_false_eq_true, if_true, if_false, ite_true, ite_false, or_true, true_or, or_false, false_or, not_true_eq_false]
      simp only [u192_0, u192_1, u192_2, u192_3, u192_6, u192_9, u192_12, u192_13, u192_14, u192_15, u192_18, u192_21, u192_24, u192_25, u192_26, u192_27, u192_28, u192_30, u192_31, e192, q_push_s, q_push_n, q_sm_0, q_sm_i, q_sm_r, q_sm_n, q_sm_l, q_c1_0, q_c1_i, q_c1_r, q_c1_n, Nat.zero_add, Nat.reduceAdd, Nat.reduceMul, Nat.reduceSub, Nat.reduceLeDiff, Nat.reduceLT, Nat.reduceEqDiff, true_and, and_true, not_false_eq_true, if_true, if_false, ite_true, ite_false, or_true, true_or, or_false, false_or, not_true_eq_false, gf38_0, l.mo.n, c_in, and_self, a0, a1, a2, p0, p1, p2, z_b_z, Nat.zero_le, Nat.reduceLeDiff]
      refine l_chan h6 (by omega) _ (d + 1) (s.1 0 ^ s.1 0) 0 (0, 0) m (by omega) l.mo.n (fun m1 f1 => ?_) (of_eq_true (q_c1_i _))
      have hen := z_enum z_tt (z_cA (s.1 0) w) h6 (0, 0)
      rw [hen, hch]
      simp only [u192_82, u192_83, u192_85, u192_86, q_push_s, q_push_n, q_sm_0, q_sm_i, q_sm_r, q_sm_n, q_sm_l, q_c1_0, q_c1_i, q_c1_r, q_c1_n, Nat.zero_add, Nat.reduceAdd, Nat.reduceMul, Nat.reduceSub, Nat.reduceLeDiff, Nat.reduceLT, Nat.reduceEqDiff, true_and, and_true, not_false_eq_true, if_true, if_false, ite_true, ite_false, or_true, true_or, or_false, false_or, not_true_eq_false, Nat.zero_le, Nat.reduceLeDiff]
      refine c_low8 b5 b4 b3 hp ?_
      simp only [u192_89, q_push_s, q_push_n, q_sm_0, q_sm_i, q_sm_r, q_sm_n, q_sm_l, q_c1_0, q_c1_i, q_c1_r, q_c1_n, Nat.zero_add, Nat.reduceAdd, Nat.reduceMul, Nat.reduceSub, Nat.reduceLeDiff, Nat.reduceLT, Nat.reduceEqDiff, true_and, and_true, not_false_eq_true, if_true, if_false, ite_true, ite_false, or_true, true_or, or_false, false_or, not_true_eq_false]
      exact hK _ _ (l.fr (FR.of56 f1))
    · rcases z_is_f (n := 1) (by decide) hb with q | ⟨q1, q2⟩
      · simp only [u92_0, u92_1, u92_4, u92_5, u92_6, u92_9, u92_12, u92_15, u92_16, u92_19, u92_20, u92_21, u92_24, u92_27, e92, u192_0, u192_1, u192_2, u192_3, u192_6, u192_9, u192_12, u192_13, u192_14, u192_15, u192_18, u192_21, u192_24, e192, q_push_s, q_push_n, q_sm_0, q_sm_i, q_sm_r, q_sm_n, q_sm_l, q_c1_0, q_c1_i, q_c1_r, q_c1_n, Nat.zero_add, Nat.reduceAdd, Nat.reduceMul, Nat.reduceSub, Nat.reduceLeDiff, Nat.reduceLT, Nat.reduceEqDiff, true_and, and_true, not_false_eq_true, if_true, if_false, ite_true, ite_false, or_true, true_or, or_false, false_or, not_true_eq_false, gf0_2, gf3_0, gf38_0, l.cl.n, l.mo.n, c_in, and_self, a0, a1, a2, z_b_z, q, false_and, Nat.zero_le, Nat.reduceLeDiff]
        exact hK _ _ l
      · simp only [u92_0, u92_1, u92_4, u92_5, u92_6, u92_9, u92_12, u92_15, u92_16, u92_19, u92_20, u92_21, u92_24, u92_27, e92, u192_0, u192_1, u192_2, u192_3, u192_6, u192_9, u192_12, u192_13, u192_14, u192_15, u192_18, u192_21, u192_24, e192, q_push_s, q_push_n, q_sm_0, q_sm_i, q_sm_r, q_sm_n, q_sm_l, q_c1_0, q_c1_i, q_c1_r, q_c1_n, Nat.zero_add, Nat.reduceAdd, Nat.reduceMul, Nat.reduceSub, Nat.reduceLeDiff, Nat.reduceLT, Nat.reduceEqDiff, true_and, and_true, not_false_eq_true, if_true, if_false, ite_true, ite_false, or_true, true_or, or_false, false_or, not_true_eq_false, gf0_2, gf3_0, gf38_0, l.cl.n, l.mo.n, c_in, and_self, a0, a1, a2, z_b_z, q1, q2, and_false, Nat.zero_le, Nat.reduceLeDiff]
        exact hK _ _ l
  · rcases z_is_f (n := s.1 0) (by omega) ha with q | ⟨q1, q2⟩
    · simp only [u92_0, u92_1, u92_4, u92_5, u92_6, u92_9, u92_12, u92_15, u92_16, u92_19, u92_20, u92_21, u92_24, u92_27, e92, u192_0, u192_1, u192_2, u192_3, u192_6, u192_9, u192_12, u192_13, u192_14, u192_15, u192_18, u192_21, u192_24, e192, q_push_s, q_push_n, q_sm_0, q_sm_i, q_sm_r, q_sm_n, q_sm_l, q_c1_0, q_c1_i, q_c1_r, q_c1_n, Nat.zero_add, Nat.reduceAdd, Nat.reduceMul, Nat.reduceSub, Nat.reduceLeDiff, Nat.reduceLT, Nat.reduceEqDiff, true_and, and_true, not_false_eq_true, if_true, if_false, ite_true, ite_false, or_true, true_or, or_false, false_or, not_true_eq_false, gf38_0, c_in, z_b_z, q, false_and, Nat.zero_le, Nat.reduceLeDiff]
      exact hK _ _ l
    · simp only [u92_0, u92_1, u92_4, u92_5, u92_6, u92_9, u92_12, u92_15, u92_16, u92_19, u92_20, u92_21, u92_24, u92_27, e92, u192_0, u192_1, u192_2, u192_3, u192_6, u192_9, u192_12, u192_13, u192_14, u192_15, u192_18, u192_21, u192_24, e192, q_push_s, q_push_n, q_sm_0, q_sm_i, q_sm_r, q_sm_n, q_sm_l, q_c1_0, q_c1_i, q_c1_r, q_c1_n, Nat.zero_add, Nat.reduceAdd, Nat.reduceMul, Nat.reduceSub, Nat.reduceLeDiff, Nat.reduceLT, Nat.reduceEqDiff, true_and, and_true, not_false_eq_true, if_true, if_false, ite_true, ite_false, or_true, true_or, or_false, false_or, not_true_eq_false, gf0_2, gf3_0, gf38_0, l.cl.n, l.mo.n, c_in, z_b_z, q1, q2, and_false, Nat.zero_le, Nat.reduceLeDiff]
      exact hK _ _ l
end
