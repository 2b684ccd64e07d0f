/-! ===== lots ===== -/
def z_swap (dr : Nat → Nat) (k q : Nat) : Nat → Nat := fun i => if i = q then dr k else if i = k then dr q else dr i
def z_dl : Nat → Nat → (Nat → Nat) → (Nat → Nat)
  | 0, _, dr => dr
  | k + 1, lot, dr => z_dl k (lot * 48271 % 2147483647) (z_swap dr (k + 1) (lot * 48271 % 2147483647 % (k + 2)))
def z_draw (n seed : Nat) : Nat → Nat := z_dl (n - 1) (seed + 1) (fun i => i)
theorem z_dl_lt {n : Nat} : ∀ k lot dr, k < n → (∀ i, i < n → dr i < n) → ∀ i, i < n → z_dl k lot dr i < n
  | 0, _, _, _, h, i, hi => h i hi
  | k + 1, lot, dr, hk, h, i, hi => by
    refine z_dl_lt k _ _ (by omega) (fun i hi => ?_) i hi
    have hq : lot * 48271 % 2147483647 % (k + 2) < k + 2 := Nat.mod_lt _ (by omega)
    unfold z_swap
    split
    · exact h _ (by omega)
    · split
      · exact h _ (by omega)
      · exact h i hi
theorem z_draw_lt {n seed : Nat} : ∀ i, i < n → z_draw n seed i < n := fun i hi => z_dl_lt (n - 1) _ _ (by omega) (fun i hi => hi) i hi
def z_slf (dr : Nat → Nat) (g : Nat) : Bool := decide (dr g = g)
theorem z_slfT {dr : Nat → Nat} {g : Nat} : z_slf dr g = true ↔ dr g = g := decide_eq_true_iff
/-- a draw as digits -/
def z_dg (dr : Nat → Nat) : Nat → Nat
  | 0 => 0
  | k + 1 => z_dg dr k * 10 + dr k + 1
section
variable {T : List Nat} {L : Nat} {s : ZS} {tx : Nat → Nat → List Nat} {n : Nat} {h : ZH} {m : q_M} {K : Option Value → q_G → q_M → Prop}
theorem n_lrem {a b : Nat} (ha : a < 2 ^ 63) (h0 : 0 < b) (hb : b < 2 ^ 63) : lN a - lN (a / b) * lN b = lN (a % b) := by
  rw [← pk_lDiv ha h0 hb]
  exact pk_lRem ha h0 hb
theorem n_lrem2 {a b : Nat} (ha : a < 2 ^ 63) (h0 : 0 < b) (hb : b < 2 ^ 63) : lN a - lN (a / b * b) = lN (a % b) := by
  rw [← lN_mul, n_lrem ha h0 hb]
theorem n_l0 {b : Nat} (h0 : 0 < b) (hb : b < 2 ^ 63) : (lN b = 0) = False := by
  rw [show (0 : Int64) = lN 0 from rfl, pk_lEQ hb (by decide)]
  exact eq_false (by omega)
theorem l_byl1 {N : Nat} (hN : N ≤ 6) (x1 : Option Value) (d : Nat) : ∀ c i m, i + c = N → m 3 0 = nI N → (∀ m', (∀ p, p ≠ 18 → m' p = m p) → (∀ x, x < N → m' 18 x = if i ≤ x then nI x else m 18 x) → q_R 20 28 (d + 1) [some (.ref 1), x1, some (.int (nI N)), none, none, none, none] [] (GG T L) m' K) → (q_c1 x1 = true) →
    q_R 20 2 (d + 1) [some (.ref 1), x1, some (.int (nI i)), none, none, none, none] [] (GG T L) m K
  | 0, i, m, hi, h0, hK, hx => by
    have e : i = N := by omega
    subst e
    simp only [u20_2, u20_3, u20_4, u20_7, u20_10, q_push_s, q_push_n, q_sm_0, q_sm_i, q_sm_r, q_sm_n, q_sm_l, q_c1_0, q_c1_i, q_c1_r, q_c1_n, Nat.zero_add, Nat.reduceAdd, Nat.reduceMul, Nat.reduceSub, Nat.reduceLeDiff, Nat.reduceLT, Nat.reduceEqDiff, true_and, and_true, not_false_eq_true, if_true, if_false, ite_true, ite_false, or_true, true_or, or_false, false_or, not_true_eq_false, gf1_1, gf3_0, h0, n_lt (i := i) (j := i) (by omega) (by omega), Nat.lt_irrefl]
    exact hK m (fun _ _ => rfl) (fun x hx => by rw [if_neg (by omega)])
  | c + 1, i, m, hi, h0, hK, hx => by
    have e : i < N := by omega
    rw [u20_2]
    simp only [u20_3, u20_4, u20_7, u20_10, u20_13, u20_14, u20_17, u20_18, u20_19, u20_22, u20_25, q_push_s, q_push_n, q_sm_0, q_sm_i, q_sm_r, q_sm_n, q_sm_l, q_c1_0, q_c1_i, q_c1_r, q_c1_n, Nat.zero_add, Nat.reduceAdd, Nat.reduceMul, Nat.reduceSub, Nat.reduceLeDiff, Nat.reduceLT, Nat.reduceEqDiff, true_and, and_true, not_false_eq_true, if_true, if_false, ite_true, ite_false, or_true, true_or, or_false, false_or, not_true_eq_false, gf1_1, gf1_5, gf3_0, h0, n_lt (i := i) (j := N) (by omega) (by omega), e, c_put (j := i) sh18 (by decide) (by decide) (show i < 6 by omega), n_add, hx, Nat.zero_le, Nat.reduceLeDiff]
    refine l_byl1 hN x1 d c (i + 1) _ (by omega) (by rw [q_up_f _ _ _ (by decide)]; exact h0) (fun m' f1 f2 => hK m' (fun p hp => (f1 p hp).trans (q_up_f _ _ _ hp)) (fun x hx => ?_)) hx
    rw [f2 x hx]
    by_cases q : x = i
    · subst q; rw [if_neg (by omega), if_pos (by omega), q_up_eq]
    · rw [q_up_i _ _ q]
      by_cases q2 : i ≤ x
      · rw [if_pos q2, if_pos (by omega)]
      · rw [if_neg q2, if_neg (by omega)]
theorem l_byl2 {N : Nat} (hN : N ≤ 6) (x1 : Option Value) (hx1 : q_c1 x1 = true) (d : Nat) : ∀ k lot dr m x5 x6, q_c1 x5 = true → q_c1 x6 = true → k < N → lot < 2147483648 → (∀ i, i < N → m 18 i = nI (dr i)) → (∀ m', (∀ p, p ≠ 18 → m' p = m p) → (∀ i, i < N → m' 18 i = nI (z_dl k lot dr i)) → K none (GG T L) m') →
    q_R 20 44 (d + 1) [some (.ref 1), x1, some (.long (lN lot)), none, some (.int (nI k)), x5, x6] [] (GG T L) m K
  | 0, lot, dr, m, x5, x6, h5, h6, hk, hl, hd, hK => by
    simp only [u20_44, u20_46, u20_47, u20_116, q_push_s, q_push_n, q_sm_0, q_sm_i, q_sm_r, q_sm_n, q_sm_l, q_c1_0, q_c1_i, q_c1_r, q_c1_n, Nat.zero_add, Nat.reduceAdd, Nat.reduceMul, Nat.reduceSub, Nat.reduceLeDiff, Nat.reduceLT, Nat.reduceEqDiff, true_and, and_true, not_false_eq_true, if_true, if_false, ite_true, ite_false, or_true, true_or, or_false, false_or, not_true_eq_false, eq_self, lq_0_1, lq_0_2, lq_0_3, lq_0_4, lq_0_5, lq_0_6, lq_1_0, lq_1_2, lq_1_3, lq_1_4, lq_1_5, lq_1_6, lq_2_0, lq_2_1, lq_2_3, lq_2_4, lq_2_5, lq_2_6, lq_3_0, lq_3_1, lq_3_2, lq_3_4, lq_3_5, lq_3_6, lq_4_0, lq_4_1, lq_4_2, lq_4_3, lq_4_5, lq_4_6, lq_5_0, lq_5_1, lq_5_2, lq_5_3, lq_5_4, lq_5_6, lq_6_0, lq_6_1, lq_6_2, lq_6_3, lq_6_4, lq_6_5, ll_0_0, ll_0_1, ll_0_2, ll_0_3, ll_0_4, ll_0_5, ll_0_6, ll_1_0, ll_1_1, ll_1_2, ll_1_3, ll_1_4, ll_1_5, ll_1_6, ll_2_0, ll_2_1, ll_2_2, ll_2_3, ll_2_4, ll_2_5, ll_2_6, ll_3_0, ll_3_1, ll_3_2, ll_3_3, ll_3_4, ll_3_5, ll_3_6, ll_4_0, ll_4_1, ll_4_2, ll_4_3, ll_4_4, ll_4_5, ll_4_6, ll_5_0, ll_5_1, ll_5_2, ll_5_3, ll_5_4, ll_5_5, ll_5_6, ll_6_0, ll_6_1, ll_6_2, ll_6_3, ll_6_4, ll_6_5, ll_6_6, le_0_0, le_0_1, le_0_2, le_0_3, le_0_4, le_0_5, le_0_6, le_1_0, le_1_1, le_1_2, le_1_3, le_1_4, le_1_5, le_1_6, le_2_0, le_2_1, le_2_2, le_2_3, le_2_4, le_2_5, le_2_6, le_3_0, le_3_1, le_3_2, le_3_3, le_3_4, le_3_5, le_3_6, le_4_0, le_4_1, le_4_2, le_4_3, le_4_4, le_4_5, le_4_6, le_5_0, le_5_1, le_5_2, le_5_3, le_5_4, le_5_5, le_5_6, le_6_0, le_6_1, le_6_2, le_6_3, le_6_4, le_6_5, le_6_6]
    exact hK m (fun _ _ => rfl) hd
  | k + 1, lot, dr, m, x5, x6, h5, h6, hk, hl, hd, hK => by
    have e1 : (nI (k + 1) < nI 1) = False := by rw [n_lt (by omega) (by decide)]; exact eq_false (by omega)
    have hb : lot * 48271 < 2 ^ 63 := by omega
    have hr := Nat.mod_lt (lot * 48271) (show 0 < 2147483647 by decide)
    have hq : lot * 48271 % 2147483647 % (k + 2) < k + 2 := Nat.mod_lt _ (by omega)
    have hq' : lot * 48271 % 2147483647 % (k + 1 + 1) < k + 2 := hq
    have el := nI_l (n := k + 1 + 1) (by omega)
    have hm1 : nI (k + 1) + (-1 : Int32) = nI k := pk_m1 k
    have z1 := n_l0 (b := 2147483647) (by decide) (by decide)
    have z2 := n_l0 (b := k + 1 + 1) (by omega) (by omega)
    have dv1 := pk_lDiv (a := lot * 48271) (b := 2147483647) hb (by decide) (by decide)
    have rm1 := n_lrem2 (a := lot * 48271) (b := 2147483647) hb (by decide) (by decide)
    have dv2 := pk_lDiv (a := lot * 48271 % 2147483647) (b := k + 1 + 1) (by omega) (by omega) (by omega)
    have rm2 := n_lrem2 (a := lot * 48271 % 2147483647) (b := k + 1 + 1) (by omega) (by omega) (by omega)
    rw [u20_44]
    simp only [u20_46, u20_47, u20_50, u20_51, u20_54, u20_55, u20_58, u20_59, u20_60, u20_61, u20_63, u20_64, u20_65, u20_66, u20_67, u20_68, u20_70, u20_71, u20_74, u20_76, u20_79, u20_81, u20_82, u20_85, u20_87, u20_88, u20_91, u20_93, u20_96, u20_99, u20_100, u20_103, u20_105, u20_107, u20_110, u20_113, q_push_s, q_push_n, q_sm_0, q_sm_i, q_sm_r, q_sm_n, q_sm_l, q_c1_0, q_c1_i, q_c1_r, q_c1_n, Nat.zero_add, Nat.reduceAdd, Nat.reduceMul, Nat.reduceSub, Nat.reduceLeDiff, Nat.reduceLT, Nat.reduceEqDiff, true_and, and_true, not_false_eq_true, if_true, if_false, ite_true, ite_false, or_true, true_or, or_false, false_or, not_true_eq_false, e1, lN_mul, z1, dv1, rm1, n_add, el, z2, dv2, rm2, lN_i, gf1_5, hx1, c_at (j := k + 1) sh18 (by decide) (by decide) (show k + 1 < 6 by omega), c_at (j := lot * 48271 % 2147483647 % (k + 1 + 1)) sh18 (by decide) (by decide) (show lot * 48271 % 2147483647 % (k + 1 + 1) < 6 by omega), c_put (j := k + 1) sh18 (by decide) (by decide) (show k + 1 < 6 by omega), c_put (j := lot * 48271 % 2147483647 % (k + 1 + 1)) sh18 (by decide) (by decide) (show lot * 48271 % 2147483647 % (k + 1 + 1) < 6 by omega), hd (k + 1) (by omega), hd (lot * 48271 % 2147483647 % (k + 1 + 1)) (by omega), hm1, Nat.zero_le, Nat.reduceLeDiff]
    refine l_byl2 hN x1 hx1 d k (lot * 48271 % 2147483647) (z_swap dr (k + 1) (lot * 48271 % 2147483647 % (k + 2))) _ _ _ (of_eq_true (q_c1_i _)) (of_eq_true (q_c1_i _)) (by omega) (by omega) (fun i hi => ?_) (fun m' f1 f2 => hK m' (fun p hp => ?_) f2)
    · unfold z_swap
      by_cases q : i = lot * 48271 % 2147483647 % (k + 2)
      · rw [if_pos q, q]; exact q_up_eq _ _ _ _
      · rw [if_neg q, q_up_i _ _ q]
        by_cases q2 : i = k + 1
        · rw [if_pos q2, q2]; exact q_up_eq _ _ _ _
        · rw [if_neg q2, q_up_i _ _ q2]; exact hd i hi
    · rw [f1 p hp, q_up_f _ _ _ hp, q_up_f _ _ _ hp]
theorem CJ.byLots {d seed : Nat} (l : CJ T L s tx n h m) (hs : seed < 200000) (hK : ∀ m', (∀ p, p ≠ 18 → m' p = m p) → (∀ i, i < s.1 0 → m' 18 i = nI (z_draw (s.1 0) seed i)) → K none (GG T L) m') : q_C 20 (d + 1) [.ref 1, .int (nI seed)] (GG T L) m K := by
  have h6 := l.bz.1
  simp only [e20, u20_0, u20_1, q_push_s, q_push_n, q_sm_0, q_sm_i, q_sm_r, q_sm_n, q_sm_l, q_c1_0, q_c1_i, q_c1_r, q_c1_n, Nat.zero_add, Nat.reduceAdd, Nat.reduceMul, Nat.reduceSub, Nat.reduceLeDiff, Nat.reduceLT, Nat.reduceEqDiff, true_and, and_true, not_false_eq_true, if_true, if_false, ite_true, ite_false, or_true, true_or, or_false, false_or, not_true_eq_false]
  refine l_byl1 h6 _ d (s.1 0) 0 m (by omega) l.cl.n (fun m1 f1 f2 => ?_) (of_eq_true (q_c1_i _))
  have e3 : m1 3 0 = nI (s.1 0) := by rw [f1 3 (by decide)]; exact l.cl.n
  have el := nI_l (n := seed) (by omega)
  by_cases h0 : s.1 0 = 0
  · have e1 : (nI 0 - nI 1 < nI 1) = True := eq_true (by decide)
    simp only [u20_28, u20_29, u20_30, u20_31, u20_32, u20_33, u20_34, u20_37, u20_40, u20_41, u20_42, u20_44, u20_46, u20_47, u20_116, q_push_s, q_push_n, q_sm_0, q_sm_i, q_sm_r, q_sm_n, q_sm_l, q_c1_0, q_c1_i, q_c1_r, q_c1_n, Nat.zero_add, Nat.reduceAdd, Nat.reduceMul, Nat.reduceSub, Nat.reduceLeDiff, Nat.reduceLT, Nat.reduceEqDiff, true_and, and_true, not_false_eq_true, if_true, if_false, ite_true, ite_false, or_true, true_or, or_false, false_or, not_true_eq_false, gf1_1, gf3_0, e3, h0, el, lN_add, e1]
    exact hK m1 f1 (fun i hi => absurd hi (by omega))
  · simp only [u20_28, u20_29, u20_30, u20_31, u20_32, u20_33, u20_34, u20_37, u20_40, u20_41, u20_42, q_push_s, q_push_n, q_sm_0, q_sm_i, q_sm_r, q_sm_n, q_sm_l, q_c1_0, q_c1_i, q_c1_r, q_c1_n, Nat.zero_add, Nat.reduceAdd, Nat.reduceMul, Nat.reduceSub, Nat.reduceLeDiff, Nat.reduceLT, Nat.reduceEqDiff, true_and, and_true, not_false_eq_true, if_true, if_false, ite_true, ite_false, or_true, true_or, or_false, false_or, not_true_eq_false, gf1_1, gf3_0, e3, el, lN_add, n_sub (a := s.1 0) (b := 1) (by omega)]
    exact l_byl2 h6 _ (of_eq_true (q_c1_i _)) d (s.1 0 - 1) (seed + 1) (fun i => i) m1 _ _ (of_eq_true q_c1_0) (of_eq_true q_c1_0) (by omega) (by omega) (fun i hi => by rw [f2 i hi, if_pos (by omega)]) (fun m' g1 g2 => hK m' (fun p hp => (g1 p hp).trans (f1 p hp)) g2)
theorem l_dby1 {N : Nat} (hN : N ≤ 6) (x1 : Option Value) (lot : Int64) (d : Nat) : ∀ c i m, i + c = N → m 38 0 = nI N → (∀ m', (∀ p, p ≠ 56 → m' p = m p) → (∀ x, x < N → m' 56 x = if i ≤ x then nI x else m 56 x) → q_R 186 32 d [some (.ref 38), x1, some (.long lot), none, some (.int (nI N)), none, none] [] (GG T L) m' K) →
    q_R 186 8 d [some (.ref 38), x1, some (.long lot), none, some (.int (nI i)), none, none] [] (GG T L) m K
  | 0, i, m, hi, h0, hK => by
    have e : i = N := by omega
    subst e
    simp only [u186_8, u186_10, u186_11, u186_14, q_push_s, q_push_n, q_sm_0, q_sm_i, q_sm_r, q_sm_n, q_sm_l, q_c1_0, q_c1_i, q_c1_r, q_c1_n, Nat.zero_add, Nat.reduceAdd, Nat.reduceMul, Nat.reduceSub, Nat.reduceLeDiff, Nat.reduceLT, Nat.reduceEqDiff, true_and, and_true, not_false_eq_true, if_true, if_false, ite_true, ite_false, or_true, true_or, or_false, false_or, not_true_eq_false, gf38_0, h0, n_lt (i := i) (j := i) (by omega) (by omega), Nat.lt_irrefl]
    exact hK m (fun _ _ => rfl) (fun x hx => by rw [if_neg (by omega)])
  | c + 1, i, m, hi, h0, hK => by
    have e : i < N := by omega
    have ci : (nI i).toNatClampNeg = i := n_cl (by omega)
    rw [u186_8]
    simp only [u186_10, u186_11, u186_14, u186_17, u186_18, u186_21, u186_23, u186_25, u186_26, u186_29, q_push_s, q_push_n, q_sm_0, q_sm_i, q_sm_r, q_sm_n, q_sm_l, q_c1_0, q_c1_i, q_c1_r, q_c1_n, Nat.zero_add, Nat.reduceAdd, Nat.reduceMul, Nat.reduceSub, Nat.reduceLeDiff, Nat.reduceLT, Nat.reduceEqDiff, true_and, and_true, not_false_eq_true, if_true, if_false, ite_true, ite_false, or_true, true_or, or_false, false_or, not_true_eq_false, gf38_0, gf38_35, h0, n_lt (i := i) (j := N) (by omega) (by omega), e, is56 (i := i) (by omega), ci, n_add]
    refine l_dby1 hN x1 lot d c (i + 1) _ (by omega) (by rw [q_up_f _ _ _ (by decide)]; exact h0) (fun m' f1 f2 => hK m' (fun p hp => (f1 p hp).trans (q_up_f _ _ _ hp)) (fun x hx => ?_))
    rw [f2 x hx]
    by_cases q : x = i
    · subst q; rw [if_neg (by omega), if_pos (by omega), q_up_eq]
    · rw [q_up_i _ _ q]
      by_cases q2 : i ≤ x
      · rw [if_pos q2, if_pos (by omega)]
      · rw [if_neg q2, if_neg (by omega)]
theorem l_dby2 {N : Nat} (hN : N ≤ 6) (x1 : Option Value) (hx1 : q_c1 x1 = true) (d : Nat) : ∀ k lot dr m x5 x6, q_c1 x5 = true → q_c1 x6 = true → k < N → lot < 2147483648 → (∀ i, i < N → m 56 i = nI (dr i)) → (∀ m', (∀ p, p ≠ 56 → m' p = m p) → (∀ i, i < N → m' 56 i = nI (z_dl k lot dr i)) → K none (GG T L) m') →
    q_R 186 40 d [some (.ref 38), x1, some (.long (lN lot)), none, some (.int (nI k)), x5, x6] [] (GG T L) m K
  | 0, lot, dr, m, x5, x6, h5, h6, hk, hl, hd, hK => by
    simp only [u186_40, u186_42, u186_103, q_push_s, q_push_n, q_sm_0, q_sm_i, q_sm_r, q_sm_n, q_sm_l, q_c1_0, q_c1_i, q_c1_r, q_c1_n, Nat.zero_add, Nat.reduceAdd, Nat.reduceMul, Nat.reduceSub, Nat.reduceLeDiff, Nat.reduceLT, Nat.reduceEqDiff, true_and, and_true, not_false_eq_true, if_true, if_false, ite_true, ite_false, or_true, true_or, or_false, false_or, not_true_eq_false, eq_self, lq_0_1, lq_0_2, lq_0_3, lq_0_4, lq_0_5, lq_0_6, lq_1_0, lq_1_2, lq_1_3, lq_1_4, lq_1_5, lq_1_6, lq_2_0, lq_2_1, lq_2_3, lq_2_4, lq_2_5, lq_2_6, lq_3_0, lq_3_1, lq_3_2, lq_3_4, lq_3_5, lq_3_6, lq_4_0, lq_4_1, lq_4_2, lq_4_3, lq_4_5, lq_4_6, lq_5_0, lq_5_1, lq_5_2, lq_5_3, lq_5_4, lq_5_6, lq_6_0, lq_6_1, lq_6_2, lq_6_3, lq_6_4, lq_6_5, ll_0_0, ll_0_1, ll_0_2, ll_0_3, ll_0_4, ll_0_5, ll_0_6, ll_1_0, ll_1_1, ll_1_2, ll_1_3, ll_1_4, ll_1_5, ll_1_6, ll_2_0, ll_2_1, ll_2_2, ll_2_3, ll_2_4, ll_2_5, ll_2_6, ll_3_0, ll_3_1, ll_3_2, ll_3_3, ll_3_4, ll_3_5, ll_3_6, ll_4_0, ll_4_1, ll_4_2, ll_4_3, ll_4_4, ll_4_5, ll_4_6, ll_5_0, ll_5_1, ll_5_2, ll_5_3, ll_5_4, ll_5_5, ll_5_6, ll_6_0, ll_6_1, ll_6_2, ll_6_3, ll_6_4, ll_6_5, ll_6_6, le_0_0, le_0_1, le_0_2, le_0_3, le_0_4, le_0_5, le_0_6, le_1_0, le_1_1, le_1_2, le_1_3, le_1_4, le_1_5, le_1_6, le_2_0, le_2_1, le_2_2, le_2_3, le_2_4, le_2_5, le_2_6, le_3_0, le_3_1, le_3_2, le_3_3, le_3_4, le_3_5, le_3_6, le_4_0, le_4_1, le_4_2, le_4_3, le_4_4, le_4_5, le_4_6, le_5_0, le_5_1, le_5_2, le_5_3, le_5_4, le_5_5, le_5_6, le_6_0, le_6_1, le_6_2, le_6_3, le_6_4, le_6_5, le_6_6]
    exact hK m (fun _ _ => rfl) hd
  | k + 1, lot, dr, m, x5, x6, h5, h6, hk, hl, hd, hK => by
    have e1 : (nI (k + 1) ≤ nI 0) = False := by rw [n_le (by omega) (by decide)]; exact eq_false (by omega)
    have hb : lot * 48271 < 2 ^ 63 := by omega
    have hr := Nat.mod_lt (lot * 48271) (show 0 < 2147483647 by decide)
    have hq : lot * 48271 % 2147483647 % (k + 2) < k + 2 := Nat.mod_lt _ (by omega)
    have hq' : lot * 48271 % 2147483647 % (k + 1 + 1) < k + 2 := hq
    have el := nI_l (n := k + 1 + 1) (by omega)
    have hm1 : nI (k + 1) + (-1 : Int32) = nI k := pk_m1 k
    have z1 := n_l0 (b := 2147483647) (by decide) (by decide)
    have z2 := n_l0 (b := k + 1 + 1) (by omega) (by omega)
    have dv1 := pk_lDiv (a := lot * 48271) (b := 2147483647) hb (by decide) (by decide)
    have rm1 := n_lrem2 (a := lot * 48271) (b := 2147483647) hb (by decide) (by decide)
    have dv2 := pk_lDiv (a := lot * 48271 % 2147483647) (b := k + 1 + 1) (by omega) (by omega) (by omega)
    have rm2 := n_lrem2 (a := lot * 48271 % 2147483647) (b := k + 1 + 1) (by omega) (by omega) (by omega)
    have c1 : (nI (k + 1)).toNatClampNeg = k + 1 := n_cl (by omega)
    have c2 : (nI (lot * 48271 % 2147483647 % (k + 1 + 1))).toNatClampNeg = lot * 48271 % 2147483647 % (k + 1 + 1) := n_cl (by omega)
    rw [u186_40]
    simp only [u186_42, u186_45, u186_46, u186_49, u186_50, u186_53, u186_54, u186_55, u186_56, u186_58, u186_59, u186_60, u186_61, u186_62, u186_63, u186_65, u186_66, u186_69, u186_71, u186_72, u186_74, u186_75, u186_78, u186_80, u186_81, u186_84, u186_86, u186_87, u186_88, u186_89, u186_92, u186_94, u186_96, u186_97, u186_100, q_push_s, q_push_n, q_sm_0, q_sm_i, q_sm_r, q_sm_n, q_sm_l, q_c1_0, q_c1_i, q_c1_r, q_c1_n, Nat.zero_add, Nat.reduceAdd, Nat.reduceMul, Nat.reduceSub, Nat.reduceLeDiff, Nat.reduceLT, Nat.reduceEqDiff, true_and, and_true, not_false_eq_true, if_true, if_false, ite_true, ite_false, or_true, true_or, or_false, false_or, not_true_eq_false, e1, lN_mul, z1, dv1, rm1, n_add, el, z2, dv2, rm2, lN_i, gf38_35, hx1, ia56 (i := k + 1) (by omega), ia56 (i := lot * 48271 % 2147483647 % (k + 1 + 1)) (by omega), is56 (i := k + 1) (by omega), is56 (i := lot * 48271 % 2147483647 % (k + 1 + 1)) (by omega), c1, c2, hd (k + 1) (by omega), hd (lot * 48271 % 2147483647 % (k + 1 + 1)) (by omega), hm1]
    refine l_dby2 hN x1 hx1 d k (lot * 48271 % 2147483647) (z_swap dr (k + 1) (lot * 48271 % 2147483647 % (k + 2))) _ _ _ (of_eq_true (q_c1_i _)) (of_eq_true (q_c1_i _)) (by omega) (by omega) (fun i hi => ?_) (fun m' f1 f2 => hK m' (fun p hp => ?_) f2)
    · unfold z_swap
      by_cases q : i = lot * 48271 % 2147483647 % (k + 2)
      · rw [if_pos q, q]; exact q_up_eq _ _ _ _
      · rw [if_neg q, q_up_i _ _ q]
        by_cases q2 : i = k + 1
        · rw [if_pos q2, q2]; exact q_up_eq _ _ _ _
        · rw [if_neg q2, q_up_i _ _ q2]; exact hd i hi
    · rw [f1 p hp, q_up_f _ _ _ hp, q_up_f _ _ _ hp]
theorem RJ.drawsBy {d seed : Nat} (l : RJ s tx n h m) (hs : seed < 200000) (hK : ∀ m', (∀ p, p ≠ 56 → m' p = m p) → (∀ i, i < s.1 0 → m' 56 i = nI (z_draw (s.1 0) seed i)) → K none (GG T L) m') : q_C 186 d [.ref 38, .int (nI seed)] (GG T L) m K := by
  have h6 := l.bz.1
  have el := nI_l (n := seed) (by omega)
  simp only [e186, u186_0, u186_1, u186_2, u186_3, u186_4, u186_5, u186_6, q_push_s, q_push_n, q_sm_0, q_sm_i, q_sm_r, q_sm_n, q_sm_l, q_c1_0, q_c1_i, q_c1_r, q_c1_n, Nat.zero_add, Nat.reduceAdd, Nat.reduceMul, Nat.reduceSub, Nat.reduceLeDiff, Nat.reduceLT, Nat.reduceEqDiff, true_and, and_true, not_false_eq_true, if_true, if_false, ite_true, ite_false, or_true, true_or, or_false, false_or, not_true_eq_false, el, lN_add]
  refine l_dby1 h6 _ _ d (s.1 0) 0 m (by omega) l.mo.n (fun m1 f1 f2 => ?_)
  have e3 : m1 38 0 = nI (s.1 0) := by rw [f1 38 (by decide)]; exact l.mo.n
  by_cases h0 : s.1 0 = 0
  · have e1 : (nI 0 - nI 1 ≤ nI 0) = True := eq_true (by decide)
    simp only [u186_32, u186_33, u186_36, u186_37, u186_38, u186_40, u186_42, u186_103, q_push_s, q_push_n, q_sm_0, q_sm_i, q_sm_r, q_sm_n, q_sm_l, q_c1_0, q_c1_i, q_c1_r, q_c1_n, Nat.zero_add, Nat.reduceAdd, Nat.reduceMul, Nat.reduceSub, Nat.reduceLeDiff, Nat.reduceLT, Nat.reduceEqDiff, true_and, and_true, not_false_eq_true, if_true, if_false, ite_true, ite_false, or_true, true_or, or_false, false_or, not_true_eq_false, gf38_0, e3, h0, e1]
    exact hK m1 f1 (fun i hi => absurd hi (by omega))
  · simp only [u186_32, u186_33, u186_36, u186_37, u186_38, q_push_s, q_push_n, q_sm_0, q_sm_i, q_sm_r, q_sm_n, q_sm_l, q_c1_0, q_c1_i, q_c1_r, q_c1_n, Nat.zero_add, Nat.reduceAdd, Nat.reduceMul, Nat.reduceSub, Nat.reduceLeDiff, Nat.reduceLT, Nat.reduceEqDiff, true_and, and_true, not_false_eq_true, if_true, if_false, ite_true, ite_false, or_true, true_or, or_false, false_or, not_true_eq_false, gf38_0, e3, n_sub (a := s.1 0) (b := 1) (by omega)]
    exact l_dby2 h6 _ (of_eq_true (q_c1_i _)) d (s.1 0 - 1) (seed + 1) (fun i => i) m1 _ _ (of_eq_true q_c1_0) (of_eq_true q_c1_0) (by omega) (by omega) (fun i hi => by rw [f2 i hi, if_pos (by omega)]) (fun m' g1 g2 => hK m' (fun p hp => (g1 p hp).trans (f1 p hp)) g2)
theorem l_selves {N : Nat} {dr : Nat → Nat} (hN : N ≤ 6) (h0 : m 3 0 = nI N) (hd : ∀ i, i < N → m 18 i = nI (dr i)) (hdl : ∀ i, i < N → dr i < N) (d : Nat) : ∀ c i, i + c = N → (q_R 21 4 (d + 1) [some (.ref 1), some (.int (nI (z_bs (z_slf dr) i))), some (.int (nI i))] [] (GG T L) m K ↔ K (some (.int (nI (z_bs (z_slf dr) N)))) (GG T L) m)
  | 0, i, hi => by
    have e : i = N := by omega
    subst e
    simp only [u21_4, u21_5, u21_6, u21_9, u21_12, u21_39, u21_40, q_push_s, q_push_n, q_sm_0, q_sm_i, q_sm_r, q_sm_n, q_sm_l, q_c1_0, q_c1_i, q_c1_r, q_c1_n, Nat.zero_add, Nat.reduceAdd, Nat.reduceMul, Nat.reduceSub, Nat.reduceLeDiff, Nat.reduceLT, Nat.reduceEqDiff, true_and, and_true, not_false_eq_true, if_true, if_false, ite_true, ite_false, or_true, true_or, or_false, false_or, not_true_eq_false, gf1_1, gf3_0, h0, n_lt (i := i) (j := i) (by omega) (by omega), Nat.lt_irrefl]
  | c + 1, i, hi => by
    have e : i < N := by omega
    have hdi := hdl i e
    have es : z_bs (z_slf dr) (i + 1) = if z_slf dr i then z_bs (z_slf dr) i ||| 2 ^ i else z_bs (z_slf dr) i := rfl
    have rec2 := l_selves hN h0 hd hdl d c (i + 1) (by omega)
    rw [es] at rec2
    rw [u21_4]
    simp only [u21_5, u21_6, u21_9, u21_12, u21_15, u21_16, u21_19, u21_20, u21_23, u21_24, u21_27, u21_28, u21_29, u21_30, u21_31, u21_32, u21_33, u21_36, q_push_s, q_push_n, q_sm_0, q_sm_i, q_sm_r, q_sm_n, q_sm_l, q_c1_0, q_c1_i, q_c1_r, q_c1_n, Nat.zero_add, Nat.reduceAdd, Nat.reduceMul, Nat.reduceSub, Nat.reduceLeDiff, Nat.reduceLT, Nat.reduceEqDiff, true_and, and_true, not_false_eq_true, if_true, if_false, ite_true, ite_false, or_true, true_or, or_false, false_or, not_true_eq_false, gf1_1, gf1_5, gf3_0, h0, n_lt (i := i) (j := N) (by omega) (by omega), e, c_at (j := i) sh18 (by decide) (by decide) (show i < 6 by omega), hd i e, n_eq (i := dr i) (j := i) (by omega) (by omega), n_s1 i (by omega), n_or, n_add, Nat.zero_le, Nat.reduceLeDiff]
    by_cases q : dr i = i
    · rw [if_pos q]
      rw [if_pos (z_slfT.mpr q)] at rec2
      exact rec2
    · rw [if_neg q]
      rw [if_neg (fun e => q (z_slfT.mp e))] at rec2
      exact rec2
theorem c_selves {N : Nat} {dr : Nat → Nat} (hN : N ≤ 6) (h0 : m 3 0 = nI N) (hd : ∀ i, i < N → m 18 i = nI (dr i)) (hdl : ∀ i, i < N → dr i < N) (d : Nat) : q_C 21 (d + 1) [.ref 1] (GG T L) m K ↔ K (some (.int (nI (z_bs (z_slf dr) N)))) (GG T L) m := by
  simp only [e21, u21_0, u21_1, u21_2, u21_3, q_push_s, q_push_n, q_sm_0, q_sm_i, q_sm_r, q_sm_n, q_sm_l, q_c1_0, q_c1_i, q_c1_r, q_c1_n, Nat.zero_add, Nat.reduceAdd, Nat.reduceMul, Nat.reduceSub, Nat.reduceLeDiff, Nat.reduceLT, Nat.reduceEqDiff, true_and, and_true, not_false_eq_true, if_true, if_false, ite_true, ite_false, or_true, true_or, or_false, false_or, not_true_eq_false]
  exact l_selves hN h0 hd hdl d N 0 (by omega)
theorem l_thems {N : Nat} {dr : Nat → Nat} (hN : N ≤ 6) (h0 : m 38 0 = nI N) (hd : ∀ i, i < N → m 56 i = nI (dr i)) (hdl : ∀ i, i < N → dr i < N) (d : Nat) : ∀ c i, i + c = N → (q_R 187 4 d [some (.ref 38), some (.int (nI (z_bs (z_slf dr) i))), some (.int (nI i))] [] (GG T L) m K ↔ K (some (.int (nI (z_bs (z_slf dr) N)))) (GG T L) m)
  | 0, i, hi => by
    have e : i = N := by omega
    subst e
    simp only [u187_4, u187_5, u187_6, u187_9, u187_38, u187_39, q_push_s, q_push_n, q_sm_0, q_sm_i, q_sm_r, q_sm_n, q_sm_l, q_c1_0, q_c1_i, q_c1_r, q_c1_n, Nat.zero_add, Nat.reduceAdd, Nat.reduceMul, Nat.reduceSub, Nat.reduceLeDiff, Nat.reduceLT, Nat.reduceEqDiff, true_and, and_true, not_false_eq_true, if_true, if_false, ite_true, ite_false, or_true, true_or, or_false, false_or, not_true_eq_false, gf38_0, h0, n_lt (i := i) (j := i) (by omega) (by omega), Nat.lt_irrefl]
  | c + 1, i, hi => by
    have e : i < N := by omega
    have hdi := hdl i e
    have es : z_bs (z_slf dr) (i + 1) = if z_slf dr i then z_bs (z_slf dr) i ||| 2 ^ i else z_bs (z_slf dr) i := rfl
    have rec2 := l_thems hN h0 hd hdl d c (i + 1) (by omega)
    rw [es] at rec2
    rw [u187_4]
    simp only [u187_5, u187_6, u187_9, u187_12, u187_13, u187_14, u187_17, u187_18, u187_19, u187_20, u187_23, u187_24, u187_25, u187_26, u187_29, u187_30, u187_31, u187_32, u187_35, q_push_s, q_push_n, q_sm_0, q_sm_i, q_sm_r, q_sm_n, q_sm_l, q_c1_0, q_c1_i, q_c1_r, q_c1_n, Nat.zero_add, Nat.reduceAdd, Nat.reduceMul, Nat.reduceSub, Nat.reduceLeDiff, Nat.reduceLT, Nat.reduceEqDiff, true_and, and_true, not_false_eq_true, if_true, if_false, ite_true, ite_false, or_true, true_or, or_false, false_or, not_true_eq_false, gf38_0, gf38_35, h0, n_lt (i := i) (j := N) (by omega) (by omega), e, ia56 (i := i) (by omega), hd i e, n_eq (i := dr i) (j := i) (by omega) (by omega), n_s1 i (by omega), n_or, n_or0, n_add]
    by_cases q : dr i = i
    · rw [if_pos q]
      rw [if_pos (z_slfT.mpr q)] at rec2
      exact rec2
    · rw [if_neg q]
      rw [if_neg (fun e => q (z_slfT.mp e))] at rec2
      exact rec2
theorem c_thems {N : Nat} {dr : Nat → Nat} (hN : N ≤ 6) (h0 : m 38 0 = nI N) (hd : ∀ i, i < N → m 56 i = nI (dr i)) (hdl : ∀ i, i < N → dr i < N) (d : Nat) : q_C 187 d [.ref 38] (GG T L) m K ↔ K (some (.int (nI (z_bs (z_slf dr) N)))) (GG T L) m := by
  simp only [e187, u187_0, u187_1, u187_2, u187_3, q_push_s, q_push_n, q_sm_0, q_sm_i, q_sm_r, q_sm_n, q_sm_l, q_c1_0, q_c1_i, q_c1_r, q_c1_n, Nat.zero_add, Nat.reduceAdd, Nat.reduceMul, Nat.reduceSub, Nat.reduceLeDiff, Nat.reduceLT, Nat.reduceEqDiff, true_and, and_true, not_false_eq_true, if_true, if_false, ite_true, ite_false, or_true, true_or, or_false, false_or, not_true_eq_false]
  exact l_thems hN h0 hd hdl d N 0 (by omega)
theorem l_digits {N : Nat} {dr : Nat → Nat} (hN : N ≤ 6) (h0 : m 3 0 = nI N) (hd : ∀ i, i < N → m 18 i = nI (dr i)) (d : Nat) : ∀ c i, i + c = N → (q_R 22 4 (d + 1) [some (.ref 1), some (.int (nI (z_dg dr i))), some (.int (nI i))] [] (GG T L) m K ↔ K (some (.int (nI (z_dg dr N)))) (GG T L) m)
  | 0, i, hi => by
    have e : i = N := by omega
    subst e
    simp only [u22_4, u22_5, u22_6, u22_9, u22_12, u22_37, u22_38, q_push_s, q_push_n, q_sm_0, q_sm_i, q_sm_r, q_sm_n, q_sm_l, q_c1_0, q_c1_i, q_c1_r, q_c1_n, Nat.zero_add, Nat.reduceAdd, Nat.reduceMul, Nat.reduceSub, Nat.reduceLeDiff, Nat.reduceLT, Nat.reduceEqDiff, true_and, and_true, not_false_eq_true, if_true, if_false, ite_true, ite_false, or_true, true_or, or_false, false_or, not_true_eq_false, gf1_1, gf3_0, h0, n_lt (i := i) (j := i) (by omega) (by omega), Nat.lt_irrefl]
  | c + 1, i, hi => by
    have e : i < N := by omega
    have rec2 := l_digits hN h0 hd d c (i + 1) (by omega)
    rw [show z_dg dr (i + 1) = z_dg dr i * 10 + dr i + 1 from rfl] at rec2
    rw [u22_4]
    simp only [u22_5, u22_6, u22_9, u22_12, u22_15, u22_16, u22_18, u22_19, u22_20, u22_23, u22_24, u22_27, u22_28, u22_29, u22_30, u22_31, u22_34, q_push_s, q_push_n, q_sm_0, q_sm_i, q_sm_r, q_sm_n, q_sm_l, q_c1_0, q_c1_i, q_c1_r, q_c1_n, Nat.zero_add, Nat.reduceAdd, Nat.reduceMul, Nat.reduceSub, Nat.reduceLeDiff, Nat.reduceLT, Nat.reduceEqDiff, true_and, and_true, not_false_eq_true, if_true, if_false, ite_true, ite_false, or_true, true_or, or_false, false_or, not_true_eq_false, gf1_1, gf1_5, gf3_0, h0, n_lt (i := i) (j := N) (by omega) (by omega), e, c_at (j := i) sh18 (by decide) (by decide) (show i < 6 by omega), hd i e, n_mul, n_add, Nat.zero_le, Nat.reduceLeDiff]
    exact rec2
theorem c_digits {N : Nat} {dr : Nat → Nat} (hN : N ≤ 6) (h0 : m 3 0 = nI N) (hd : ∀ i, i < N → m 18 i = nI (dr i)) (d : Nat) : q_C 22 (d + 1) [.ref 1] (GG T L) m K ↔ K (some (.int (nI (z_dg dr N)))) (GG T L) m := by
  simp only [e22, u22_0, u22_1, u22_2, u22_3, q_push_s, q_push_n, q_sm_0, q_sm_i, q_sm_r, q_sm_n, q_sm_l, q_c1_0, q_c1_i, q_c1_r, q_c1_n, Nat.zero_add, Nat.reduceAdd, Nat.reduceMul, Nat.reduceSub, Nat.reduceLeDiff, Nat.reduceLT, Nat.reduceEqDiff, true_and, and_true, not_false_eq_true, if_true, if_false, ite_true, ite_false, or_true, true_or, or_false, false_or, not_true_eq_false]
  exact l_digits hN h0 hd d N 0 (by omega)
theorem l_digits8 {N : Nat} {dr : Nat → Nat} (hN : N ≤ 6) (h0 : m 38 0 = nI N) (hd : ∀ i, i < N → m 56 i = nI (dr i)) (d : Nat) : ∀ c i, i + c = N → (q_R 163 4 d [some (.ref 38), some (.int (nI (z_dg dr i))), some (.int (nI i))] [] (GG T L) m K ↔ K (some (.int (nI (z_dg dr N)))) (GG T L) m)
  | 0, i, hi => by
    have e : i = N := by omega
    subst e
    simp only [u163_4, u163_5, u163_6, u163_9, u163_32, u163_33, q_push_s, q_push_n, q_sm_0, q_sm_i, q_sm_r, q_sm_n, q_sm_l, q_c1_0, q_c1_i, q_c1_r, q_c1_n, Nat.zero_add, Nat.reduceAdd, Nat.reduceMul, Nat.reduceSub, Nat.reduceLeDiff, Nat.reduceLT, Nat.reduceEqDiff, true_and, and_true, not_false_eq_true, if_true, if_false, ite_true, ite_false, or_true, true_or, or_false, false_or, not_true_eq_false, gf38_0, h0, n_lt (i := i) (j := i) (by omega) (by omega), Nat.lt_irrefl]
  | c + 1, i, hi => by
    have e : i < N := by omega
    have rec2 := l_digits8 hN h0 hd d c (i + 1) (by omega)
    rw [show z_dg dr (i + 1) = z_dg dr i * 10 + dr i + 1 from rfl] at rec2
    have ec : 10 * z_dg dr i + dr i + 1 = z_dg dr i * 10 + dr i + 1 := by omega
    rw [u163_4]
    simp only [u163_5, u163_6, u163_9, u163_12, u163_14, u163_15, u163_16, u163_17, u163_20, u163_21, u163_22, u163_23, u163_24, u163_25, u163_26, u163_29, q_push_s, q_push_n, q_sm_0, q_sm_i, q_sm_r, q_sm_n, q_sm_l, q_c1_0, q_c1_i, q_c1_r, q_c1_n, Nat.zero_add, Nat.reduceAdd, Nat.reduceMul, Nat.reduceSub, Nat.reduceLeDiff, Nat.reduceLT, Nat.reduceEqDiff, true_and, and_true, not_false_eq_true, if_true, if_false, ite_true, ite_false, or_true, true_or, or_false, false_or, not_true_eq_false, gf38_0, gf38_35, h0, n_lt (i := i) (j := N) (by omega) (by omega), e, ia56 (i := i) (by omega), hd i e, n_mul, n_add, ec]
    exact rec2
theorem c_digits8 {N : Nat} {dr : Nat → Nat} (hN : N ≤ 6) (h0 : m 38 0 = nI N) (hd : ∀ i, i < N → m 56 i = nI (dr i)) (d : Nat) : q_C 163 d [.ref 38] (GG T L) m K ↔ K (some (.int (nI (z_dg dr N)))) (GG T L) m := by
  simp only [e163, u163_0, u163_1, u163_2, u163_3, q_push_s, q_push_n, q_sm_0, q_sm_i, q_sm_r, q_sm_n, q_sm_l, q_c1_0, q_c1_i, q_c1_r, q_c1_n, Nat.zero_add, Nat.reduceAdd, Nat.reduceMul, Nat.reduceSub, Nat.reduceLeDiff, Nat.reduceLT, Nat.reduceEqDiff, true_and, and_true, not_false_eq_true, if_true, if_false, ite_true, ite_false, or_true, true_or, or_false, false_or, not_true_eq_false]
  exact l_digits8 hN h0 hd d N 0 (by omega)
end
