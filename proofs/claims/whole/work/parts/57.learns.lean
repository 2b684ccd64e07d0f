/-! ===== learns ===== -/
def z_cn (p : Nat → Bool) : Nat → Nat → Nat
  | 0, _ => 0
  | c + 1, i => (if p i then 1 else 0) + z_cn p c (i + 1)
theorem z_cn_le (p : Nat → Bool) : ∀ c i, z_cn p c i ≤ c
  | 0, _ => Nat.le_refl _
  | c + 1, i => by
    have := z_cn_le p c (i + 1)
    unfold z_cn
    split <;> omega
theorem z_othT {tx : Nat → Nat → List Nat} {s : ZS} {g o j : Nat} : z_oth tx s g o j = true ↔ ¬ z_do tx s g o j = z_an (s.2.1 2 o) j := decide_eq_true_iff
def z_ow (tx : Nat → Nat → List Nat) (s : ZS) (g : Nat) : Nat := z_cn (z_oth tx s g (s.2.1 3 g)) 4 0
theorem z_ow_le (tx : Nat → Nat → List Nat) (s : ZS) (g : Nat) : z_ow tx s g ≤ 4 := z_cn_le _ _ _
/-- the first least of c from v on, against one and how much -/
def z_ln (f : Nat → Nat) : Nat → Nat → Nat × Nat → Nat × Nat
  | 0, _, a => a
  | c + 1, v, a => z_ln f c (v + 1) (if f v < a.2 then (v, f v) else a)
theorem z_ln_s (f : Nat → Nat) (c v : Nat) (a : Nat × Nat) : z_ln f (c + 1) v a = z_ln f c (v + 1) (if f v < a.2 then (v, f v) else a) := rfl
theorem z_ln_b (f : Nat → Nat) (hf : ∀ v, f v ≤ 4) : ∀ c v a, v + c ≤ 256 → a.1 < 256 → a.2 ≤ 5 → (z_ln f c v a).1 < 256 ∧ (z_ln f c v a).2 ≤ 5
  | 0, _, _, _, h1, h2 => ⟨h1, h2⟩
  | c + 1, v, a, h0, h1, h2 => by
    have := hf v
    unfold z_ln
    split
    · exact z_ln_b f hf c (v + 1) (v, f v) (by omega) (show v < 256 by omega) (show f v ≤ 5 by omega)
    · exact z_ln_b f hf c (v + 1) a (by omega) h1 h2
section
variable {T : List Nat} {L : Nat} {s : ZS} {tx : Nat → Nat → List Nat} {n : Nat} {h : ZH} {m : q_M} {K : Option Value → q_G → q_M → Prop}
theorem l_oth {gu o : Nat} (hg : gu < s.1 0) (ho : o < s.1 0) (d : Nat) : ∀ c i m a, i + c = 4 → CJ T L s tx n h m → (∀ m', FC m m' → CJ T L s tx n h m' → K (some (.int (nI (a + z_cn (z_oth tx s gu o) c i)))) (GG T L) m') →
    q_R 54 17 (d + 5) [some (.ref 2), some (.int (nI gu)), some (.int (nI o)), some (.int (nI a)), some (.int (nI i))] [] (GG T L) m K
  | 0, i, m, a, hi, l, hK => by
    have hi4 : i = 4 := by omega
    subst hi4
    simp only [u54_17, u54_19, u54_20, u54_59, u54_60, q_push_s, q_push_n, q_sm_0, q_sm_i, q_sm_r, q_sm_n, q_sm_l, q_c1_0, q_c1_i, q_c1_r, q_c1_n, Nat.zero_add, Nat.reduceAdd, Nat.reduceMul, Nat.reduceSub, Nat.reduceLeDiff, Nat.reduceLT, Nat.reduceEqDiff, true_and, and_true, not_false_eq_true, if_true, if_false, ite_true, ite_false, or_true, true_or, or_false, false_or, not_true_eq_false, eq_self, lq_0_1, lq_0_2, lq_0_3, lq_0_4, lq_0_5, lq_0_6, lq_1_0, lq_1_2, lq_1_3, lq_1_4, lq_1_5, lq_1_6, lq_2_0, lq_2_1, lq_2_3, lq_2_4, lq_2_5, lq_2_6, lq_3_0, lq_3_1, lq_3_2, lq_3_4, lq_3_5, lq_3_6, lq_4_0, lq_4_1, lq_4_2, lq_4_3, lq_4_5, lq_4_6, lq_5_0, lq_5_1, lq_5_2, lq_5_3, lq_5_4, lq_5_6, lq_6_0, lq_6_1, lq_6_2, lq_6_3, lq_6_4, lq_6_5, ll_0_0, ll_0_1, ll_0_2, ll_0_3, ll_0_4, ll_0_5, ll_0_6, ll_1_0, ll_1_1, ll_1_2, ll_1_3, ll_1_4, ll_1_5, ll_1_6, ll_2_0, ll_2_1, ll_2_2, ll_2_3, ll_2_4, ll_2_5, ll_2_6, ll_3_0, ll_3_1, ll_3_2, ll_3_3, ll_3_4, ll_3_5, ll_3_6, ll_4_0, ll_4_1, ll_4_2, ll_4_3, ll_4_4, ll_4_5, ll_4_6, ll_5_0, ll_5_1, ll_5_2, ll_5_3, ll_5_4, ll_5_5, ll_5_6, ll_6_0, ll_6_1, ll_6_2, ll_6_3, ll_6_4, ll_6_5, ll_6_6, le_0_0, le_0_1, le_0_2, le_0_3, le_0_4, le_0_5, le_0_6, le_1_0, le_1_1, le_1_2, le_1_3, le_1_4, le_1_5, le_1_6, le_2_0, le_2_1, le_2_2, le_2_3, le_2_4, le_2_5, le_2_6, le_3_0, le_3_1, le_3_2, le_3_3, le_3_4, le_3_5, le_3_6, le_4_0, le_4_1, le_4_2, le_4_3, le_4_4, le_4_5, le_4_6, le_5_0, le_5_1, le_5_2, le_5_3, le_5_4, le_5_5, le_5_6, le_6_0, le_6_1, le_6_2, le_6_3, le_6_4, le_6_5, le_6_6]
    exact hK m (FC.refl m) l
  | c + 1, i, m, a, hi, l, hK => by
    have h6 := l.bz.1
    have hi4 : i < 4 := by omega
    have hb := (l.bz.2.2.2 o ho).2.2.1
    have hd := z_do_lt tx s gu o i
    have ha := z_an_lt (s.2.1 2 o) i
    rw [u54_17]
    simp only [u54_19, u54_20, u54_23, u54_24, u54_25, u54_26, u54_28, q_push_s, q_push_n, q_sm_0, q_sm_i, q_sm_r, q_sm_n, q_sm_l, q_c1_0, q_c1_i, q_c1_r, q_c1_n, Nat.zero_add, Nat.reduceAdd, Nat.reduceMul, Nat.reduceSub, Nat.reduceLeDiff, Nat.reduceLT, Nat.reduceEqDiff, true_and, and_true, not_false_eq_true, if_true, if_false, ite_true, ite_false, or_true, true_or, or_false, false_or, not_true_eq_false, n_lt (i := i) (j := 4) (by omega) (by decide), hi4, io2, Nat.zero_le, Nat.reduceLeDiff]
    refine l.doing hg ho hi4 (fun m1 f1 l1 => ?_)
    simp only [u54_31, u54_32, u54_35, u54_38, u54_39, u54_42, u54_44, u54_47, u54_50, u54_53, u54_56, q_push_s, q_push_n, q_sm_0, q_sm_i, q_sm_r, q_sm_n, q_sm_l, q_c1_0, q_c1_i, q_c1_r, q_c1_n, Nat.zero_add, Nat.reduceAdd, Nat.reduceMul, Nat.reduceSub, Nat.reduceLeDiff, Nat.reduceLT, Nat.reduceEqDiff, true_and, and_true, not_false_eq_true, if_true, if_false, ite_true, ite_false, or_true, true_or, or_false, false_or, not_true_eq_false, gf2_0, gf3_5, Nat.zero_le, Nat.reduceLeDiff, c_at (j := o) sh6 (by decide) (by decide) (show o < 6 by omega), l1.cl.ma o ho, c_answerOf hb hi4, n_eq (i := z_do tx s gu o i) (j := z_an (s.2.1 2 o) i) (by omega) (by omega), n_add]
    unfold z_cn at hK
    by_cases q : z_do tx s gu o i = z_an (s.2.1 2 o) i
    · rw [if_pos q]
      rw [if_neg (fun e => z_othT.mp e q), Nat.zero_add] at hK
      exact l_oth hg ho d c (i + 1) m1 a (by omega) l1 (fun m' f' l' => hK m' (f1.trans f') l')
    · rw [if_neg q]
      rw [if_pos (z_othT.mpr q), ← Nat.add_assoc] at hK
      exact l_oth hg ho d c (i + 1) m1 (a + 1) (by omega) l1 (fun m' f' l' => hK m' (f1.trans f') l')
theorem CJ.otherwise {d gu : Nat} (l : CJ T L s tx n h m) (hg : gu < s.1 0) (hK : ∀ m', FC m m' → CJ T L s tx n h m' → K (some (.int (nI (z_ow tx s gu)))) (GG T L) m') : q_C 54 (d + 5) [.ref 2, .int (nI gu)] (GG T L) m K := by
  have h6 := l.bz.1
  have hpl := (l.bz.2.2.2 gu hg).2.2.2.1
  simp only [e54, u54_0, u54_1, u54_4, u54_7, u54_8, u54_11, u54_12, u54_13, u54_14, u54_15, q_push_s, q_push_n, q_sm_0, q_sm_i, q_sm_r, q_sm_n, q_sm_l, q_c1_0, q_c1_i, q_c1_r, q_c1_n, Nat.zero_add, Nat.reduceAdd, Nat.reduceMul, Nat.reduceSub, Nat.reduceLeDiff, Nat.reduceLT, Nat.reduceEqDiff, true_and, and_true, not_false_eq_true, if_true, if_false, ite_true, ite_false, or_true, true_or, or_false, false_or, not_true_eq_false, gf2_0, gf3_6, c_at (j := gu) sh7 (by decide) (by decide) (show gu < 6 by omega), l.cl.pl gu hg, Nat.zero_le, Nat.reduceLeDiff]
  refine l_oth hg hpl d 4 0 m 0 rfl l (fun m' f' l' => ?_)
  rw [Nat.zero_add]
  exact hK m' f' l'
theorem l_oth8 {gu o : Nat} (hg : gu < s.1 0) (ho : o < s.1 0) (d : Nat) : ∀ c i m a, i + c = 4 → RJ s tx n h m → (∀ m', FM m m' → RJ s tx n h m' → K (some (.int (nI (a + z_cn (z_oth tx s gu o) c i)))) (GG T L) m') →
    q_R 175 11 (d + 5) [some (.ref 38), some (.int (nI gu)), some (.int (nI a)), some (.int (nI o)), some (.int (nI i))] [] (GG T L) m K
  | 0, i, m, a, hi, l, hK => by
    have hi4 : i = 4 := by omega
    subst hi4
    simp only [u175_11, u175_13, u175_14, u175_55, u175_56, q_push_s, q_push_n, q_sm_0, q_sm_i, q_sm_r, q_sm_n, q_sm_l, q_c1_0, q_c1_i, q_c1_r, q_c1_n, Nat.zero_add, Nat.reduceAdd, Nat.reduceMul, Nat.reduceSub, Nat.reduceLeDiff, Nat.reduceLT, Nat.reduceEqDiff, true_and, and_true, not_false_eq_true, if_true, if_false, ite_true, ite_false, or_true, true_or, or_false, false_or, not_true_eq_false, eq_self, lq_0_1, lq_0_2, lq_0_3, lq_0_4, lq_0_5, lq_0_6, lq_1_0, lq_1_2, lq_1_3, lq_1_4, lq_1_5, lq_1_6, lq_2_0, lq_2_1, lq_2_3, lq_2_4, lq_2_5, lq_2_6, lq_3_0, lq_3_1, lq_3_2, lq_3_4, lq_3_5, lq_3_6, lq_4_0, lq_4_1, lq_4_2, lq_4_3, lq_4_5, lq_4_6, lq_5_0, lq_5_1, lq_5_2, lq_5_3, lq_5_4, lq_5_6, lq_6_0, lq_6_1, lq_6_2, lq_6_3, lq_6_4, lq_6_5, ll_0_0, ll_0_1, ll_0_2, ll_0_3, ll_0_4, ll_0_5, ll_0_6, ll_1_0, ll_1_1, ll_1_2, ll_1_3, ll_1_4, ll_1_5, ll_1_6, ll_2_0, ll_2_1, ll_2_2, ll_2_3, ll_2_4, ll_2_5, ll_2_6, ll_3_0, ll_3_1, ll_3_2, ll_3_3, ll_3_4, ll_3_5, ll_3_6, ll_4_0, ll_4_1, ll_4_2, ll_4_3, ll_4_4, ll_4_5, ll_4_6, ll_5_0, ll_5_1, ll_5_2, ll_5_3, ll_5_4, ll_5_5, ll_5_6, ll_6_0, ll_6_1, ll_6_2, ll_6_3, ll_6_4, ll_6_5, ll_6_6, le_0_0, le_0_1, le_0_2, le_0_3, le_0_4, le_0_5, le_0_6, le_1_0, le_1_1, le_1_2, le_1_3, le_1_4, le_1_5, le_1_6, le_2_0, le_2_1, le_2_2, le_2_3, le_2_4, le_2_5, le_2_6, le_3_0, le_3_1, le_3_2, le_3_3, le_3_4, le_3_5, le_3_6, le_4_0, le_4_1, le_4_2, le_4_3, le_4_4, le_4_5, le_4_6, le_5_0, le_5_1, le_5_2, le_5_3, le_5_4, le_5_5, le_5_6, le_6_0, le_6_1, le_6_2, le_6_3, le_6_4, le_6_5, le_6_6]
    exact hK m (FM.refl m) l
  | c + 1, i, m, a, hi, l, hK => by
    have h6 := l.bz.1
    have hi4 : i < 4 := by omega
    have hb := (l.bz.2.2.2 o ho).2.2.1
    have hd := z_do_lt tx s gu o i
    have ha := z_an_lt (s.2.1 2 o) i
    rw [u175_11]
    simp only [u175_13, u175_14, u175_17, u175_18, u175_19, u175_20, u175_21, u175_23, q_push_s, q_push_n, q_sm_0, q_sm_i, q_sm_r, q_sm_n, q_sm_l, q_c1_0, q_c1_i, q_c1_r, q_c1_n, Nat.zero_add, Nat.reduceAdd, Nat.reduceMul, Nat.reduceSub, Nat.reduceLeDiff, Nat.reduceLT, Nat.reduceEqDiff, true_and, and_true, not_false_eq_true, if_true, if_false, ite_true, ite_false, or_true, true_or, or_false, false_or, not_true_eq_false, n_lt (i := i) (j := 4) (by omega) (by decide), hi4, io38, Nat.zero_le, Nat.reduceLeDiff]
    refine l.doesAs hg ho hi4 (fun m1 f1 l1 => ?_)
    simp only [u175_26, u175_27, u175_30, u175_31, u175_32, u175_33, u175_34, u175_36, u175_39, u175_42, u175_43, u175_46, u175_47, u175_48, u175_49, u175_52, q_push_s, q_push_n, q_sm_0, q_sm_i, q_sm_r, q_sm_n, q_sm_l, q_c1_0, q_c1_i, q_c1_r, q_c1_n, Nat.zero_add, Nat.reduceAdd, Nat.reduceMul, Nat.reduceSub, Nat.reduceLeDiff, Nat.reduceLT, Nat.reduceEqDiff, true_and, and_true, not_false_eq_true, if_true, if_false, ite_true, ite_false, or_true, true_or, or_false, false_or, not_true_eq_false, gf38_3, n_mul, Nat.zero_le, Nat.reduceLeDiff, ia41 (i := 3 * o) (by omega), l1.mo.ma o ho, c_answer hb hi4, n_eq (i := z_do tx s gu o i) (j := z_an (s.2.1 2 o) i) (by omega) (by omega), n_add, Nat.add_zero]
    unfold z_cn at hK
    by_cases q : z_do tx s gu o i = z_an (s.2.1 2 o) i
    · rw [if_pos q]
      rw [if_neg (fun e => z_othT.mp e q), Nat.zero_add] at hK
      exact l_oth8 hg ho d c (i + 1) m1 a (by omega) l1 (fun m' f' l' => hK m' (f1.trans f') l')
    · rw [if_neg q]
      rw [if_pos (z_othT.mpr q), ← Nat.add_assoc] at hK
      exact l_oth8 hg ho d c (i + 1) m1 (a + 1) (by omega) l1 (fun m' f' l' => hK m' (f1.trans f') l')
theorem RJ.otherwiseOn {d gu : Nat} (l : RJ s tx n h m) (hg : gu < s.1 0) (hK : ∀ m', FM m m' → RJ s tx n h m' → K (some (.int (nI (z_ow tx s gu)))) (GG T L) m') : q_C 175 (d + 5) [.ref 38, .int (nI gu)] (GG T L) m K := by
  have h6 := l.bz.1
  have hpl := (l.bz.2.2.2 gu hg).2.2.2.1
  simp only [e175, u175_0, u175_1, u175_2, u175_3, u175_4, u175_7, u175_8, u175_9, e150, u150_0, u150_1, u150_4, u150_5, u150_6, u150_7, u150_8, u150_9, u150_10, q_push_s, q_push_n, q_sm_0, q_sm_i, q_sm_r, q_sm_n, q_sm_l, q_c1_0, q_c1_i, q_c1_r, q_c1_n, Nat.zero_add, Nat.reduceAdd, Nat.reduceMul, Nat.reduceSub, Nat.reduceLeDiff, Nat.reduceLT, Nat.reduceEqDiff, true_and, and_true, not_false_eq_true, if_true, if_false, ite_true, ite_false, or_true, true_or, or_false, false_or, not_true_eq_false, io38, gf38_3, n_mul, n_add, ia41 (i := 3 * gu + 1) (by omega), l.mo.pl gu hg, Nat.zero_le, Nat.reduceLeDiff]
  refine l_oth8 hg hpl d 4 0 m 0 rfl l (fun m' f' l' => ?_)
  rw [Nat.zero_add]
  exact hK m' f' l'
theorem l_learns {gu : Nat} (hg : gu < s.1 0) (h6 : s.1 0 ≤ 6) (hB : BZ s) (x2 : Option Value) (x3 : Int32) (d : Nat) : ∀ c v m a x x7, q_c1 x7 = true → v + c = 256 → a.1 < 256 → a.2 ≤ 5 → CJ T L (z_sr s 2 gu x) tx n h m → (∀ m' x', FCp 6 m m' → CJ T L (z_sr s 2 gu x') tx n h m' → ∀ x7, q_R 82 99 (d + 6) [some (.ref 0), some (.int (nI gu)), x2, some (.int x3), some (.int (nI (z_ln (fun v => z_ow tx (z_sr s 2 gu v) gu) c v a).1)), some (.int (nI (z_ln (fun v => z_ow tx (z_sr s 2 gu v) gu) c v a).2)), some (.int (nI 256)), x7] [] (GG T L) m' K) →
    q_R 82 47 (d + 6) [some (.ref 0), some (.int (nI gu)), x2, some (.int x3), some (.int (nI a.1)), some (.int (nI a.2)), some (.int (nI v)), x7] [] (GG T L) m K
  | 0, v, m, a, x, x7, h7, hc, h1, h2, l, hK => by
    have hv : v = 256 := by omega
    subst hv
    simp only [u82_47, u82_49, u82_52, q_push_s, q_push_n, q_sm_0, q_sm_i, q_sm_r, q_sm_n, q_sm_l, q_c1_0, q_c1_i, q_c1_r, q_c1_n, Nat.zero_add, Nat.reduceAdd, Nat.reduceMul, Nat.reduceSub, Nat.reduceLeDiff, Nat.reduceLT, Nat.reduceEqDiff, true_and, and_true, not_false_eq_true, if_true, if_false, ite_true, ite_false, or_true, true_or, or_false, false_or, not_true_eq_false, n_lt (i := 256) (j := 256) (by decide) (by decide)]
    exact hK m x (FCp.refl _ m) l x7
  | c + 1, v, m, a, x, x7, h7, hc, h1, h2, l, hK => by
    have hv : v < 256 := by omega
    have g6 : gu < 6 := by omega
    have hBv := hB.sr (r := 2) (gu := gu) (v := v) (fun _ => hv) (fun e => absurd e (by decide)) (fun e => absurd e (by decide)) (by decide)
    have l2 := l.put (v := v) (by omega) hBv
    have hle := z_ow_le tx (z_sr s 2 gu v) gu
    rw [u82_47]
    simp only [u82_49, u82_52, u82_55, u82_56, u82_59, u82_62, u82_63, u82_65, u82_68, u82_69, u82_72, u82_73, q_push_s, q_push_n, q_sm_0, q_sm_i, q_sm_r, q_sm_n, q_sm_l, q_c1_0, q_c1_i, q_c1_r, q_c1_n, Nat.zero_add, Nat.reduceAdd, Nat.reduceMul, Nat.reduceSub, Nat.reduceLeDiff, Nat.reduceLT, Nat.reduceEqDiff, true_and, and_true, not_false_eq_true, if_true, if_false, ite_true, ite_false, or_true, true_or, or_false, false_or, not_true_eq_false, gf0_1, gf0_2, gf3_5, io2, n_lt (i := v) (j := 256) (by omega) (by decide), hv, c_put (j := gu) sh6 (by decide) (by decide) g6, Nat.zero_le, Nat.reduceLeDiff]
    refine l2.otherwise (d := d) hg (fun m1 f1 l1 => ?_)
    have ft := (FCp.up 6 gu (nI v) m).trans f1.p
    simp only [u82_76, u82_78, u82_80, u82_82, u82_85, u82_87, u82_89, u82_91, u82_93, u82_96, q_push_s, q_push_n, q_sm_0, q_sm_i, q_sm_r, q_sm_n, q_sm_l, q_c1_0, q_c1_i, q_c1_r, q_c1_n, Nat.zero_add, Nat.reduceAdd, Nat.reduceMul, Nat.reduceSub, Nat.reduceLeDiff, Nat.reduceLT, Nat.reduceEqDiff, true_and, and_true, not_false_eq_true, if_true, if_false, ite_true, ite_false, or_true, true_or, or_false, false_or, not_true_eq_false, n_lt (i := z_ow tx (z_sr s 2 gu v) gu) (j := a.2) (by omega) (by omega), n_add]
    unfold z_ln at hK
    by_cases q : z_ow tx (z_sr s 2 gu v) gu < a.2
    · rw [if_pos q] at hK ⊢
      exact l_learns hg h6 hB x2 x3 d c (v + 1) m1 (v, z_ow tx (z_sr s 2 gu v) gu) v _ (of_eq_true (q_c1_i _)) (by omega) hv (show z_ow tx (z_sr s 2 gu v) gu ≤ 5 by omega) l1 (fun m' x' f' l' => hK m' x' (ft.trans f') l')
    · rw [if_neg q] at hK ⊢
      exact l_learns hg h6 hB x2 x3 d c (v + 1) m1 a v _ (of_eq_true (q_c1_i _)) (by omega) h1 h2 l1 (fun m' x' f' l' => hK m' x' (ft.trans f') l')
/-- one turn of the reference's loop -/
theorem s_learns8 {gu v x : Nat} (hg : gu < s.1 0) (h6 : s.1 0 ≤ 6) (hB : BZ s) (x2 : Option Value) (x3 : Int32) (d : Nat) (b e : Int32) (x7 x8 : Option Value) (h7 : q_c1 x7 = true) (h8 : q_c1 x8 = true) (hv : v < 256) (l : RJ (z_sr s 2 gu x) tx n h m)
    (hK : ∀ m', FMp 41 m m' → RJ (z_sr s 2 gu v) tx n h m' → ∀ x7 x8, q_c1 x7 = true → q_c1 x8 = true → q_R 176 41 (d + 6) [some (.ref 38), some (.int (nI gu)), x2, some (.int x3), some (.int (if b = (-1 : Int32) ∨ nI (z_ow tx (z_sr s 2 gu v) gu) < e then nI v else b)), some (.int (if b = (-1 : Int32) ∨ nI (z_ow tx (z_sr s 2 gu v) gu) < e then nI (z_ow tx (z_sr s 2 gu v) gu) else e)), some (.int (nI (v + 1))), x7, x8] [] (GG T L) m' K) :
    q_R 176 41 (d + 6) [some (.ref 38), some (.int (nI gu)), x2, some (.int x3), some (.int b), some (.int e), some (.int (nI v)), x7, x8] [] (GG T L) m K := by
  have hBv := hB.sr (r := 2) (gu := gu) (v := v) (fun _ => hv) (fun e => absurd e (by decide)) (fun e => absurd e (by decide)) (by decide)
  have l2 := l.put (r := 0) (v := v) (by omega) hBv
  have cg : (nI (3 * gu)).toNatClampNeg = 3 * gu := n_cl (by omega)
  rw [u176_41]
  simp only [u176_43, u176_46, u176_49, u176_50, u176_53, u176_54, u176_55, u176_56, u176_58, u176_59, u176_60, u176_61, q_push_s, q_push_n, q_sm_0, q_sm_i, q_sm_r, q_sm_n, q_sm_l, q_c1_0, q_c1_i, q_c1_r, q_c1_n, Nat.zero_add, Nat.reduceAdd, Nat.reduceMul, Nat.reduceSub, Nat.reduceLeDiff, Nat.reduceLT, Nat.reduceEqDiff, true_and, and_true, not_false_eq_true, if_true, if_false, ite_true, ite_false, or_true, true_or, or_false, false_or, not_true_eq_false, gf38_3, io38, n_mul, n_lt (i := v) (j := 256) (by omega) (by decide), hv, is41 (i := 3 * gu) (by omega), cg, Nat.zero_le, Nat.reduceLeDiff]
  refine l2.otherwiseOn (d := d) hg (fun m1 f1 l1 => ?_)
  have hq := hK m1 ((FMp.up (p := 41) (by decide) (3 * gu) (nI v) m).trans f1.p) l1
  by_cases q1 : b = (-1 : Int32)
  · rw [if_pos (Or.inl q1), if_pos (Or.inl q1)] at hq
    simp only [u176_64, u176_66, u176_68, u176_69, u176_72, u176_74, u176_76, u176_79, u176_80, u176_83, u176_84, u176_86, u176_88, u176_91, u176_93, u176_96, u176_98, u176_100, u176_102, u176_105, u176_107, u176_110, u176_112, u176_114, u176_117, q_push_s, q_push_n, q_sm_0, q_sm_i, q_sm_r, q_sm_n, q_sm_l, q_c1_0, q_c1_i, q_c1_r, q_c1_n, Nat.zero_add, Nat.reduceAdd, Nat.reduceMul, Nat.reduceSub, Nat.reduceLeDiff, Nat.reduceLT, Nat.reduceEqDiff, true_and, and_true, not_false_eq_true, if_true, if_false, ite_true, ite_false, or_true, true_or, or_false, false_or, not_true_eq_false, eq_self, lq_0_1, lq_0_2, lq_0_3, lq_0_4, lq_0_5, lq_0_6, lq_1_0, lq_1_2, lq_1_3, lq_1_4, lq_1_5, lq_1_6, lq_2_0, lq_2_1, lq_2_3, lq_2_4, lq_2_5, lq_2_6, lq_3_0, lq_3_1, lq_3_2, lq_3_4, lq_3_5, lq_3_6, lq_4_0, lq_4_1, lq_4_2, lq_4_3, lq_4_5, lq_4_6, lq_5_0, lq_5_1, lq_5_2, lq_5_3, lq_5_4, lq_5_6, lq_6_0, lq_6_1, lq_6_2, lq_6_3, lq_6_4, lq_6_5, ll_0_0, ll_0_1, ll_0_2, ll_0_3, ll_0_4, ll_0_5, ll_0_6, ll_1_0, ll_1_1, ll_1_2, ll_1_3, ll_1_4, ll_1_5, ll_1_6, ll_2_0, ll_2_1, ll_2_2, ll_2_3, ll_2_4, ll_2_5, ll_2_6, ll_3_0, ll_3_1, ll_3_2, ll_3_3, ll_3_4, ll_3_5, ll_3_6, ll_4_0, ll_4_1, ll_4_2, ll_4_3, ll_4_4, ll_4_5, ll_4_6, ll_5_0, ll_5_1, ll_5_2, ll_5_3, ll_5_4, ll_5_5, ll_5_6, ll_6_0, ll_6_1, ll_6_2, ll_6_3, ll_6_4, ll_6_5, ll_6_6, le_0_0, le_0_1, le_0_2, le_0_3, le_0_4, le_0_5, le_0_6, le_1_0, le_1_1, le_1_2, le_1_3, le_1_4, le_1_5, le_1_6, le_2_0, le_2_1, le_2_2, le_2_3, le_2_4, le_2_5, le_2_6, le_3_0, le_3_1, le_3_2, le_3_3, le_3_4, le_3_5, le_3_6, le_4_0, le_4_1, le_4_2, le_4_3, le_4_4, le_4_5, le_4_6, le_5_0, le_5_1, le_5_2, le_5_3, le_5_4, le_5_5, le_5_6, le_6_0, le_6_1, le_6_2, le_6_3, le_6_4, le_6_5, le_6_6, q1, n_add]
    exact hq _ _ (of_eq_true (q_c1_i _)) (of_eq_true (q_c1_i _))
  · by_cases q2 : nI (z_ow tx (z_sr s 2 gu v) gu) < e
    · rw [if_pos (Or.inr q2), if_pos (Or.inr q2)] at hq
      simp only [u176_64, u176_66, u176_68, u176_69, u176_72, u176_74, u176_76, u176_79, u176_80, u176_83, u176_84, u176_86, u176_88, u176_91, u176_93, u176_96, u176_98, u176_100, u176_102, u176_105, u176_107, u176_110, u176_112, u176_114, u176_117, q_push_s, q_push_n, q_sm_0, q_sm_i, q_sm_r, q_sm_n, q_sm_l, q_c1_0, q_c1_i, q_c1_r, q_c1_n, Nat.zero_add, Nat.reduceAdd, Nat.reduceMul, Nat.reduceSub, Nat.reduceLeDiff, Nat.reduceLT, Nat.reduceEqDiff, true_and, and_true, not_false_eq_true, if_true, if_false, ite_true, ite_false, or_true, true_or, or_false, false_or, not_true_eq_false, eq_self, lq_0_1, lq_0_2, lq_0_3, lq_0_4, lq_0_5, lq_0_6, lq_1_0, lq_1_2, lq_1_3, lq_1_4, lq_1_5, lq_1_6, lq_2_0, lq_2_1, lq_2_3, lq_2_4, lq_2_5, lq_2_6, lq_3_0, lq_3_1, lq_3_2, lq_3_4, lq_3_5, lq_3_6, lq_4_0, lq_4_1, lq_4_2, lq_4_3, lq_4_5, lq_4_6, lq_5_0, lq_5_1, lq_5_2, lq_5_3, lq_5_4, lq_5_6, lq_6_0, lq_6_1, lq_6_2, lq_6_3, lq_6_4, lq_6_5, ll_0_0, ll_0_1, ll_0_2, ll_0_3, ll_0_4, ll_0_5, ll_0_6, ll_1_0, ll_1_1, ll_1_2, ll_1_3, ll_1_4, ll_1_5, ll_1_6, ll_2_0, ll_2_1, ll_2_2, ll_2_3, ll_2_4, ll_2_5, ll_2_6, ll_3_0, ll_3_1, ll_3_2, ll_3_3, ll_3_4, ll_3_5, ll_3_6, ll_4_0, ll_4_1, ll_4_2, ll_4_3, ll_4_4, ll_4_5, ll_4_6, ll_5_0, ll_5_1, ll_5_2, ll_5_3, ll_5_4, ll_5_5, ll_5_6, ll_6_0, ll_6_1, ll_6_2, ll_6_3, ll_6_4, ll_6_5, ll_6_6, le_0_0, le_0_1, le_0_2, le_0_3, le_0_4, le_0_5, le_0_6, le_1_0, le_1_1, le_1_2, le_1_3, le_1_4, le_1_5, le_1_6, le_2_0, le_2_1, le_2_2, le_2_3, le_2_4, le_2_5, le_2_6, le_3_0, le_3_1, le_3_2, le_3_3, le_3_4, le_3_5, le_3_6, le_4_0, le_4_1, le_4_2, le_4_3, le_4_4, le_4_5, le_4_6, le_5_0, le_5_1, le_5_2, le_5_3, le_5_4, le_5_5, le_5_6, le_6_0, le_6_1, le_6_2, le_6_3, le_6_4, le_6_5, le_6_6, q1, q2, n_add]
      exact hq _ _ (of_eq_true (q_c1_i _)) (of_eq_true (q_c1_i _))
    · rw [if_neg (fun e => e.elim q1 q2), if_neg (fun e => e.elim q1 q2)] at hq
      simp only [u176_64, u176_66, u176_68, u176_69, u176_72, u176_74, u176_76, u176_79, u176_80, u176_83, u176_84, u176_86, u176_88, u176_91, u176_93, u176_96, u176_98, u176_100, u176_102, u176_105, u176_107, u176_110, u176_112, u176_114, u176_117, q_push_s, q_push_n, q_sm_0, q_sm_i, q_sm_r, q_sm_n, q_sm_l, q_c1_0, q_c1_i, q_c1_r, q_c1_n, Nat.zero_add, Nat.reduceAdd, Nat.reduceMul, Nat.reduceSub, Nat.reduceLeDiff, Nat.reduceLT, Nat.reduceEqDiff, true_and, and_true, not_false_eq_true, if_true, if_false, ite_true, ite_false, or_true, true_or, or_false, false_or, not_true_eq_false, eq_self, lq_0_1, lq_0_2, lq_0_3, lq_0_4, lq_0_5, lq_0_6, lq_1_0, lq_1_2, lq_1_3, lq_1_4, lq_1_5, lq_1_6, lq_2_0, lq_2_1, lq_2_3, lq_2_4, lq_2_5, lq_2_6, lq_3_0, lq_3_1, lq_3_2, lq_3_4, lq_3_5, lq_3_6, lq_4_0, lq_4_1, lq_4_2, lq_4_3, lq_4_5, lq_4_6, lq_5_0, lq_5_1, lq_5_2, lq_5_3, lq_5_4, lq_5_6, lq_6_0, lq_6_1, lq_6_2, lq_6_3, lq_6_4, lq_6_5, ll_0_0, ll_0_1, ll_0_2, ll_0_3, ll_0_4, ll_0_5, ll_0_6, ll_1_0, ll_1_1, ll_1_2, ll_1_3, ll_1_4, ll_1_5, ll_1_6, ll_2_0, ll_2_1, ll_2_2, ll_2_3, ll_2_4, ll_2_5, ll_2_6, ll_3_0, ll_3_1, ll_3_2, ll_3_3, ll_3_4, ll_3_5, ll_3_6, ll_4_0, ll_4_1, ll_4_2, ll_4_3, ll_4_4, ll_4_5, ll_4_6, ll_5_0, ll_5_1, ll_5_2, ll_5_3, ll_5_4, ll_5_5, ll_5_6, ll_6_0, ll_6_1, ll_6_2, ll_6_3, ll_6_4, ll_6_5, ll_6_6, le_0_0, le_0_1, le_0_2, le_0_3, le_0_4, le_0_5, le_0_6, le_1_0, le_1_1, le_1_2, le_1_3, le_1_4, le_1_5, le_1_6, le_2_0, le_2_1, le_2_2, le_2_3, le_2_4, le_2_5, le_2_6, le_3_0, le_3_1, le_3_2, le_3_3, le_3_4, le_3_5, le_3_6, le_4_0, le_4_1, le_4_2, le_4_3, le_4_4, le_4_5, le_4_6, le_5_0, le_5_1, le_5_2, le_5_3, le_5_4, le_5_5, le_5_6, le_6_0, le_6_1, le_6_2, le_6_3, le_6_4, le_6_5, le_6_6, q1, q2, n_add]
      exact hq _ _ (of_eq_true (q_c1_i _)) (of_eq_true (q_c1_i _))
theorem l_learns8 {gu : Nat} (hg : gu < s.1 0) (h6 : s.1 0 ≤ 6) (hB : BZ s) (x2 : Option Value) (x3 : Int32) (d : Nat) : ∀ c v m a x x7 x8, q_c1 x7 = true → q_c1 x8 = true → v + c = 256 → a.1 < 256 → a.2 ≤ 5 → RJ (z_sr s 2 gu x) tx n h m → (∀ m' x', FMp 41 m m' → RJ (z_sr s 2 gu x') tx n h m' → ∀ x7 x8, q_R 176 120 (d + 6) [some (.ref 38), some (.int (nI gu)), x2, some (.int x3), some (.int (nI (z_ln (fun v => z_ow tx (z_sr s 2 gu v) gu) c v a).1)), some (.int (nI (z_ln (fun v => z_ow tx (z_sr s 2 gu v) gu) c v a).2)), some (.int (nI 256)), x7, x8] [] (GG T L) m' K) →
    q_R 176 41 (d + 6) [some (.ref 38), some (.int (nI gu)), x2, some (.int x3), some (.int (nI a.1)), some (.int (nI a.2)), some (.int (nI v)), x7, x8] [] (GG T L) m K
  | 0, v, m, a, x, x7, x8, h7, h8, hc, h1, h2, l, hK => by
    have hv : v = 256 := by omega
    subst hv
    simp only [u176_41, u176_43, u176_46, q_push_s, q_push_n, q_sm_0, q_sm_i, q_sm_r, q_sm_n, q_sm_l, q_c1_0, q_c1_i, q_c1_r, q_c1_n, Nat.zero_add, Nat.reduceAdd, Nat.reduceMul, Nat.reduceSub, Nat.reduceLeDiff, Nat.reduceLT, Nat.reduceEqDiff, true_and, and_true, not_false_eq_true, if_true, if_false, ite_true, ite_false, or_true, true_or, or_false, false_or, not_true_eq_false, n_lt (i := 256) (j := 256) (by decide) (by decide)]
    exact hK m x (FMp.refl _ m) l x7 x8
  | c + 1, v, m, a, x, x7, x8, h7, h8, hc, h1, h2, l, hK => by
    have hv : v < 256 := by omega
    have hle := z_ow_le tx (z_sr s 2 gu v) gu
    have en := (i_nm (j := a.1) (by omega)).2.1
    have el := n_lt (i := z_ow tx (z_sr s 2 gu v) gu) (j := a.2) (by omega) (by omega)
    refine s_learns8 hg h6 hB x2 x3 d _ _ x7 x8 h7 h8 hv l (fun m1 f1 l1 y7 y8 g7 g8 => ?_)
    unfold z_ln at hK
    by_cases q : z_ow tx (z_sr s 2 gu v) gu < a.2
    · rw [if_pos q] at hK
      have q' : nI a.1 = (-1 : Int32) ∨ nI (z_ow tx (z_sr s 2 gu v) gu) < nI a.2 := Or.inr (by rw [el]; exact q)
      rw [if_pos q', if_pos q']
      exact l_learns8 hg h6 hB x2 x3 d c (v + 1) m1 (v, z_ow tx (z_sr s 2 gu v) gu) v _ _ g7 g8 (by omega) hv (show z_ow tx (z_sr s 2 gu v) gu ≤ 5 by omega) l1 (fun m' x' f' l' => hK m' x' (f1.trans f') l')
    · rw [if_neg q] at hK
      have q' : ¬ (nI a.1 = (-1 : Int32) ∨ nI (z_ow tx (z_sr s 2 gu v) gu) < nI a.2) := by rw [en, el]; exact fun e => e.elim (fun e => e.elim) q
      rw [if_neg q', if_neg q']
      exact l_learns8 hg h6 hB x2 x3 d c (v + 1) m1 a v _ _ g7 g8 (by omega) h1 h2 l1 (fun m' x' f' l' => hK m' x' (f1.trans f') l')
end
section
variable {T : List Nat} {L d : Nat} {xs : Nat → Int32} {s : ZS} {tx : Nat → Nat → List Nat} {n : Nat} {tp : Nat → Nat} {z : Nat} {h : ZH} {wd : Nat → Int32} {m m1 m2 : q_M} {K : Option Value → Option Value → q_G → q_M → Prop}
theorem p_learns (l : LJ T L xs s tx n tp z h wd m) (a b : Int32) (hK : ∀ r m', LJ T L xs s tx n tp z h wd m' → K (some (.int r)) (some (.int r)) (GG T L) m') :
    q_C 82 (d + 6) [.ref 0, .int a, .int b] (GG T L) m (fun v g m => q_C 176 (d + 6) [.ref 38, .int a, .int b] g m (fun v' g m => K v v' g m)) := by
  have h6 := l.bz.1
  by_cases ha : z_is a (s.1 0)
  · obtain ⟨gu, hg, rfl⟩ := z_is_n ha
    have g6 : gu < 6 := by omega
    by_cases hb : z_is b 2
    · obtain ⟨w, hw, rfl⟩ := z_is_n hb
      have w0 := n_lt0 (j := w) (by omega)
      have w1 := n_le (i := w) (j := 1) (by omega) (by decide)
      have w2 : w ≤ 1 := by omega
      have l0 : CJ T L (z_sr s 2 gu (s.2.1 2 gu)) tx n h m := by rw [z_sr_id]; exact l.cj
      simp only [u82_0, u82_1, u82_4, u82_5, u82_8, u82_11, u82_13, u82_14, u82_15, u82_18, u82_19, u82_20, u82_23, u82_25, u82_26, u82_27, u82_30, u82_33, u82_34, u82_37, u82_38, u82_39, u82_41, u82_42, u82_44, u82_45, e82, q_push_s, q_push_n, q_sm_0, q_sm_i, q_sm_r, q_sm_n, q_sm_l, q_c1_0, q_c1_i, q_c1_r, q_c1_n, Nat.zero_add, Nat.reduceAdd, Nat.reduceMul, Nat.reduceSub, Nat.reduceLeDiff, Nat.reduceLT, Nat.reduceEqDiff, true_and, and_true, not_false_eq_true, if_true, if_false, ite_true, ite_false, or_true, true_or, or_false, false_or, not_true_eq_false, gf0_2, gf3_5, io3, l.has, ha, z_b_z, w0, w1, w2, c_at (j := gu) sh6 (by decide) (by decide) g6, l.cl.ma gu hg, Nat.zero_le, Nat.reduceLeDiff]
      refine l_learns (a := (0, 5)) hg h6 l.bz _ _ d 256 0 m _ _ (of_eq_true q_c1_0) rfl (by decide) (by decide) l0 (fun m1 x' f1 l1 x7 => ?_)
      have l2 := l1.put (v := s.2.1 2 gu) (by omega) (by rw [z_sr_id]; exact l.bz)
      rw [z_sr_id] at l2
      have lj2 := l.bc (p := 6) (by decide) (f1.trans (FCp.up 6 gu (nI (s.2.1 2 gu)) m1)) l2
      have lr2 := lj2.rj
      have cg : (nI (3 * gu)).toNatClampNeg = 3 * gu := n_cl (by omega)
      have fin : ∀ V, V = (if w = 0 then nI (z_ln (fun v => z_ow tx (z_sr s 2 gu v) gu) 256 0 (0, 5)).1 else nI (z_ln (fun v => z_ow tx (z_sr s 2 gu v) gu) 256 0 (0, 5)).2) → q_C 176 (d + 6) [.ref 38, .int (nI gu), .int (nI w)] (GG T L) (q_up m1 6 gu (nI (s.2.1 2 gu))) (fun v' g m => K (some (.int V)) v' g m) := by
        intro V hV
        simp only [u176_0, u176_1, u176_2, u176_5, u176_8, u176_10, u176_11, u176_12, u176_13, u176_14, u176_17, u176_20, u176_22, u176_23, u176_24, u176_27, u176_28, u176_29, u176_30, u176_31, u176_32, u176_33, u176_35, u176_36, u176_38, u176_39, e176, q_push_s, q_push_n, q_sm_0, q_sm_i, q_sm_r, q_sm_n, q_sm_l, q_c1_0, q_c1_i, q_c1_r, q_c1_n, Nat.zero_add, Nat.reduceAdd, Nat.reduceMul, Nat.reduceSub, Nat.reduceLeDiff, Nat.reduceLT, Nat.reduceEqDiff, true_and, and_true, not_false_eq_true, if_true, if_false, ite_true, ite_false, or_true, true_or, or_false, false_or, not_true_eq_false, gf38_3, io38, lj2.isg, ha, z_b_z, c_in, and_self, w0, w1, w2, n_mul, ia41 (i := 3 * gu) (by omega), lj2.mo.ma gu hg, Nat.zero_le, Nat.reduceLeDiff]
        have l02 : RJ (z_sr s 2 gu (s.2.1 2 gu)) tx n h (q_up m1 6 gu (nI (s.2.1 2 gu))) := by rw [z_sr_id]; exact lr2
        refine s_learns8 hg h6 l.bz _ _ d _ _ _ _ (of_eq_true q_c1_0) (of_eq_true q_c1_0) (by decide) l02 (fun m3 f3 l3 y7 y8 g7 g8 => ?_)
        rw [if_pos (Or.inl rfl), if_pos (Or.inl rfl)]
        have hle := z_ow_le tx (z_sr s 2 gu 0) gu
        have e1 : z_ln (fun v => z_ow tx (z_sr s 2 gu v) gu) 256 0 (0, 5) = z_ln (fun v => z_ow tx (z_sr s 2 gu v) gu) 255 1 (0, z_ow tx (z_sr s 2 gu 0) gu) := by
          refine (z_ln_s (fun v => z_ow tx (z_sr s 2 gu v) gu) 255 0 (0, 5)).trans ?_
          rw [if_pos (show z_ow tx (z_sr s 2 gu 0) gu < 5 by omega)]
        refine l_learns8 (a := (0, z_ow tx (z_sr s 2 gu 0) gu)) hg h6 l.bz _ _ d 255 1 m3 _ _ _ g7 g8 rfl (show 0 < 256 by decide) (show z_ow tx (z_sr s 2 gu 0) gu ≤ 5 by omega) l3 (fun m4 x' f4 l4 z7 z8 => ?_)
        have l5 := l4.put (r := 0) (v := s.2.1 2 gu) (by omega) (by rw [z_sr_id]; exact l.bz)
        rw [z_sr_id] at l5
        have lj5 := lj2.bm (p := 41) (by decide) ((f3.trans f4).trans (FMp.up (p := 41) (by decide) (3 * gu) (nI (s.2.1 2 gu)) m4)) l5
        rw [← e1]
        have hw' : w = 0 ∨ w = 1 := by omega
        rcases hw' with rfl | rfl
        · rw [if_pos rfl] at hV
          simp only [u176_120, u176_121, u176_124, u176_125, u176_126, u176_127, u176_128, u176_129, u176_130, u176_133, u176_135, u176_138, u176_140, q_push_s, q_push_n, q_sm_0, q_sm_i, q_sm_r, q_sm_n, q_sm_l, q_c1_0, q_c1_i, q_c1_r, q_c1_n, Nat.zero_add, Nat.reduceAdd, Nat.reduceMul, Nat.reduceSub, Nat.reduceLeDiff, Nat.reduceLT, Nat.reduceEqDiff, true_and, and_true, not_false_eq_true, if_true, if_false, ite_true, ite_false, or_true, true_or, or_false, false_or, not_true_eq_false, eq_self, lq_0_1, lq_0_2, lq_0_3, lq_0_4, lq_0_5, lq_0_6, lq_1_0, lq_1_2, lq_1_3, lq_1_4, lq_1_5, lq_1_6, lq_2_0, lq_2_1, lq_2_3, lq_2_4, lq_2_5, lq_2_6, lq_3_0, lq_3_1, lq_3_2, lq_3_4, lq_3_5, lq_3_6, lq_4_0, lq_4_1, lq_4_2, lq_4_3, lq_4_5, lq_4_6, lq_5_0, lq_5_1, lq_5_2, lq_5_3, lq_5_4, lq_5_6, lq_6_0, lq_6_1, lq_6_2, lq_6_3, lq_6_4, lq_6_5, ll_0_0, ll_0_1, ll_0_2, ll_0_3, ll_0_4, ll_0_5, ll_0_6, ll_1_0, ll_1_1, ll_1_2, ll_1_3, ll_1_4, ll_1_5, ll_1_6, ll_2_0, ll_2_1, ll_2_2, ll_2_3, ll_2_4, ll_2_5, ll_2_6, ll_3_0, ll_3_1, ll_3_2, ll_3_3, ll_3_4, ll_3_5, ll_3_6, ll_4_0, ll_4_1, ll_4_2, ll_4_3, ll_4_4, ll_4_5, ll_4_6, ll_5_0, ll_5_1, ll_5_2, ll_5_3, ll_5_4, ll_5_5, ll_5_6, ll_6_0, ll_6_1, ll_6_2, ll_6_3, ll_6_4, ll_6_5, ll_6_6, le_0_0, le_0_1, le_0_2, le_0_3, le_0_4, le_0_5, le_0_6, le_1_0, le_1_1, le_1_2, le_1_3, le_1_4, le_1_5, le_1_6, le_2_0, le_2_1, le_2_2, le_2_3, le_2_4, le_2_5, le_2_6, le_3_0, le_3_1, le_3_2, le_3_3, le_3_4, le_3_5, le_3_6, le_4_0, le_4_1, le_4_2, le_4_3, le_4_4, le_4_5, le_4_6, le_5_0, le_5_1, le_5_2, le_5_3, le_5_4, le_5_5, le_5_6, le_6_0, le_6_1, le_6_2, le_6_3, le_6_4, le_6_5, le_6_6, gf38_3, n_mul, is41 (i := 3 * gu) (by omega), cg]
          rw [hV]
          exact hK _ _ lj5
        · rw [if_neg (by decide)] at hV
          simp only [u176_120, u176_121, u176_124, u176_125, u176_126, u176_127, u176_128, u176_129, u176_130, u176_133, u176_135, u176_138, u176_140, q_push_s, q_push_n, q_sm_0, q_sm_i, q_sm_r, q_sm_n, q_sm_l, q_c1_0, q_c1_i, q_c1_r, q_c1_n, Nat.zero_add, Nat.reduceAdd, Nat.reduceMul, Nat.reduceSub, Nat.reduceLeDiff, Nat.reduceLT, Nat.reduceEqDiff, true_and, and_true, not_false_eq_true, if_true, if_false, ite_true, ite_false, or_true, true_or, or_false, false_or, not_true_eq_false, eq_self, lq_0_1, lq_0_2, lq_0_3, lq_0_4, lq_0_5, lq_0_6, lq_1_0, lq_1_2, lq_1_3, lq_1_4, lq_1_5, lq_1_6, lq_2_0, lq_2_1, lq_2_3, lq_2_4, lq_2_5, lq_2_6, lq_3_0, lq_3_1, lq_3_2, lq_3_4, lq_3_5, lq_3_6, lq_4_0, lq_4_1, lq_4_2, lq_4_3, lq_4_5, lq_4_6, lq_5_0, lq_5_1, lq_5_2, lq_5_3, lq_5_4, lq_5_6, lq_6_0, lq_6_1, lq_6_2, lq_6_3, lq_6_4, lq_6_5, ll_0_0, ll_0_1, ll_0_2, ll_0_3, ll_0_4, ll_0_5, ll_0_6, ll_1_0, ll_1_1, ll_1_2, ll_1_3, ll_1_4, ll_1_5, ll_1_6, ll_2_0, ll_2_1, ll_2_2, ll_2_3, ll_2_4, ll_2_5, ll_2_6, ll_3_0, ll_3_1, ll_3_2, ll_3_3, ll_3_4, ll_3_5, ll_3_6, ll_4_0, ll_4_1, ll_4_2, ll_4_3, ll_4_4, ll_4_5, ll_4_6, ll_5_0, ll_5_1, ll_5_2, ll_5_3, ll_5_4, ll_5_5, ll_5_6, ll_6_0, ll_6_1, ll_6_2, ll_6_3, ll_6_4, ll_6_5, ll_6_6, le_0_0, le_0_1, le_0_2, le_0_3, le_0_4, le_0_5, le_0_6, le_1_0, le_1_1, le_1_2, le_1_3, le_1_4, le_1_5, le_1_6, le_2_0, le_2_1, le_2_2, le_2_3, le_2_4, le_2_5, le_2_6, le_3_0, le_3_1, le_3_2, le_3_3, le_3_4, le_3_5, le_3_6, le_4_0, le_4_1, le_4_2, le_4_3, le_4_4, le_4_5, le_4_6, le_5_0, le_5_1, le_5_2, le_5_3, le_5_4, le_5_5, le_5_6, le_6_0, le_6_1, le_6_2, le_6_3, le_6_4, le_6_5, le_6_6, gf38_3, n_mul, is41 (i := 3 * gu) (by omega), cg]
          rw [hV]
          exact hK _ _ lj5
      have hw' : w = 0 ∨ w = 1 := by omega
      rcases hw' with rfl | rfl
      · simp only [u82_99, u82_100, u82_103, u82_106, u82_107, u82_108, u82_111, u82_112, u82_115, u82_117, u82_120, u82_122, q_push_s, q_push_n, q_sm_0, q_sm_i, q_sm_r, q_sm_n, q_sm_l, q_c1_0, q_c1_i, q_c1_r, q_c1_n, Nat.zero_add, Nat.reduceAdd, Nat.reduceMul, Nat.reduceSub, Nat.reduceLeDiff, Nat.reduceLT, Nat.reduceEqDiff, true_and, and_true, not_false_eq_true, if_true, if_false, ite_true, ite_false, or_true, true_or, or_false, false_or, not_true_eq_false, eq_self, lq_0_1, lq_0_2, lq_0_3, lq_0_4, lq_0_5, lq_0_6, lq_1_0, lq_1_2, lq_1_3, lq_1_4, lq_1_5, lq_1_6, lq_2_0, lq_2_1, lq_2_3, lq_2_4, lq_2_5, lq_2_6, lq_3_0, lq_3_1, lq_3_2, lq_3_4, lq_3_5, lq_3_6, lq_4_0, lq_4_1, lq_4_2, lq_4_3, lq_4_5, lq_4_6, lq_5_0, lq_5_1, lq_5_2, lq_5_3, lq_5_4, lq_5_6, lq_6_0, lq_6_1, lq_6_2, lq_6_3, lq_6_4, lq_6_5, ll_0_0, ll_0_1, ll_0_2, ll_0_3, ll_0_4, ll_0_5, ll_0_6, ll_1_0, ll_1_1, ll_1_2, ll_1_3, ll_1_4, ll_1_5, ll_1_6, ll_2_0, ll_2_1, ll_2_2, ll_2_3, ll_2_4, ll_2_5, ll_2_6, ll_3_0, ll_3_1, ll_3_2, ll_3_3, ll_3_4, ll_3_5, ll_3_6, ll_4_0, ll_4_1, ll_4_2, ll_4_3, ll_4_4, ll_4_5, ll_4_6, ll_5_0, ll_5_1, ll_5_2, ll_5_3, ll_5_4, ll_5_5, ll_5_6, ll_6_0, ll_6_1, ll_6_2, ll_6_3, ll_6_4, ll_6_5, ll_6_6, le_0_0, le_0_1, le_0_2, le_0_3, le_0_4, le_0_5, le_0_6, le_1_0, le_1_1, le_1_2, le_1_3, le_1_4, le_1_5, le_1_6, le_2_0, le_2_1, le_2_2, le_2_3, le_2_4, le_2_5, le_2_6, le_3_0, le_3_1, le_3_2, le_3_3, le_3_4, le_3_5, le_3_6, le_4_0, le_4_1, le_4_2, le_4_3, le_4_4, le_4_5, le_4_6, le_5_0, le_5_1, le_5_2, le_5_3, le_5_4, le_5_5, le_5_6, le_6_0, le_6_1, le_6_2, le_6_3, le_6_4, le_6_5, le_6_6, gf0_2, gf3_5, c_put (j := gu) sh6 (by decide) (by decide) g6, Nat.zero_le, Nat.reduceLeDiff]
        exact fin _ rfl
      · simp only [u82_99, u82_100, u82_103, u82_106, u82_107, u82_108, u82_111, u82_112, u82_115, u82_117, u82_120, u82_122, q_push_s, q_push_n, q_sm_0, q_sm_i, q_sm_r, q_sm_n, q_sm_l, q_c1_0, q_c1_i, q_c1_r, q_c1_n, Nat.zero_add, Nat.reduceAdd, Nat.reduceMul, Nat.reduceSub, Nat.reduceLeDiff, Nat.reduceLT, Nat.reduceEqDiff, true_and, and_true, not_false_eq_true, if_true, if_false, ite_true, ite_false, or_true, true_or, or_false, false_or, not_true_eq_false, eq_self, lq_0_1, lq_0_2, lq_0_3, lq_0_4, lq_0_5, lq_0_6, lq_1_0, lq_1_2, lq_1_3, lq_1_4, lq_1_5, lq_1_6, lq_2_0, lq_2_1, lq_2_3, lq_2_4, lq_2_5, lq_2_6, lq_3_0, lq_3_1, lq_3_2, lq_3_4, lq_3_5, lq_3_6, lq_4_0, lq_4_1, lq_4_2, lq_4_3, lq_4_5, lq_4_6, lq_5_0, lq_5_1, lq_5_2, lq_5_3, lq_5_4, lq_5_6, lq_6_0, lq_6_1, lq_6_2, lq_6_3, lq_6_4, lq_6_5, ll_0_0, ll_0_1, ll_0_2, ll_0_3, ll_0_4, ll_0_5, ll_0_6, ll_1_0, ll_1_1, ll_1_2, ll_1_3, ll_1_4, ll_1_5, ll_1_6, ll_2_0, ll_2_1, ll_2_2, ll_2_3, ll_2_4, ll_2_5, ll_2_6, ll_3_0, ll_3_1, ll_3_2, ll_3_3, ll_3_4, ll_3_5, ll_3_6, ll_4_0, ll_4_1, ll_4_2, ll_4_3, ll_4_4, ll_4_5, ll_4_6, ll_5_0, ll_5_1, ll_5_2, ll_5_3, ll_5_4, ll_5_5, ll_5_6, ll_6_0, ll_6_1, ll_6_2, ll_6_3, ll_6_4, ll_6_5, ll_6_6, le_0_0, le_0_1, le_0_2, le_0_3, le_0_4, le_0_5, le_0_6, le_1_0, le_1_1, le_1_2, le_1_3, le_1_4, le_1_5, le_1_6, le_2_0, le_2_1, le_2_2, le_2_3, le_2_4, le_2_5, le_2_6, le_3_0, le_3_1, le_3_2, le_3_3, le_3_4, le_3_5, le_3_6, le_4_0, le_4_1, le_4_2, le_4_3, le_4_4, le_4_5, le_4_6, le_5_0, le_5_1, le_5_2, le_5_3, le_5_4, le_5_5, le_5_6, le_6_0, le_6_1, le_6_2, le_6_3, le_6_4, le_6_5, le_6_6, gf0_2, gf3_5, c_put (j := gu) sh6 (by decide) (by decide) g6, Nat.zero_le, Nat.reduceLeDiff]
        exact fin _ rfl
    · rcases z_is_f (n := 1) (by decide) hb with q | ⟨q1, q2⟩
      · simp only [u82_0, u82_1, u82_4, u82_5, u82_8, u82_11, u82_13, u82_14, u82_15, u82_18, u82_19, u82_20, u82_23, u82_25, e82, u176_0, u176_1, u176_2, u176_5, u176_8, u176_10, u176_11, u176_12, u176_13, u176_14, u176_17, u176_20, u176_22, e176, q_push_s, q_push_n, q_sm_0, q_sm_i, q_sm_r, q_sm_n, q_sm_l, q_c1_0, q_c1_i, q_c1_r, q_c1_n, Nat.zero_add, Nat.reduceAdd, Nat.reduceMul, Nat.reduceSub, Nat.reduceLeDiff, Nat.reduceLT, Nat.reduceEqDiff, true_and, and_true, not_false_eq_true, if_true, if_false, ite_true, ite_false, or_true, true_or, or_false, false_or, not_true_eq_false, gf0_2, io3, io38, l.has, l.isg, ha, z_b_z, q, c_in, false_and, Nat.zero_le, Nat.reduceLeDiff]
        exact hK _ _ l
      · simp only [u82_0, u82_1, u82_4, u82_5, u82_8, u82_11, u82_13, u82_14, u82_15, u82_18, u82_19, u82_20, u82_23, u82_25, e82, u176_0, u176_1, u176_2, u176_5, u176_8, u176_10, u176_11, u176_12, u176_13, u176_14, u176_17, u176_20, u176_22, e176, q_push_s, q_push_n, q_sm_0, q_sm_i, q_sm_r, q_sm_n, q_sm_l, q_c1_0, q_c1_i, q_c1_r, q_c1_n, Nat.zero_add, Nat.reduceAdd, Nat.reduceMul, Nat.reduceSub, Nat.reduceLeDiff, Nat.reduceLT, Nat.reduceEqDiff, true_and, and_true, not_false_eq_true, if_true, if_false, ite_true, ite_false, or_true, true_or, or_false, false_or, not_true_eq_false, gf0_2, io3, io38, l.has, l.isg, ha, z_b_z, q1, q2, c_in, and_false, Nat.zero_le, Nat.reduceLeDiff]
        exact hK _ _ l
  · simp only [u82_0, u82_1, u82_4, u82_5, u82_8, u82_11, u82_13, e82, u176_0, u176_1, u176_2, u176_5, u176_8, u176_10, e176, q_push_s, q_push_n, q_sm_0, q_sm_i, q_sm_r, q_sm_n, q_sm_l, q_c1_0, q_c1_i, q_c1_r, q_c1_n, Nat.zero_add, Nat.reduceAdd, Nat.reduceMul, Nat.reduceSub, Nat.reduceLeDiff, Nat.reduceLT, Nat.reduceEqDiff, true_and, and_true, not_false_eq_true, if_true, if_false, ite_true, ite_false, or_true, true_or, or_false, false_or, not_true_eq_false, gf0_2, io3, io38, l.has, l.isg, ha, z_b_z, Nat.zero_le, Nat.reduceLeDiff]
    exact hK _ _ l
end
