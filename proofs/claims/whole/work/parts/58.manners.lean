/-! ===== manners ===== -/
def z_ms (P : Nat → Bool) (q v : Nat) (a : Nat × Option Nat × Nat × Nat) : Nat × Option Nat × Nat × Nat := if P v then (a.1 + 1, some (a.2.1.getD v), a.2.2.1 ||| (v ^^^ a.2.1.getD v), a.2.2.2 ||| 2 ^ z_an v q) else a
def z_mn (P : Nat → Bool) (q : Nat) : Nat → Nat → Nat × Option Nat × Nat × Nat → Nat × Option Nat × Nat × Nat
  | 0, _, a => a
  | c + 1, v, a => z_mn P q c (v + 1) (z_ms P q v a)
def z_ol (o : Option Nat) : Int32 := match o with
  | none => (-1 : Int32)
  | some l => nI l
theorem z_an_or (a b q : Nat) : z_an (a ||| b) q = z_an a q ||| z_an b q := by
  unfold z_an
  rw [← Nat.shiftRight_eq_div_pow, ← Nat.shiftRight_eq_div_pow, ← Nat.shiftRight_eq_div_pow, Nat.shiftRight_or_distrib]
  exact Nat.or_mod_two_pow (n := 2)
theorem z_an_xor (a b q : Nat) : z_an (a ^^^ b) q = z_an a q ^^^ z_an b q := by
  unfold z_an
  rw [← Nat.shiftRight_eq_div_pow, ← Nat.shiftRight_eq_div_pow, ← Nat.shiftRight_eq_div_pow, Nat.shiftRight_xor_distrib]
  exact Nat.xor_mod_two_pow (n := 2)
def z_mi (q : Nat) (a : Nat × Option Nat × Nat × Nat) : Prop := match a.2.1 with
  | none => a.1 = 0 ∧ a.2.2.1 = 0 ∧ a.2.2.2 = 0
  | some l => l < 256 ∧ a.2.2.1 < 256 ∧ a.2.2.2 < 16 ∧ (z_an a.2.2.1 q = 0 → a.2.2.2 = 2 ^ z_an l q) ∧ (z_an a.2.2.1 q ≠ 0 → 2 ≤ z_pop a.2.2.2)
theorem z_p4 : ∀ x, x < 4 → 2 ^ x < 16 ∧ z_pop (2 ^ x) = 1 := by decide +kernel
theorem z_p44 : ∀ x, x < 4 → ∀ y, y < 4 → (x ^^^ y ≠ 0 → 2 ≤ z_pop (2 ^ y ||| 2 ^ x)) ∧ (x ^^^ y = 0 → x = y) := by decide +kernel
theorem z_p16 : ∀ x, x < 16 → ∀ y, y < 4 → z_pop x ≤ z_pop (x ||| 2 ^ y) := by decide +kernel
theorem z_o44 : ∀ x, x < 4 → ∀ y, y < 4 → (x ||| y = 0 ↔ x = 0 ∧ y = 0) := by decide +kernel
theorem z_mi_s {P : Nat → Bool} {q v : Nat} {a : Nat × Option Nat × Nat × Nat} (h : z_mi q a) (hv : v < 256) : z_mi q (z_ms P q v a) := by
  unfold z_ms
  by_cases hp : P v = true
  · rw [if_pos hp]
    have ha := z_an_lt v q
    obtain ⟨a1, a2, a3, a4⟩ := a
    cases a2 with
    | none =>
      obtain ⟨h1, h2, h3⟩ := h
      have h2' : a3 = 0 := h2
      have h3' : a4 = 0 := h3
      subst h2' h3'
      show v < 256 ∧ 0 ||| (v ^^^ v) < 256 ∧ 0 ||| 2 ^ z_an v q < 16 ∧ (z_an (0 ||| (v ^^^ v)) q = 0 → 0 ||| 2 ^ z_an v q = 2 ^ z_an v q) ∧ (z_an (0 ||| (v ^^^ v)) q ≠ 0 → 2 ≤ z_pop (0 ||| 2 ^ z_an v q))
      rw [Nat.xor_self, Nat.zero_or, Nat.zero_or]
      refine ⟨hv, by decide, (z_p4 _ ha).1, fun _ => rfl, fun e => absurd ?_ e⟩
      unfold z_an
      rw [Nat.zero_div, Nat.zero_mod]
    | some l =>
      obtain ⟨h1, h2, h3, h4, h5⟩ := h
      have hl := z_an_lt l q
      show l < 256 ∧ a3 ||| (v ^^^ l) < 256 ∧ a4 ||| 2 ^ z_an v q < 16 ∧ (z_an (a3 ||| (v ^^^ l)) q = 0 → a4 ||| 2 ^ z_an v q = 2 ^ z_an l q) ∧ (z_an (a3 ||| (v ^^^ l)) q ≠ 0 → 2 ≤ z_pop (a4 ||| 2 ^ z_an v q))
      have h3' : a4 < 16 := h3
      have h2' : a3 < 256 := h2
      have hx : v ^^^ l < 256 := Nat.xor_lt_two_pow (n := 8) hv h1
      have h44 := z_p44 _ ha _ hl
      have ha3 := z_an_lt a3 q
      have hxx : z_an v q ^^^ z_an l q < 4 := Nat.xor_lt_two_pow (n := 2) ha hl
      have o44 := z_o44 _ ha3 _ hxx
      rw [z_an_or, z_an_xor]
      refine ⟨h1, Nat.or_lt_two_pow (n := 8) h2' hx, Nat.or_lt_two_pow (n := 4) h3' (z_p4 _ ha).1, fun e => ?_, fun e => ?_⟩
      · obtain ⟨e1, e2⟩ := o44.mp e
        have e3 : a4 = 2 ^ z_an l q := h4 e1
        rw [e3, h44.2 e2, Nat.or_self]
      · by_cases e1 : z_an a3 q = 0
        · have e3 : a4 = 2 ^ z_an l q := h4 e1
          rw [e3]
          exact h44.1 (fun e2 => e (o44.mpr ⟨e1, e2⟩))
        · have e3 : 2 ≤ z_pop a4 := h5 e1
          exact Nat.le_trans e3 (z_p16 _ h3' _ ha)
  · rw [if_neg hp]; exact h
theorem z_mi_n {P : Nat → Bool} {q : Nat} : ∀ c v a, v + c ≤ 256 → z_mi q a → z_mi q (z_mn P q c v a)
  | 0, _, _, _, h => h
  | c + 1, v, a, hc, h => z_mi_n c (v + 1) _ (by omega) (z_mi_s h (by omega))
section
variable {T : List Nat} {L : Nat} {s : ZS} {tx : Nat → Nat → List Nat} {n : Nat} {h : ZH} {m : q_M} {g : q_G} {K : Option Value → q_G → q_M → Prop}
theorem l_ones {d : Nat} {v i a : Nat} (hv : v < 64) (hi : i < 6) : q_R 118 4 d [some (.int (nI v)), some (.int (nI a)), some (.int (nI i))] [] g m K ↔ q_R 118 4 d [some (.int (nI v)), some (.int (nI (a + v / 2 ^ i % 2))), some (.int (nI (i + 1)))] [] g m K := by
  have h1 : v / 2 ^ i ≤ v := Nat.div_le_self _ _
  have n_and1 : nI (v / 2 ^ i) &&& nI 1 = nI (v / 2 ^ i % 2) := pk_andN (by omega) 1 (by decide +kernel)
  rw [u118_4]
  simp only [u118_5, u118_7, u118_10, u118_11, u118_12, u118_13, u118_14, u118_15, u118_16, u118_17, u118_18, u118_21, q_push_s, q_push_n, q_sm_0, q_sm_i, q_sm_r, q_sm_n, q_sm_l, q_c1_0, q_c1_i, q_c1_r, q_c1_n, Nat.zero_add, Nat.reduceAdd, Nat.reduceMul, Nat.reduceSub, Nat.reduceLeDiff, Nat.reduceLT, Nat.reduceEqDiff, true_and, and_true, not_false_eq_true, if_true, if_false, ite_true, ite_false, or_true, true_or, or_false, false_or, not_true_eq_false, n_lt (i := i) (j := 6) (by omega) (by decide), hi, n_shr (a := v) (k := i) (by omega) (by omega), n_and1, n_add]
theorem c_ones {d : Nat} {v : Nat} (hv : v < 64) : q_C 118 d [.int (nI v)] g m K ↔ K (some (.int (nI (z_pop v)))) g m := by
  simp only [u118_0, u118_1, u118_2, u118_3, e118, q_push_s, q_push_n, q_sm_0, q_sm_i, q_sm_r, q_sm_n, q_sm_l, q_c1_0, q_c1_i, q_c1_r, q_c1_n, Nat.zero_add, Nat.reduceAdd, Nat.reduceMul, Nat.reduceSub, Nat.reduceLeDiff, Nat.reduceLT, Nat.reduceEqDiff, true_and, and_true, not_false_eq_true, if_true, if_false, ite_true, ite_false, or_true, true_or, or_false, false_or, not_true_eq_false]
  rw [l_ones hv (by decide), l_ones hv (by decide), l_ones hv (by decide), l_ones hv (by decide), l_ones hv (by decide), l_ones hv (by decide)]
  have e6 : (nI 6 < nI 6) = False := eq_false (by decide)
  simp only [u118_4, u118_5, u118_7, u118_24, u118_25, q_push_s, q_push_n, q_sm_0, q_sm_i, q_sm_r, q_sm_n, q_sm_l, q_c1_0, q_c1_i, q_c1_r, q_c1_n, Nat.zero_add, Nat.reduceAdd, Nat.reduceMul, Nat.reduceSub, Nat.reduceLeDiff, Nat.reduceLT, Nat.reduceEqDiff, true_and, and_true, not_false_eq_true, if_true, if_false, ite_true, ite_false, or_true, true_or, or_false, false_or, not_true_eq_false, e6]
  have e : 0 + v / 2 ^ 0 % 2 + v / 2 ^ (0 + 1) % 2 + v / 2 ^ (0 + 1 + 1) % 2 + v / 2 ^ (0 + 1 + 1 + 1) % 2 + v / 2 ^ (0 + 1 + 1 + 1 + 1) % 2 + v / 2 ^ (0 + 1 + 1 + 1 + 1 + 1) % 2 = z_pop v := by
    unfold z_pop
    simp only [Nat.zero_add, Nat.reduceAdd, Nat.reducePow]
    omega
  have e' : v / 2 ^ 0 % 2 + v / 2 ^ 1 % 2 + v / 2 ^ 2 % 2 + v / 2 ^ 3 % 2 + v / 2 ^ 4 % 2 + v / 2 ^ 5 % 2 = z_pop v := by
    unfold z_pop
    simp only [Nat.reducePow]
    omega
  first | rw [e] | rw [e']
theorem l_mann {k gu q : Nat} (hk : k < 4) (hgd : z_good s h k) (hg : gu < s.1 0) (h6 : s.1 0 ≤ 6) (hB : BZ s) (x3 x4 : Option Value) (x5 : Int32) (d : Nat) : ∀ c v m a x, v + c = 256 → z_mi q a → CJ T L (z_sr s 2 gu x) tx n h m → (∀ m' x', FCp 6 m m' → CJ T L (z_sr s 2 gu x') tx n h m' → q_R 85 129 (d + 6) [some (.ref 0), some (.int (nI k)), some (.int (nI gu)), x3, x4, some (.int x5), some (.int (nI (z_mn (z_ulk tx s h k 2 gu) q c v a).1)), some (.int (z_ol (z_mn (z_ulk tx s h k 2 gu) q c v a).2.1)), some (.int (nI (z_mn (z_ulk tx s h k 2 gu) q c v a).2.2.1)), some (.int (nI 256))] [] (GG T L) m' K) →
    q_R 85 66 (d + 6) [some (.ref 0), some (.int (nI k)), some (.int (nI gu)), x3, x4, some (.int x5), some (.int (nI a.1)), some (.int (z_ol a.2.1)), some (.int (nI a.2.2.1)), some (.int (nI v))] [] (GG T L) m K
  | 0, v, m, a, x, hc, hi, l, hK => by
    have hv : v = 256 := by omega
    subst hv
    simp only [u85_66, u85_68, u85_71, q_push_s, q_push_n, q_sm_0, q_sm_i, q_sm_r, q_sm_n, q_sm_l, q_c1_0, q_c1_i, q_c1_r, q_c1_n, Nat.zero_add, Nat.reduceAdd, Nat.reduceMul, Nat.reduceSub, Nat.reduceLeDiff, Nat.reduceLT, Nat.reduceEqDiff, true_and, and_true, not_false_eq_true, if_true, if_false, ite_true, ite_false, or_true, true_or, or_false, false_or, not_true_eq_false, n_lt (i := 256) (j := 256) (by decide) (by decide)]
    exact hK m x (FCp.refl _ m) l
  | c + 1, v, m, a, x, hc, hi, l, hK => by
    have hv : v < 256 := by omega
    have g6 : gu < 6 := by omega
    have hBv := hB.sr (r := 2) (gu := gu) (v := v) (fun _ => hv) (fun e => absurd e (by decide)) (fun e => absurd e (by decide)) (by decide)
    have l2 := l.put (v := v) (by omega) hBv
    have hi2 := z_mi_s (P := z_ulk tx s h k 2 gu) hi hv
    rw [u85_66]
    simp only [u85_68, u85_71, u85_74, u85_75, u85_78, u85_81, u85_82, u85_84, u85_87, u85_88, u85_89, u85_90, q_push_s, q_push_n, q_sm_0, q_sm_i, q_sm_r, q_sm_n, q_sm_l, q_c1_0, q_c1_i, q_c1_r, q_c1_n, Nat.zero_add, Nat.reduceAdd, Nat.reduceMul, Nat.reduceSub, Nat.reduceLeDiff, Nat.reduceLT, Nat.reduceEqDiff, true_and, and_true, not_false_eq_true, if_true, if_false, ite_true, ite_false, or_true, true_or, or_false, false_or, not_true_eq_false, gf0_2, gf3_5, io0, n_lt (i := v) (j := 256) (by omega) (by decide), hv, c_put (j := gu) sh6 (by decide) (by decide) g6, Nat.zero_le, Nat.reduceLeDiff]
    refine l2.fo (d := d) hk (z_good_s (z_srz s 2 gu v) hgd) hg (fun m1 f1 l1 => ?_)
    have ft := (FCp.up 6 gu (nI v) m).trans f1.p
    rw [show z_mn (z_ulk tx s h k 2 gu) q (c + 1) v a = z_mn (z_ulk tx s h k 2 gu) q c (v + 1) (z_ms (z_ulk tx s h k 2 gu) q v a) from rfl] at hK
    have rec2 := l_mann hk hgd hg h6 hB x3 x4 x5 d c (v + 1) m1 (z_ms (z_ulk tx s h k 2 gu) q v a) v (by omega) hi2 l1 (fun m' x' f' l' => hK m' x' (ft.trans f') l')
    by_cases q1 : z_ul tx (z_sr s 2 gu v) h k gu = (-1 : Int32)
    · have e : z_ms (z_ulk tx s h k 2 gu) q v a = (a.1 + 1, some (a.2.1.getD v), a.2.2.1 ||| (v ^^^ a.2.1.getD v), a.2.2.2 ||| 2 ^ z_an v q) := if_pos (z_ulkT.mpr q1)
      rw [e] at rec2
      obtain ⟨a1, a2, a3, a4⟩ := a
      cases a2 with
      | none =>
        have eo : z_ol (none : Option Nat) = (-1 : Int32) := rfl
        simp only [u85_93, u85_94, u85_97, u85_100, u85_103, u85_105, u85_106, u85_109, u85_111, u85_113, u85_115, u85_117, u85_119, u85_120, u85_121, u85_123, u85_126, q_push_s, q_push_n, q_sm_0, q_sm_i, q_sm_r, q_sm_n, q_sm_l, q_c1_0, q_c1_i, q_c1_r, q_c1_n, Nat.zero_add, Nat.reduceAdd, Nat.reduceMul, Nat.reduceSub, Nat.reduceLeDiff, Nat.reduceLT, Nat.reduceEqDiff, true_and, and_true, not_false_eq_true, if_true, if_false, ite_true, ite_false, or_true, true_or, or_false, false_or, not_true_eq_false, q1, eo, n_add, z_xor, n_or]
        exact rec2
      | some w =>
        have hw : w < 256 := hi.1
        have eo : z_ol (some w) = nI w := rfl
        have en := (i_nm (j := w) (by omega)).2.1
        simp only [u85_93, u85_94, u85_97, u85_100, u85_103, u85_105, u85_106, u85_109, u85_111, u85_113, u85_115, u85_117, u85_119, u85_120, u85_121, u85_123, u85_126, q_push_s, q_push_n, q_sm_0, q_sm_i, q_sm_r, q_sm_n, q_sm_l, q_c1_0, q_c1_i, q_c1_r, q_c1_n, Nat.zero_add, Nat.reduceAdd, Nat.reduceMul, Nat.reduceSub, Nat.reduceLeDiff, Nat.reduceLT, Nat.reduceEqDiff, true_and, and_true, not_false_eq_true, if_true, if_false, ite_true, ite_false, or_true, true_or, or_false, false_or, not_true_eq_false, q1, eo, en, n_add, z_xor, n_or]
        exact rec2
    · have e : z_ms (z_ulk tx s h k 2 gu) q v a = a := if_neg (fun e => q1 (z_ulkT.mp e))
      rw [e] at rec2
      simp only [u85_93, u85_94, u85_97, u85_100, u85_103, u85_105, u85_106, u85_109, u85_111, u85_113, u85_115, u85_117, u85_119, u85_120, u85_121, u85_123, u85_126, q_push_s, q_push_n, q_sm_0, q_sm_i, q_sm_r, q_sm_n, q_sm_l, q_c1_0, q_c1_i, q_c1_r, q_c1_n, Nat.zero_add, Nat.reduceAdd, Nat.reduceMul, Nat.reduceSub, Nat.reduceLeDiff, Nat.reduceLT, Nat.reduceEqDiff, true_and, and_true, not_false_eq_true, if_true, if_false, ite_true, ite_false, or_true, true_or, or_false, false_or, not_true_eq_false, q1, n_add]
      exact rec2
theorem z_cl3 : ∀ w, w < 6 → z_clip (nI w - nI 2) 3 = w - 2 := by decide +kernel
theorem l_mann8 {k gu w : Nat} (hk : k < 4) (hgd : z_good s h k) (hg : gu < s.1 0) (h6 : s.1 0 ≤ 6) (hB : BZ s) (hw : w < 6) (x4 : Option Value) (x5 : Int32) (d : Nat) : ∀ c v m a x, v + c = 256 → z_mi (w - 2) a → RJ (z_sr s 2 gu x) tx n h m → (∀ m' x', FMp 41 m m' → RJ (z_sr s 2 gu x') tx n h m' → q_R 182 122 (d + 6) [some (.ref 38), some (.int (nI k)), some (.int (nI gu)), some (.int (nI w)), x4, some (.int x5), some (.int (nI (z_mn (z_ulk tx s h k 2 gu) (w - 2) c v a).1)), some (.int (z_ol (z_mn (z_ulk tx s h k 2 gu) (w - 2) c v a).2.1)), some (.int (nI (z_mn (z_ulk tx s h k 2 gu) (w - 2) c v a).2.2.2)), some (.int (nI 256))] [] (GG T L) m' K) →
    q_R 182 50 (d + 6) [some (.ref 38), some (.int (nI k)), some (.int (nI gu)), some (.int (nI w)), x4, some (.int x5), some (.int (nI a.1)), some (.int (z_ol a.2.1)), some (.int (nI a.2.2.2)), some (.int (nI v))] [] (GG T L) m K
  | 0, v, m, a, x, hc, hi, l, hK => by
    have hv : v = 256 := by omega
    subst hv
    simp only [u182_50, u182_52, u182_55, q_push_s, q_push_n, q_sm_0, q_sm_i, q_sm_r, q_sm_n, q_sm_l, q_c1_0, q_c1_i, q_c1_r, q_c1_n, Nat.zero_add, Nat.reduceAdd, Nat.reduceMul, Nat.reduceSub, Nat.reduceLeDiff, Nat.reduceLT, Nat.reduceEqDiff, true_and, and_true, not_false_eq_true, if_true, if_false, ite_true, ite_false, or_true, true_or, or_false, false_or, not_true_eq_false, n_lt (i := 256) (j := 256) (by decide) (by decide)]
    exact hK m x (FMp.refl _ m) l
  | c + 1, v, m, a, x, hc, hi, l, hK => by
    have hv : v < 256 := by omega
    have hBv := hB.sr (r := 2) (gu := gu) (v := v) (fun _ => hv) (fun e => absurd e (by decide)) (fun e => absurd e (by decide)) (by decide)
    have l2 := l.put (r := 0) (v := v) (by omega) hBv
    have hi2 := z_mi_s (P := z_ulk tx s h k 2 gu) hi hv
    have cg : (nI (3 * gu)).toNatClampNeg = 3 * gu := n_cl (by omega)
    have ha := z_an_lt v (w - 2)
    have e3 : (nI 0 - nI 2) = (nI 0 - nI 2) := rfl
    rw [u182_50]
    simp only [u182_52, u182_55, u182_58, u182_59, u182_62, u182_63, u182_64, u182_65, u182_67, u182_68, u182_69, u182_70, u182_71, q_push_s, q_push_n, q_sm_0, q_sm_i, q_sm_r, q_sm_n, q_sm_l, q_c1_0, q_c1_i, q_c1_r, q_c1_n, Nat.zero_add, Nat.reduceAdd, Nat.reduceMul, Nat.reduceSub, Nat.reduceLeDiff, Nat.reduceLT, Nat.reduceEqDiff, true_and, and_true, not_false_eq_true, if_true, if_false, ite_true, ite_false, or_true, true_or, or_false, false_or, not_true_eq_false, gf38_3, io38, n_mul, n_lt (i := v) (j := 256) (by omega) (by decide), hv, is41 (i := 3 * gu) (by omega), cg, Nat.zero_le, Nat.reduceLeDiff]
    refine l2.ul (d := d) hk (z_good_s (z_srz s 2 gu v) hgd) hg (fun m1 f1 l1 => ?_)
    have ft := (FMp.up (p := 41) (by decide) (3 * gu) (nI v) m).trans f1.p
    rw [show z_mn (z_ulk tx s h k 2 gu) (w - 2) (c + 1) v a = z_mn (z_ulk tx s h k 2 gu) (w - 2) c (v + 1) (z_ms (z_ulk tx s h k 2 gu) (w - 2) v a) from rfl] at hK
    have rec2 := l_mann8 hk hgd hg h6 hB hw x4 x5 d c (v + 1) m1 (z_ms (z_ulk tx s h k 2 gu) (w - 2) v a) v (by omega) hi2 l1 (fun m' x' f' l' => hK m' x' (ft.trans f') l')
    by_cases q1 : z_ul tx (z_sr s 2 gu v) h k gu = (-1 : Int32)
    · have e : z_ms (z_ulk tx s h k 2 gu) (w - 2) v a = (a.1 + 1, some (a.2.1.getD v), a.2.2.1 ||| (v ^^^ a.2.1.getD v), a.2.2.2 ||| 2 ^ z_an v (w - 2)) := if_pos (z_ulkT.mpr q1)
      rw [e] at rec2
      obtain ⟨a1, a2, a3, a4⟩ := a
      cases a2 with
      | none =>
        have eo : z_ol (none : Option Nat) = (-1 : Int32) := rfl
        simp only [u182_74, u182_75, u182_78, u182_81, u182_83, u182_84, u182_87, u182_89, u182_92, u182_94, u182_96, u182_98, u182_99, u182_101, u182_102, u182_103, u182_104, u182_105, u182_106, u182_109, u182_112, u182_113, u182_114, u182_116, u182_119, q_push_s, q_push_n, q_sm_0, q_sm_i, q_sm_r, q_sm_n, q_sm_l, q_c1_0, q_c1_i, q_c1_r, q_c1_n, Nat.zero_add, Nat.reduceAdd, Nat.reduceMul, Nat.reduceSub, Nat.reduceLeDiff, Nat.reduceLT, Nat.reduceEqDiff, true_and, and_true, not_false_eq_true, if_true, if_false, ite_true, ite_false, or_true, true_or, or_false, false_or, not_true_eq_false, q1, eo, n_add, c_within, z_win_n, z_cl3 w hw, c_answer hv (show w - 2 < 4 by omega), n_s1 (z_an v (w - 2)) (by omega), n_or]
        exact rec2
      | some y =>
        have hy : y < 256 := hi.1
        have eo : z_ol (some y) = nI y := rfl
        have en := (i_nm (j := y) (by omega)).2.1
        simp only [u182_74, u182_75, u182_78, u182_81, u182_83, u182_84, u182_87, u182_89, u182_92, u182_94, u182_96, u182_98, u182_99, u182_101, u182_102, u182_103, u182_104, u182_105, u182_106, u182_109, u182_112, u182_113, u182_114, u182_116, u182_119, q_push_s, q_push_n, q_sm_0, q_sm_i, q_sm_r, q_sm_n, q_sm_l, q_c1_0, q_c1_i, q_c1_r, q_c1_n, Nat.zero_add, Nat.reduceAdd, Nat.reduceMul, Nat.reduceSub, Nat.reduceLeDiff, Nat.reduceLT, Nat.reduceEqDiff, true_and, and_true, not_false_eq_true, if_true, if_false, ite_true, ite_false, or_true, true_or, or_false, false_or, not_true_eq_false, q1, eo, en, n_add, c_within, z_win_n, z_cl3 w hw, c_answer hv (show w - 2 < 4 by omega), n_s1 (z_an v (w - 2)) (by omega), n_or]
        exact rec2
    · have e : z_ms (z_ulk tx s h k 2 gu) (w - 2) v a = a := if_neg (fun e => q1 (z_ulkT.mp e))
      rw [e] at rec2
      simp only [u182_74, u182_75, u182_78, u182_81, u182_83, u182_84, u182_87, u182_89, u182_92, u182_94, u182_96, u182_98, u182_99, u182_101, u182_102, u182_103, u182_104, u182_105, u182_106, u182_109, u182_112, u182_113, u182_114, u182_116, u182_119, q_push_s, q_push_n, q_sm_0, q_sm_i, q_sm_r, q_sm_n, q_sm_l, q_c1_0, q_c1_i, q_c1_r, q_c1_n, Nat.zero_add, Nat.reduceAdd, Nat.reduceMul, Nat.reduceSub, Nat.reduceLeDiff, Nat.reduceLT, Nat.reduceEqDiff, true_and, and_true, not_false_eq_true, if_true, if_false, ite_true, ite_false, or_true, true_or, or_false, false_or, not_true_eq_false, q1, n_add]
      exact rec2
end
section
variable {T : List Nat} {L d : Nat} {xs : Nat → Int32} {s : ZS} {tx : Nat → Nat → List Nat} {n : Nat} {tp : Nat → Nat} {z : Nat} {h : ZH} {wd : Nat → Int32} {m m1 m2 : q_M} {K : Option Value → Option Value → q_G → q_M → Prop}
/-- the answer -/
def z_mr (w : Nat) (a : Nat × Option Nat × Nat × Nat) : Int32 := if w = 0 then nI a.1 else if w = 1 then z_ol a.2.1 else match a.2.1 with
  | none => (-1 : Int32)
  | some l => if z_an a.2.2.1 (w - 2) = 0 then nI (z_an l (w - 2)) else (-1 : Int32)
theorem p_manners (l : LJ T L xs s tx n tp z h wd m) (a b c : Int32) (hK : ∀ r m', LJ T L xs s tx n tp z h wd m' → K (some (.int r)) (some (.int r)) (GG T L) m') :
    q_C 85 (d + 6) [.ref 0, .int a, .int b, .int c] (GG T L) m (fun v g m => q_C 182 (d + 6) [.ref 38, .int a, .int b, .int c] g m (fun v' g m => K v v' g m)) := by
  have lc := l.cj
  have lr := l.rj
  have h6 := l.bz.1
  by_cases hr : z_rfv s h a = nI 0
  · by_cases hb : z_is b (s.1 0)
    · by_cases hc : z_is c 6
      · obtain ⟨k, hk, rfl, hgd⟩ := z_rfv_0 hr
        obtain ⟨gu, hg, rfl⟩ := z_is_n hb
        obtain ⟨w, hw, rfl⟩ := z_is_n hc
        have g6 : gu < 6 := by omega
        have l0 : CJ T L (z_sr s 2 gu (s.2.1 2 gu)) tx n h m := by rw [z_sr_id]; exact lc
        have w0 := n_lt0 (j := w) (by omega)
        have w1 := n_le (i := w) (j := 5) (by omega) (by decide)
        have w2 : w ≤ 5 := by omega
        have hi0 : z_mi (w - 2) (0, none, 0, 0) := ⟨rfl, rfl, rfl⟩
        simp only [u85_0, u85_1, u85_2, u85_5, u85_7, u85_9, u85_12, u85_14, u85_15, u85_16, u85_19, u85_20, u85_23, u85_26, u85_28, u85_29, u85_30, u85_33, u85_34, u85_35, u85_38, u85_40, u85_41, u85_42, u85_45, u85_48, u85_49, u85_52, u85_54, u85_55, u85_57, u85_58, u85_60, u85_61, u85_63, u85_64, e85, q_push_s, q_push_n, q_sm_0, q_sm_i, q_sm_r, q_sm_n, q_sm_l, q_c1_0, q_c1_i, q_c1_r, q_c1_n, Nat.zero_add, Nat.reduceAdd, Nat.reduceMul, Nat.reduceSub, Nat.reduceLeDiff, Nat.reduceLT, Nat.reduceEqDiff, true_and, and_true, not_false_eq_true, if_true, if_false, ite_true, ite_false, or_true, true_or, or_false, false_or, not_true_eq_false, gf0_2, gf3_5, io0, io3, lc.refusal, hr, lc.has, hb, z_b_z, w0, w1, w2, c_at (j := gu) sh6 (by decide) (by decide) g6, l.cl.ma gu hg, Nat.zero_le, Nat.reduceLeDiff]
        refine l_mann (q := w - 2) hk hgd hg h6 l.bz _ _ _ d 256 0 m (0, none, 0, 0) _ rfl hi0 l0 (fun m1 x' f1 l1 => ?_)
        have l2 := l1.put (v := s.2.1 2 gu) (by omega) (by rw [z_sr_id]; exact l.bz)
        rw [z_sr_id] at l2
        have lj2 := l.bc (p := 6) (by decide) (f1.trans (FCp.up 6 gu (nI (s.2.1 2 gu)) m1)) l2
        have lr2 := lj2.rj
        have hi1 := z_mi_n (P := z_ulk tx s h k 2 gu) 256 0 _ (Nat.le_refl _) hi0
        have fin : ∀ V, V = z_mr w (z_mn (z_ulk tx s h k 2 gu) (w - 2) 256 0 (0, none, 0, 0)) → q_C 182 (d + 6) [.ref 38, .int (nI k), .int (nI gu), .int (nI w)] (GG T L) (q_up m1 6 gu (nI (s.2.1 2 gu))) (fun v' g m => K (some (.int V)) v' g m) := by
          intro V hV
          simp only [u182_0, u182_1, u182_2, u182_3, u182_6, u182_8, u182_10, u182_13, u182_15, u182_16, u182_17, u182_18, u182_19, u182_22, u182_25, u182_27, u182_28, u182_29, u182_32, u182_33, u182_34, u182_35, u182_36, u182_38, u182_39, u182_41, u182_42, u182_44, u182_45, u182_47, u182_48, e182, q_push_s, q_push_n, q_sm_0, q_sm_i, q_sm_r, q_sm_n, q_sm_l, q_c1_0, q_c1_i, q_c1_r, q_c1_n, Nat.zero_add, Nat.reduceAdd, Nat.reduceMul, Nat.reduceSub, Nat.reduceLeDiff, Nat.reduceLT, Nat.reduceEqDiff, true_and, and_true, not_false_eq_true, if_true, if_false, ite_true, ite_false, or_true, true_or, or_false, false_or, not_true_eq_false, gf38_3, io38, lr2.toldWrong, hr, hb, z_pick_t, z_b_z, c_in, and_self, w0, w1, w2, n_mul, ia41 (i := 3 * gu) (by omega), lj2.mo.ma gu hg, Nat.zero_le, Nat.reduceLeDiff]
          have l02 : RJ (z_sr s 2 gu (s.2.1 2 gu)) tx n h (q_up m1 6 gu (nI (s.2.1 2 gu))) := by rw [z_sr_id]; exact lr2
          refine l_mann8 hk hgd hg h6 l.bz hw _ _ d 256 0 _ (0, none, 0, 0) _ rfl hi0 l02 (fun m3 x' f3 l3 => ?_)
          have l5 := l3.put (r := 0) (v := s.2.1 2 gu) (by omega) (by rw [z_sr_id]; exact l.bz)
          rw [z_sr_id] at l5
          have lj5 := lj2.bm (p := 41) (by decide) (f3.trans (FMp.up (p := 41) (by decide) (3 * gu) (nI (s.2.1 2 gu)) m3)) l5
          have cg : (nI (3 * gu)).toNatClampNeg = 3 * gu := n_cl (by omega)
          generalize z_mn (z_ulk tx s h k 2 gu) (w - 2) 256 0 (0, none, 0, 0) = A at hV hi1 ⊢
          obtain ⟨a1, a2, a3, a4⟩ := A
          unfold z_mr at hV
          by_cases q0 : w = 0
          · subst q0
            rw [if_pos rfl] at hV
            simp only [u182_122, u182_123, u182_126, u182_127, u182_128, u182_129, u182_131, u182_132, u182_133, u182_134, u182_137, u182_138, u182_141, u182_143, u182_146, u182_148, u182_149, u182_151, u182_154, u182_155, u182_158, u182_160, u182_161, u182_162, u182_163, u182_166, u182_169, u182_170, q_push_s, q_push_n, q_sm_0, q_sm_i, q_sm_r, q_sm_n, q_sm_l, q_c1_0, q_c1_i, q_c1_r, q_c1_n, Nat.zero_add, Nat.reduceAdd, Nat.reduceMul, Nat.reduceSub, Nat.reduceLeDiff, Nat.reduceLT, Nat.reduceEqDiff, true_and, and_true, not_false_eq_true, if_true, if_false, ite_true, ite_false, or_true, true_or, or_false, false_or, not_true_eq_false, eq_self, lq_0_1, lq_0_2, lq_0_3, lq_0_4, lq_0_5, lq_0_6, lq_1_0, lq_1_2, lq_1_3, lq_1_4, lq_1_5, lq_1_6, lq_2_0, lq_2_1, lq_2_3, lq_2_4, lq_2_5, lq_2_6, lq_3_0, lq_3_1, lq_3_2, lq_3_4, lq_3_5, lq_3_6, lq_4_0, lq_4_1, lq_4_2, lq_4_3, lq_4_5, lq_4_6, lq_5_0, lq_5_1, lq_5_2, lq_5_3, lq_5_4, lq_5_6, lq_6_0, lq_6_1, lq_6_2, lq_6_3, lq_6_4, lq_6_5, ll_0_0, ll_0_1, ll_0_2, ll_0_3, ll_0_4, ll_0_5, ll_0_6, ll_1_0, ll_1_1, ll_1_2, ll_1_3, ll_1_4, ll_1_5, ll_1_6, ll_2_0, ll_2_1, ll_2_2, ll_2_3, ll_2_4, ll_2_5, ll_2_6, ll_3_0, ll_3_1, ll_3_2, ll_3_3, ll_3_4, ll_3_5, ll_3_6, ll_4_0, ll_4_1, ll_4_2, ll_4_3, ll_4_4, ll_4_5, ll_4_6, ll_5_0, ll_5_1, ll_5_2, ll_5_3, ll_5_4, ll_5_5, ll_5_6, ll_6_0, ll_6_1, ll_6_2, ll_6_3, ll_6_4, ll_6_5, ll_6_6, le_0_0, le_0_1, le_0_2, le_0_3, le_0_4, le_0_5, le_0_6, le_1_0, le_1_1, le_1_2, le_1_3, le_1_4, le_1_5, le_1_6, le_2_0, le_2_1, le_2_2, le_2_3, le_2_4, le_2_5, le_2_6, le_3_0, le_3_1, le_3_2, le_3_3, le_3_4, le_3_5, le_3_6, le_4_0, le_4_1, le_4_2, le_4_3, le_4_4, le_4_5, le_4_6, le_5_0, le_5_1, le_5_2, le_5_3, le_5_4, le_5_5, le_5_6, le_6_0, le_6_1, le_6_2, le_6_3, le_6_4, le_6_5, le_6_6, gf38_3, n_mul, is41 (i := 3 * gu) (by omega), cg]
            rw [hV]
            exact hK _ _ lj5
          · rw [if_neg q0] at hV
            by_cases q1 : w = 1
            · subst q1
              rw [if_pos rfl] at hV
              simp only [u182_122, u182_123, u182_126, u182_127, u182_128, u182_129, u182_131, u182_132, u182_133, u182_134, u182_137, u182_138, u182_141, u182_143, u182_146, u182_148, u182_149, u182_151, u182_154, u182_155, u182_158, u182_160, u182_161, u182_162, u182_163, u182_166, u182_169, u182_170, q_push_s, q_push_n, q_sm_0, q_sm_i, q_sm_r, q_sm_n, q_sm_l, q_c1_0, q_c1_i, q_c1_r, q_c1_n, Nat.zero_add, Nat.reduceAdd, Nat.reduceMul, Nat.reduceSub, Nat.reduceLeDiff, Nat.reduceLT, Nat.reduceEqDiff, true_and, and_true, not_false_eq_true, if_true, if_false, ite_true, ite_false, or_true, true_or, or_false, false_or, not_true_eq_false, eq_self, lq_0_1, lq_0_2, lq_0_3, lq_0_4, lq_0_5, lq_0_6, lq_1_0, lq_1_2, lq_1_3, lq_1_4, lq_1_5, lq_1_6, lq_2_0, lq_2_1, lq_2_3, lq_2_4, lq_2_5, lq_2_6, lq_3_0, lq_3_1, lq_3_2, lq_3_4, lq_3_5, lq_3_6, lq_4_0, lq_4_1, lq_4_2, lq_4_3, lq_4_5, lq_4_6, lq_5_0, lq_5_1, lq_5_2, lq_5_3, lq_5_4, lq_5_6, lq_6_0, lq_6_1, lq_6_2, lq_6_3, lq_6_4, lq_6_5, ll_0_0, ll_0_1, ll_0_2, ll_0_3, ll_0_4, ll_0_5, ll_0_6, ll_1_0, ll_1_1, ll_1_2, ll_1_3, ll_1_4, ll_1_5, ll_1_6, ll_2_0, ll_2_1, ll_2_2, ll_2_3, ll_2_4, ll_2_5, ll_2_6, ll_3_0, ll_3_1, ll_3_2, ll_3_3, ll_3_4, ll_3_5, ll_3_6, ll_4_0, ll_4_1, ll_4_2, ll_4_3, ll_4_4, ll_4_5, ll_4_6, ll_5_0, ll_5_1, ll_5_2, ll_5_3, ll_5_4, ll_5_5, ll_5_6, ll_6_0, ll_6_1, ll_6_2, ll_6_3, ll_6_4, ll_6_5, ll_6_6, le_0_0, le_0_1, le_0_2, le_0_3, le_0_4, le_0_5, le_0_6, le_1_0, le_1_1, le_1_2, le_1_3, le_1_4, le_1_5, le_1_6, le_2_0, le_2_1, le_2_2, le_2_3, le_2_4, le_2_5, le_2_6, le_3_0, le_3_1, le_3_2, le_3_3, le_3_4, le_3_5, le_3_6, le_4_0, le_4_1, le_4_2, le_4_3, le_4_4, le_4_5, le_4_6, le_5_0, le_5_1, le_5_2, le_5_3, le_5_4, le_5_5, le_5_6, le_6_0, le_6_1, le_6_2, le_6_3, le_6_4, le_6_5, le_6_6, gf38_3, n_mul, is41 (i := 3 * gu) (by omega), cg]
              rw [hV]
              exact hK _ _ lj5
            · rw [if_neg q1] at hV
              have e2 := n_lt (i := w) (j := 2) (by omega) (by decide)
              have e3 : ¬ w < 2 := by omega
              cases a2 with
              | none =>
                obtain ⟨i1, i2, i3⟩ := hi1
                have i3' : a4 = 0 := i3
                subst i3'
                have e0 : z_pop 0 = 0 := by decide +kernel
                have hV' : V = (-1 : Int32) := hV
                simp only [u182_122, u182_123, u182_126, u182_127, u182_128, u182_129, u182_131, u182_132, u182_133, u182_134, u182_137, u182_138, u182_141, u182_143, u182_146, u182_148, u182_149, u182_151, u182_154, u182_155, u182_158, u182_160, u182_161, u182_162, u182_163, u182_166, u182_169, u182_170, q_push_s, q_push_n, q_sm_0, q_sm_i, q_sm_r, q_sm_n, q_sm_l, q_c1_0, q_c1_i, q_c1_r, q_c1_n, Nat.zero_add, Nat.reduceAdd, Nat.reduceMul, Nat.reduceSub, Nat.reduceLeDiff, Nat.reduceLT, Nat.reduceEqDiff, true_and, and_true, not_false_eq_true, if_true, if_false, ite_true, ite_false, or_true, true_or, or_false, false_or, not_true_eq_false, eq_self, lq_0_1, lq_0_2, lq_0_3, lq_0_4, lq_0_5, lq_0_6, lq_1_0, lq_1_2, lq_1_3, lq_1_4, lq_1_5, lq_1_6, lq_2_0, lq_2_1, lq_2_3, lq_2_4, lq_2_5, lq_2_6, lq_3_0, lq_3_1, lq_3_2, lq_3_4, lq_3_5, lq_3_6, lq_4_0, lq_4_1, lq_4_2, lq_4_3, lq_4_5, lq_4_6, lq_5_0, lq_5_1, lq_5_2, lq_5_3, lq_5_4, lq_5_6, lq_6_0, lq_6_1, lq_6_2, lq_6_3, lq_6_4, lq_6_5, ll_0_0, ll_0_1, ll_0_2, ll_0_3, ll_0_4, ll_0_5, ll_0_6, ll_1_0, ll_1_1, ll_1_2, ll_1_3, ll_1_4, ll_1_5, ll_1_6, ll_2_0, ll_2_1, ll_2_2, ll_2_3, ll_2_4, ll_2_5, ll_2_6, ll_3_0, ll_3_1, ll_3_2, ll_3_3, ll_3_4, ll_3_5, ll_3_6, ll_4_0, ll_4_1, ll_4_2, ll_4_3, ll_4_4, ll_4_5, ll_4_6, ll_5_0, ll_5_1, ll_5_2, ll_5_3, ll_5_4, ll_5_5, ll_5_6, ll_6_0, ll_6_1, ll_6_2, ll_6_3, ll_6_4, ll_6_5, ll_6_6, le_0_0, le_0_1, le_0_2, le_0_3, le_0_4, le_0_5, le_0_6, le_1_0, le_1_1, le_1_2, le_1_3, le_1_4, le_1_5, le_1_6, le_2_0, le_2_1, le_2_2, le_2_3, le_2_4, le_2_5, le_2_6, le_3_0, le_3_1, le_3_2, le_3_3, le_3_4, le_3_5, le_3_6, le_4_0, le_4_1, le_4_2, le_4_3, le_4_4, le_4_5, le_4_6, le_5_0, le_5_1, le_5_2, le_5_3, le_5_4, le_5_5, le_5_6, le_6_0, le_6_1, le_6_2, le_6_3, le_6_4, le_6_5, le_6_6, gf38_3, n_mul, is41 (i := 3 * gu) (by omega), cg, e2, e3, c_ones (v := 0) (by decide), e0]
                rw [hV']
                exact hK _ _ lj5
              | some y =>
                obtain ⟨i1, i2, i3, i4, i5⟩ := hi1
                have i3' : a4 < 16 := i3
                have i4' : z_an a3 (w - 2) = 0 → a4 = 2 ^ z_an y (w - 2) := i4
                have i5' : z_an a3 (w - 2) ≠ 0 → 2 ≤ z_pop a4 := i5
                have hp8 : z_pop a4 ≤ 8 := by unfold z_pop; omega
                have e5 := n_eq (i := z_pop a4) (j := 1) (by omega) (by decide)
                have eo : z_ol (some y) = nI y := rfl
                have hV' : V = if z_an a3 (w - 2) = 0 then nI (z_an y (w - 2)) else (-1 : Int32) := hV
                by_cases q3 : z_an a3 (w - 2) = 0
                · rw [if_pos q3] at hV'
                  have e6 : z_pop a4 = 1 := by rw [i4' q3]; exact (z_p4 _ (z_an_lt _ _)).2
                  simp only [u182_122, u182_123, u182_126, u182_127, u182_128, u182_129, u182_131, u182_132, u182_133, u182_134, u182_137, u182_138, u182_141, u182_143, u182_146, u182_148, u182_149, u182_151, u182_154, u182_155, u182_158, u182_160, u182_161, u182_162, u182_163, u182_166, u182_169, u182_170, q_push_s, q_push_n, q_sm_0, q_sm_i, q_sm_r, q_sm_n, q_sm_l, q_c1_0, q_c1_i, q_c1_r, q_c1_n, Nat.zero_add, Nat.reduceAdd, Nat.reduceMul, Nat.reduceSub, Nat.reduceLeDiff, Nat.reduceLT, Nat.reduceEqDiff, true_and, and_true, not_false_eq_true, if_true, if_false, ite_true, ite_false, or_true, true_or, or_false, false_or, not_true_eq_false, gf38_3, n_mul, is41 (i := 3 * gu) (by omega), cg, e2, e3, c_ones (v := a4) (by omega), e5, e6, eo, n_sub (a := w) (b := 2) (by omega), c_answer i1 (show w - 2 < 4 by omega)]
                  rw [hV']
                  exact hK _ _ lj5
                · rw [if_neg q3] at hV'
                  have e6 : ¬ z_pop a4 = 1 := by have := i5' q3; omega
                  simp only [u182_122, u182_123, u182_126, u182_127, u182_128, u182_129, u182_131, u182_132, u182_133, u182_134, u182_137, u182_138, u182_141, u182_143, u182_146, u182_148, u182_149, u182_151, u182_154, u182_155, u182_158, u182_160, u182_161, u182_162, u182_163, u182_166, u182_169, u182_170, q_push_s, q_push_n, q_sm_0, q_sm_i, q_sm_r, q_sm_n, q_sm_l, q_c1_0, q_c1_i, q_c1_r, q_c1_n, Nat.zero_add, Nat.reduceAdd, Nat.reduceMul, Nat.reduceSub, Nat.reduceLeDiff, Nat.reduceLT, Nat.reduceEqDiff, true_and, and_true, not_false_eq_true, if_true, if_false, ite_true, ite_false, or_true, true_or, or_false, false_or, not_true_eq_false, gf38_3, n_mul, is41 (i := 3 * gu) (by omega), cg, e2, e3, c_ones (v := a4) (by omega), e5, e6]
                  rw [hV']
                  exact hK _ _ lj5
        generalize hA : z_mn (z_ulk tx s h k 2 gu) (w - 2) 256 0 (0, none, 0, 0) = A at fin hi1 ⊢
        obtain ⟨a1, a2, a3, a4⟩ := A
        unfold z_mr at fin
        by_cases q0 : w = 0
        · subst q0
          simp only [u85_129, u85_130, u85_133, u85_136, u85_137, u85_139, u85_142, u85_143, u85_146, u85_148, u85_149, u85_150, u85_151, u85_154, u85_156, u85_157, u85_160, u85_162, u85_163, u85_165, u85_166, u85_167, u85_168, u85_171, u85_174, u85_176, u85_177, u85_178, u85_179, u85_182, u85_185, u85_186, q_push_s, q_push_n, q_sm_0, q_sm_i, q_sm_r, q_sm_n, q_sm_l, q_c1_0, q_c1_i, q_c1_r, q_c1_n, Nat.zero_add, Nat.reduceAdd, Nat.reduceMul, Nat.reduceSub, Nat.reduceLeDiff, Nat.reduceLT, Nat.reduceEqDiff, true_and, and_true, not_false_eq_true, if_true, if_false, ite_true, ite_false, or_true, true_or, or_false, false_or, not_true_eq_false, eq_self, lq_0_1, lq_0_2, lq_0_3, lq_0_4, lq_0_5, lq_0_6, lq_1_0, lq_1_2, lq_1_3, lq_1_4, lq_1_5, lq_1_6, lq_2_0, lq_2_1, lq_2_3, lq_2_4, lq_2_5, lq_2_6, lq_3_0, lq_3_1, lq_3_2, lq_3_4, lq_3_5, lq_3_6, lq_4_0, lq_4_1, lq_4_2, lq_4_3, lq_4_5, lq_4_6, lq_5_0, lq_5_1, lq_5_2, lq_5_3, lq_5_4, lq_5_6, lq_6_0, lq_6_1, lq_6_2, lq_6_3, lq_6_4, lq_6_5, ll_0_0, ll_0_1, ll_0_2, ll_0_3, ll_0_4, ll_0_5, ll_0_6, ll_1_0, ll_1_1, ll_1_2, ll_1_3, ll_1_4, ll_1_5, ll_1_6, ll_2_0, ll_2_1, ll_2_2, ll_2_3, ll_2_4, ll_2_5, ll_2_6, ll_3_0, ll_3_1, ll_3_2, ll_3_3, ll_3_4, ll_3_5, ll_3_6, ll_4_0, ll_4_1, ll_4_2, ll_4_3, ll_4_4, ll_4_5, ll_4_6, ll_5_0, ll_5_1, ll_5_2, ll_5_3, ll_5_4, ll_5_5, ll_5_6, ll_6_0, ll_6_1, ll_6_2, ll_6_3, ll_6_4, ll_6_5, ll_6_6, le_0_0, le_0_1, le_0_2, le_0_3, le_0_4, le_0_5, le_0_6, le_1_0, le_1_1, le_1_2, le_1_3, le_1_4, le_1_5, le_1_6, le_2_0, le_2_1, le_2_2, le_2_3, le_2_4, le_2_5, le_2_6, le_3_0, le_3_1, le_3_2, le_3_3, le_3_4, le_3_5, le_3_6, le_4_0, le_4_1, le_4_2, le_4_3, le_4_4, le_4_5, le_4_6, le_5_0, le_5_1, le_5_2, le_5_3, le_5_4, le_5_5, le_5_6, le_6_0, le_6_1, le_6_2, le_6_3, le_6_4, le_6_5, le_6_6, gf0_2, gf3_5, c_put (j := gu) sh6 (by decide) (by decide) g6, Nat.zero_le, Nat.reduceLeDiff]
          exact fin _ (by rw [if_pos rfl])
        · by_cases q1 : w = 1
          · subst q1
            simp only [u85_129, u85_130, u85_133, u85_136, u85_137, u85_139, u85_142, u85_143, u85_146, u85_148, u85_149, u85_150, u85_151, u85_154, u85_156, u85_157, u85_160, u85_162, u85_163, u85_165, u85_166, u85_167, u85_168, u85_171, u85_174, u85_176, u85_177, u85_178, u85_179, u85_182, u85_185, u85_186, q_push_s, q_push_n, q_sm_0, q_sm_i, q_sm_r, q_sm_n, q_sm_l, q_c1_0, q_c1_i, q_c1_r, q_c1_n, Nat.zero_add, Nat.reduceAdd, Nat.reduceMul, Nat.reduceSub, Nat.reduceLeDiff, Nat.reduceLT, Nat.reduceEqDiff, true_and, and_true, not_false_eq_true, if_true, if_false, ite_true, ite_false, or_true, true_or, or_false, false_or, not_true_eq_false, eq_self, lq_0_1, lq_0_2, lq_0_3, lq_0_4, lq_0_5, lq_0_6, lq_1_0, lq_1_2, lq_1_3, lq_1_4, lq_1_5, lq_1_6, lq_2_0, lq_2_1, lq_2_3, lq_2_4, lq_2_5, lq_2_6, lq_3_0, lq_3_1, lq_3_2, lq_3_4, lq_3_5, lq_3_6, lq_4_0, lq_4_1, lq_4_2, lq_4_3, lq_4_5, lq_4_6, lq_5_0, lq_5_1, lq_5_2, lq_5_3, lq_5_4, lq_5_6, lq_6_0, lq_6_1, lq_6_2, lq_6_3, lq_6_4, lq_6_5, ll_0_0, ll_0_1, ll_0_2, ll_0_3, ll_0_4, ll_0_5, ll_0_6, ll_1_0, ll_1_1, ll_1_2, ll_1_3, ll_1_4, ll_1_5, ll_1_6, ll_2_0, ll_2_1, ll_2_2, ll_2_3, ll_2_4, ll_2_5, ll_2_6, ll_3_0, ll_3_1, ll_3_2, ll_3_3, ll_3_4, ll_3_5, ll_3_6, ll_4_0, ll_4_1, ll_4_2, ll_4_3, ll_4_4, ll_4_5, ll_4_6, ll_5_0, ll_5_1, ll_5_2, ll_5_3, ll_5_4, ll_5_5, ll_5_6, ll_6_0, ll_6_1, ll_6_2, ll_6_3, ll_6_4, ll_6_5, ll_6_6, le_0_0, le_0_1, le_0_2, le_0_3, le_0_4, le_0_5, le_0_6, le_1_0, le_1_1, le_1_2, le_1_3, le_1_4, le_1_5, le_1_6, le_2_0, le_2_1, le_2_2, le_2_3, le_2_4, le_2_5, le_2_6, le_3_0, le_3_1, le_3_2, le_3_3, le_3_4, le_3_5, le_3_6, le_4_0, le_4_1, le_4_2, le_4_3, le_4_4, le_4_5, le_4_6, le_5_0, le_5_1, le_5_2, le_5_3, le_5_4, le_5_5, le_5_6, le_6_0, le_6_1, le_6_2, le_6_3, le_6_4, le_6_5, le_6_6, gf0_2, gf3_5, c_put (j := gu) sh6 (by decide) (by decide) g6, Nat.zero_le, Nat.reduceLeDiff]
            exact fin _ (by rw [if_neg (by decide), if_pos rfl])
          · have e0 := n_eq (i := w) (j := 0) (by omega) (by decide)
            have e1 := n_eq (i := w) (j := 1) (by omega) (by decide)
            cases a2 with
            | none =>
              have eo : z_ol (none : Option Nat) = (-1 : Int32) := rfl
              simp only [u85_129, u85_130, u85_133, u85_136, u85_137, u85_139, u85_142, u85_143, u85_146, u85_148, u85_149, u85_150, u85_151, u85_154, u85_156, u85_157, u85_160, u85_162, u85_163, u85_165, u85_166, u85_167, u85_168, u85_171, u85_174, u85_176, u85_177, u85_178, u85_179, u85_182, u85_185, u85_186, q_push_s, q_push_n, q_sm_0, q_sm_i, q_sm_r, q_sm_n, q_sm_l, q_c1_0, q_c1_i, q_c1_r, q_c1_n, Nat.zero_add, Nat.reduceAdd, Nat.reduceMul, Nat.reduceSub, Nat.reduceLeDiff, Nat.reduceLT, Nat.reduceEqDiff, true_and, and_true, not_false_eq_true, if_true, if_false, ite_true, ite_false, or_true, true_or, or_false, false_or, not_true_eq_false, gf0_2, gf3_5, c_put (j := gu) sh6 (by decide) (by decide) g6, Nat.zero_le, Nat.reduceLeDiff, e0, e1, q0, q1, eo]
              exact fin _ (by rw [if_neg q0, if_neg q1])
            | some y =>
              obtain ⟨i1, i2, i3, i4, i5⟩ := hi1
              have i1' : y < 256 := i1
              have i2' : a3 < 256 := i2
              have ha3 := z_an_lt a3 (w - 2)
              have eo : z_ol (some y) = nI y := rfl
              have en := (i_nm (j := y) (by omega)).2.1
              have ez := n_eq (i := z_an a3 (w - 2)) (j := 0) (by omega) (by decide)
              simp only [u85_129, u85_130, u85_133, u85_136, u85_137, u85_139, u85_142, u85_143, u85_146, u85_148, u85_149, u85_150, u85_151, u85_154, u85_156, u85_157, u85_160, u85_162, u85_163, u85_165, u85_166, u85_167, u85_168, u85_171, u85_174, u85_176, u85_177, u85_178, u85_179, u85_182, u85_185, u85_186, q_push_s, q_push_n, q_sm_0, q_sm_i, q_sm_r, q_sm_n, q_sm_l, q_c1_0, q_c1_i, q_c1_r, q_c1_n, Nat.zero_add, Nat.reduceAdd, Nat.reduceMul, Nat.reduceSub, Nat.reduceLeDiff, Nat.reduceLT, Nat.reduceEqDiff, true_and, and_true, not_false_eq_true, if_true, if_false, ite_true, ite_false, or_true, true_or, or_false, false_or, not_true_eq_false, gf0_2, gf3_5, c_put (j := gu) sh6 (by decide) (by decide) g6, Nat.zero_le, Nat.reduceLeDiff, e0, e1, q0, q1, eo, en, n_sub (a := w) (b := 2) (by omega), c_answerOf i2' (show w - 2 < 4 by omega), c_answerOf i1' (show w - 2 < 4 by omega), ez]
              by_cases q3 : z_an a3 (w - 2) = 0
              · rw [if_pos q3]
                exact fin _ (by rw [if_neg q0, if_neg q1]; exact (if_pos q3).symm)
              · rw [if_neg q3]
                exact fin _ (by rw [if_neg q0, if_neg q1]; exact (if_neg q3).symm)
      · rcases z_is_f (n := 5) (by decide) hc with q | ⟨q1, q2⟩
        · simp only [u85_0, u85_1, u85_2, u85_5, u85_7, u85_9, u85_12, u85_14, u85_15, u85_16, u85_19, u85_20, u85_23, u85_26, u85_28, u85_29, u85_30, u85_33, u85_34, u85_35, u85_38, u85_40, e85, u182_0, u182_1, u182_2, u182_3, u182_6, u182_8, u182_10, u182_13, u182_15, u182_16, u182_17, u182_18, u182_19, u182_22, u182_25, u182_27, e182, q_push_s, q_push_n, q_sm_0, q_sm_i, q_sm_r, q_sm_n, q_sm_l, q_c1_0, q_c1_i, q_c1_r, q_c1_n, Nat.zero_add, Nat.reduceAdd, Nat.reduceMul, Nat.reduceSub, Nat.reduceLeDiff, Nat.reduceLT, Nat.reduceEqDiff, true_and, and_true, not_false_eq_true, if_true, if_false, ite_true, ite_false, or_true, true_or, or_false, false_or, not_true_eq_false, gf0_2, io0, io3, io38, lc.refusal, lr.toldWrong, hr, lc.has, hb, z_pick_t, z_b_z, q, c_in, false_and, Nat.zero_le, Nat.reduceLeDiff]
          exact hK _ _ l
        · simp only [u85_0, u85_1, u85_2, u85_5, u85_7, u85_9, u85_12, u85_14, u85_15, u85_16, u85_19, u85_20, u85_23, u85_26, u85_28, u85_29, u85_30, u85_33, u85_34, u85_35, u85_38, u85_40, e85, u182_0, u182_1, u182_2, u182_3, u182_6, u182_8, u182_10, u182_13, u182_15, u182_16, u182_17, u182_18, u182_19, u182_22, u182_25, u182_27, e182, q_push_s, q_push_n, q_sm_0, q_sm_i, q_sm_r, q_sm_n, q_sm_l, q_c1_0, q_c1_i, q_c1_r, q_c1_n, Nat.zero_add, Nat.reduceAdd, Nat.reduceMul, Nat.reduceSub, Nat.reduceLeDiff, Nat.reduceLT, Nat.reduceEqDiff, true_and, and_true, not_false_eq_true, if_true, if_false, ite_true, ite_false, or_true, true_or, or_false, false_or, not_true_eq_false, gf0_2, io0, io3, io38, lc.refusal, lr.toldWrong, hr, lc.has, hb, z_pick_t, z_b_z, q1, q2, c_in, and_false, Nat.zero_le, Nat.reduceLeDiff]
          exact hK _ _ l
    · have e5 : ((-5 : Int32) = nI 0) = False := eq_false (by decide)
      simp only [u85_0, u85_1, u85_2, u85_5, u85_7, u85_9, u85_12, u85_14, u85_15, u85_16, u85_19, u85_20, u85_23, u85_26, u85_28, e85, u182_0, u182_1, u182_2, u182_3, u182_6, u182_8, u182_10, u182_13, u182_15, e182, q_push_s, q_push_n, q_sm_0, q_sm_i, q_sm_r, q_sm_n, q_sm_l, q_c1_0, q_c1_i, q_c1_r, q_c1_n, Nat.zero_add, Nat.reduceAdd, Nat.reduceMul, Nat.reduceSub, Nat.reduceLeDiff, Nat.reduceLT, Nat.reduceEqDiff, true_and, and_true, not_false_eq_true, if_true, if_false, ite_true, ite_false, or_true, true_or, or_false, false_or, not_true_eq_false, gf0_2, io0, io3, io38, lc.refusal, lr.toldWrong, hr, z_pick_f, e5, lc.has, hb, z_b_z, Nat.zero_le, Nat.reduceLeDiff]
      exact hK _ _ l
  · simp only [u85_0, u85_1, u85_2, u85_5, u85_7, u85_9, u85_12, u85_14, e85, u182_0, u182_1, u182_2, u182_3, u182_6, u182_8, u182_10, u182_13, u182_15, e182, q_push_s, q_push_n, q_sm_0, q_sm_i, q_sm_r, q_sm_n, q_sm_l, q_c1_0, q_c1_i, q_c1_r, q_c1_n, Nat.zero_add, Nat.reduceAdd, Nat.reduceMul, Nat.reduceSub, Nat.reduceLeDiff, Nat.reduceLT, Nat.reduceEqDiff, true_and, and_true, not_false_eq_true, if_true, if_false, ite_true, ite_false, or_true, true_or, or_false, false_or, not_true_eq_false, io0, io38, lc.refusal, lr.toldWrong, hr, Nat.zero_le, Nat.reduceLeDiff]
    exact hK _ _ l
end
