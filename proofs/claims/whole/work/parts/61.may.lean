/-! ===== may: who one can be ===== -/
def z_lkb (e : Nat → Bool) : Nat → Nat
  | 0 => 0
  | k + 1 => if e k then z_lkb e k ||| 2 ^ k else z_lkb e k
theorem z_lkb4 (e : Nat → Bool) : z_lkb e 4 = z_lkb (fun k => if k = 0 then e 0 else if k = 1 then e 1 else if k = 2 then e 2 else e 3) 4 := rfl
theorem z_lkb_4 : ∀ a b c d : Bool, ∀ mt, mt < 16 → z_lkb (fun k => if k = 0 then a else if k = 1 then b else if k = 2 then c else d) 4 < 16 ∧ (z_lkb (fun k => if k = 0 then a else if k = 1 then b else if k = 2 then c else d) 4 &&& mt = mt ↔ (mt / 2 ^ 0 % 2 = 0 ∨ a = true) ∧ (mt / 2 ^ 1 % 2 = 0 ∨ b = true) ∧ (mt / 2 ^ 2 % 2 = 0 ∨ c = true) ∧ (mt / 2 ^ 3 % 2 = 0 ∨ d = true)) := by
  intro a b c d
  cases a <;> cases b <;> cases c <;> cases d <;> decide +kernel
theorem z_all4 (P : Nat → Prop) : (∀ m, m < 4 → P m) ↔ P 0 ∧ P 1 ∧ P 2 ∧ P 3 := by
  constructor
  · exact fun h => ⟨h 0 (by decide), h 1 (by decide), h 2 (by decide), h 3 (by decide)⟩
  · rintro ⟨a, b, c, d⟩ m hm
    have h : m = 0 ∨ m = 1 ∨ m = 2 ∨ m = 3 := by omega
    rcases h with rfl | rfl | rfl | rfl <;> assumption
theorem z_lkb_iff (e : Nat → Bool) {mt : Nat} (hm : mt < 16) : z_lkb e 4 < 16 ∧ (z_lkb e 4 &&& mt = mt ↔ ∀ m, m < 4 → mt / 2 ^ m % 2 = 0 ∨ e m = true) := by
  rw [z_lkb4, z_all4 (fun m => mt / 2 ^ m % 2 = 0 ∨ e m = true)]
  exact z_lkb_4 _ _ _ _ mt hm
theorem z_lkb_lt (e : Nat → Bool) : ∀ k, z_lkb e k < 2 ^ k
  | 0 => by show 0 < 2 ^ 0; decide
  | k + 1 => by
    have h := z_lkb_lt e k
    have h2 : 2 ^ (k + 1) = 2 * 2 ^ k := by rw [Nat.pow_succ]; omega
    unfold z_lkb
    split
    · exact Nat.or_lt_two_pow (by omega) (by omega)
    · omega
/-- on m one would do as another one what one does -/
def z_sm (tx : Nat → Nat → List Nat) (s : ZS) (g o m : Nat) : Bool := decide (z_do tx s g o m = z_do tx s g (s.2.1 3 g) m)
def z_lk (tx : Nat → Nat → List Nat) (s : ZS) (g o : Nat) : Nat → Nat := z_lkb (z_sm tx s g o)
def z_mp (tx : Nat → Nat → List Nat) (s : ZS) (g mt o : Nat) : Bool := decide ((mt / 2 ^ 0 % 2 = 0 ∨ z_sm tx s g o 0 = true) ∧ (mt / 2 ^ 1 % 2 = 0 ∨ z_sm tx s g o 1 = true) ∧ (mt / 2 ^ 2 % 2 = 0 ∨ z_sm tx s g o 2 = true) ∧ (mt / 2 ^ 3 % 2 = 0 ∨ z_sm tx s g o 3 = true))
/-- bits of those of the first ones of which it is so -/
def z_bs (p : Nat → Bool) : Nat → Nat := z_lkb p
theorem z_bs_lt (p : Nat → Bool) (k : Nat) : z_bs p k < 2 ^ k := z_lkb_lt p k
def z_may (tx : Nat → Nat → List Nat) (s : ZS) (g mt : Nat) : Nat := z_bs (z_mp tx s g mt) (s.1 0)
theorem z_mpT {tx : Nat → Nat → List Nat} {s : ZS} {g mt o : Nat} : z_mp tx s g mt o = true ↔ ∀ m, m < 4 → mt / 2 ^ m % 2 = 0 ∨ z_sm tx s g o m = true := by
  rw [z_all4 (fun m => mt / 2 ^ m % 2 = 0 ∨ z_sm tx s g o m = true)]
  exact decide_eq_true_iff
theorem z_smT {tx : Nat → Nat → List Nat} {s : ZS} {g o m : Nat} : z_sm tx s g o m = true ↔ z_do tx s g o m = z_do tx s g (s.2.1 3 g) m := decide_eq_true_iff
section
variable {T : List Nat} {L : Nat} {s : ZS} {tx : Nat → Nat → List Nat} {n : Nat} {h : ZH} {m : q_M} {K : Option Value → q_G → q_M → Prop}
/-- what the draws' comparing may change -/
def FT (m m' : q_M) : Prop := ∀ k, ¬ (13 ≤ k ∧ k < 16) → m' k = m k
theorem FT.refl (m : q_M) : FT m m := fun _ _ => rfl
theorem FT.trans {a b c : q_M} (h : FT a b) (h' : FT b c) : FT a c := fun k hk => (h' k hk).trans (h k hk)
theorem FC.ft {a b : q_M} (h : FC a b) : FT a b := fun k hk => h k (by omega)
theorem FT.up (i : Nat) (v : Int32) (m : q_M) : FT m (q_up m 15 i v) := fun k hk => q_up_f _ _ _ (by omega)
theorem CJ.ft {m' : q_M} (l : CJ T L s tx n h m) (f : FT m m') : CJ T L s tx n h m' := by
  obtain ⟨a, b, c, e, g, i, j⟩ := l
  exact ⟨a, b, c.fr (fun k h1 h2 => f k (by omega)), e.fr a.2.2.2 (fun k hk => f k (by omega)), g.fr (f 901 (by decide)), i.fr (fun k h1 h2 => f k (by omega)), by rw [f 2 (by decide)]; exact j⟩
theorem l_cmpi {gu j : Nat} (hg : gu < s.1 0) (hj : j < 4) (d : Nat) : ∀ c i m x5, q_c1 x5 = true → i + c = s.1 0 → CJ T L s tx n h m → (∀ o, o < s.1 0 → i ≤ o → 0 < j → m 15 (gu * 6 + o) = nI (z_lk tx s gu o j)) → (∀ m' x5, q_c1 x5 = true → FT m m' → CJ T L s tx n h m' → (∀ o, o < s.1 0 → i ≤ o → m' 15 (gu * 6 + o) = nI (z_lk tx s gu o (j + 1))) → (∀ x, (∀ o, o < s.1 0 → i ≤ o → x ≠ gu * 6 + o) → m' 15 x = m 15 x) → q_R 11 110 (d + 5) [some (.ref 1), some (.int (nI gu)), some (.int (nI j)), some (.int (nI (z_do tx s gu (s.2.1 3 gu) j))), some (.int (nI (s.1 0))), x5] [] (GG T L) m' K) →
    q_R 11 31 (d + 5) [some (.ref 1), some (.int (nI gu)), some (.int (nI j)), some (.int (nI (z_do tx s gu (s.2.1 3 gu) j))), some (.int (nI i)), x5] [] (GG T L) m K
  | 0, i, m, x5, h5, hi, l, hp, hK => by
    have h6 := l.bz.1
    have e : i = s.1 0 := by omega
    have e2 : ¬ i < s.1 0 := by omega
    simp only [u11_31, u11_33, u11_34, u11_37, u11_40, q_push_s, q_push_n, q_sm_0, q_sm_i, q_sm_r, q_sm_n, q_sm_l, q_c1_0, q_c1_i, q_c1_r, q_c1_n, Nat.zero_add, Nat.reduceAdd, Nat.reduceMul, Nat.reduceSub, Nat.reduceLeDiff, Nat.reduceLT, Nat.reduceEqDiff, true_and, and_true, not_false_eq_true, if_true, if_false, ite_true, ite_false, or_true, true_or, or_false, false_or, not_true_eq_false, gf1_1, gf3_0, l.cl.n, n_lt (i := i) (j := s.1 0) (by omega) (by omega), e2]
    have := hK m x5 h5 (FT.refl m) l (fun o h1 h2 => absurd h1 (by omega)) (fun x _ => rfl)
    rw [← e] at this
    exact this
  | c + 1, i, m, x5, h5, hi, l, hp, hK => by
    have h6 := l.bz.1
    have hlt : i < s.1 0 := by omega
    have hd1 := z_do_lt tx s gu i j
    have hd2 := z_do_lt tx s gu (s.2.1 3 gu) j
    have hpx : gu * 6 + i < 36 := by omega
    have hbnd : z_lk tx s gu i j < 2 ^ j := z_lkb_lt _ _
    have e40 := n_eq (i := j) (j := 0) (by omega) (by decide)
    have hfin : q_R 11 64 (d + 5) [some (.ref 1), some (.int (nI gu)), some (.int (nI j)), some (.int (nI (z_do tx s gu (s.2.1 3 gu) j))), some (.int (nI i)), x5] [.int (nI (z_lk tx s gu i j))] (GG T L) m K := by
      simp only [u11_64, u11_66, u11_67, u11_70, u11_71, u11_73, u11_74, q_push_s, q_push_n, q_sm_0, q_sm_i, q_sm_r, q_sm_n, q_sm_l, q_c1_0, q_c1_i, q_c1_r, q_c1_n, Nat.zero_add, Nat.reduceAdd, Nat.reduceMul, Nat.reduceSub, Nat.reduceLeDiff, Nat.reduceLT, Nat.reduceEqDiff, true_and, and_true, not_false_eq_true, if_true, if_false, ite_true, ite_false, or_true, true_or, or_false, false_or, not_true_eq_false, gf1_0, io2, Nat.zero_le, Nat.reduceLeDiff]
      refine l.doing (d := d) hg hlt hj (fun m1 f1 l1 => ?_)
      have e15 : m1 15 = m 15 := f1 15 (by decide)
      have fin2 : ∀ v, v = z_lk tx s gu i (j + 1) → q_R 11 89 (d + 5) [some (.ref 1), some (.int (nI gu)), some (.int (nI j)), some (.int (nI (z_do tx s gu (s.2.1 3 gu) j))), some (.int (nI i)), some (.int (nI v))] [] (GG T L) m1 K := by
        intro v hv
        simp only [u11_89, u11_90, u11_93, u11_94, u11_96, u11_99, u11_101, u11_104, u11_107, q_push_s, q_push_n, q_sm_0, q_sm_i, q_sm_r, q_sm_n, q_sm_l, q_c1_0, q_c1_i, q_c1_r, q_c1_n, Nat.zero_add, Nat.reduceAdd, Nat.reduceMul, Nat.reduceSub, Nat.reduceLeDiff, Nat.reduceLT, Nat.reduceEqDiff, true_and, and_true, not_false_eq_true, if_true, if_false, ite_true, ite_false, or_true, true_or, or_false, false_or, not_true_eq_false, gf1_2, c_place, c_put (j := gu * 6 + i) sh15 (by decide) (by decide) hpx, n_add, Nat.zero_le, Nat.reduceLeDiff]
        have fa := f1.ft.trans (FT.up (gu * 6 + i) (nI v) m1)
        refine l_cmpi hg hj d c (i + 1) _ _ (of_eq_true (q_c1_i _)) (by omega) (l.ft fa) (fun o h1 h2 h3 => ?_) (fun m' y5 g5 f' l' k1 k2 => hK m' y5 g5 (fa.trans f') l' (fun o h1 h2 => ?_) (fun x hx => ?_))
        · rw [q_up_i _ _ (by omega), e15]; exact hp o h1 (by omega) h3
        · by_cases q : o = i
          · rw [q, k2 _ (fun o' h3 h4 => by omega), q_up_eq, hv]
          · exact k1 o h1 (by omega)
        · rw [k2 x (fun o h3 h4 => hx o h3 (by omega)), q_up_i _ _ (hx i hlt (Nat.le_refl i)), e15]
      simp only [u11_77, u11_78, u11_81, u11_83, u11_84, u11_85, u11_86, u11_87, q_push_s, q_push_n, q_sm_0, q_sm_i, q_sm_r, q_sm_n, q_sm_l, q_c1_0, q_c1_i, q_c1_r, q_c1_n, Nat.zero_add, Nat.reduceAdd, Nat.reduceMul, Nat.reduceSub, Nat.reduceLeDiff, Nat.reduceLT, Nat.reduceEqDiff, true_and, and_true, not_false_eq_true, if_true, if_false, ite_true, ite_false, or_true, true_or, or_false, false_or, not_true_eq_false, n_eq (i := z_do tx s gu i j) (j := z_do tx s gu (s.2.1 3 gu) j) (by omega) (by omega), n_s1 j (by omega), n_or]
      have es : z_lk tx s gu i (j + 1) = if z_sm tx s gu i j then z_lk tx s gu i j ||| 2 ^ j else z_lk tx s gu i j := rfl
      by_cases q : z_do tx s gu i j = z_do tx s gu (s.2.1 3 gu) j
      · rw [if_pos q]
        rw [if_pos (z_smT.mpr q)] at es
        exact fin2 _ es.symm
      · rw [if_neg q]
        rw [if_neg (fun e => q (z_smT.mp e))] at es
        exact fin2 _ es.symm
    rw [u11_31]
    by_cases q : j = 0
    · have e1 : z_lk tx s gu i 0 = 0 := rfl
      rw [q, e1, ← q] at hfin
      simp only [u11_33, u11_34, u11_37, u11_40, u11_43, u11_44, u11_47, u11_48, u11_51, u11_52, u11_55, u11_56, u11_58, u11_61, q_push_s, q_push_n, q_sm_0, q_sm_i, q_sm_r, q_sm_n, q_sm_l, q_c1_0, q_c1_i, q_c1_r, q_c1_n, Nat.zero_add, Nat.reduceAdd, Nat.reduceMul, Nat.reduceSub, Nat.reduceLeDiff, Nat.reduceLT, Nat.reduceEqDiff, true_and, and_true, not_false_eq_true, if_true, if_false, ite_true, ite_false, or_true, true_or, or_false, false_or, not_true_eq_false, gf1_1, gf3_0, l.cl.n, n_lt (i := i) (j := s.1 0) (by omega) (by omega), hlt, e40, q]
      simp only [q] at hfin
      exact hfin
    · simp only [u11_33, u11_34, u11_37, u11_40, u11_43, u11_44, u11_47, u11_48, u11_51, u11_52, u11_55, u11_56, u11_58, u11_61, q_push_s, q_push_n, q_sm_0, q_sm_i, q_sm_r, q_sm_n, q_sm_l, q_c1_0, q_c1_i, q_c1_r, q_c1_n, Nat.zero_add, Nat.reduceAdd, Nat.reduceMul, Nat.reduceSub, Nat.reduceLeDiff, Nat.reduceLT, Nat.reduceEqDiff, true_and, and_true, not_false_eq_true, if_true, if_false, ite_true, ite_false, or_true, true_or, or_false, false_or, not_true_eq_false, gf1_1, gf1_2, gf3_0, l.cl.n, n_lt (i := i) (j := s.1 0) (by omega) (by omega), hlt, e40, q, c_place, c_at (j := gu * 6 + i) sh15 (by decide) (by decide) hpx, hp i hlt (Nat.le_refl i) (by omega), Nat.zero_le, Nat.reduceLeDiff]
      exact hfin
theorem l_cmp {gu : Nat} (hg : gu < s.1 0) (d : Nat) : ∀ c j m x3 x4 x5, q_c1 x3 = true → q_c1 x4 = true → q_c1 x5 = true → j + c = 4 → CJ T L s tx n h m → (∀ o, o < s.1 0 → 0 < j → m 15 (gu * 6 + o) = nI (z_lk tx s gu o j)) → (∀ m', FT m m' → CJ T L s tx n h m' → (∀ o, o < s.1 0 → m' 15 (gu * 6 + o) = nI (z_lk tx s gu o 4)) → (∀ x, (∀ o, o < s.1 0 → x ≠ gu * 6 + o) → m' 15 x = m 15 x) → K none (GG T L) m') →
    q_R 11 2 (d + 5) [some (.ref 1), some (.int (nI gu)), some (.int (nI j)), x3, x4, x5] [] (GG T L) m K
  | 0, j, m, x3, x4, x5, h3, h4, h5, hj, l, hp, hK => by
    have e : j = 4 := by omega
    subst e
    simp only [u11_2, u11_3, u11_4, u11_116, q_push_s, q_push_n, q_sm_0, q_sm_i, q_sm_r, q_sm_n, q_sm_l, q_c1_0, q_c1_i, q_c1_r, q_c1_n, Nat.zero_add, Nat.reduceAdd, Nat.reduceMul, Nat.reduceSub, Nat.reduceLeDiff, Nat.reduceLT, Nat.reduceEqDiff, true_and, and_true, not_false_eq_true, if_true, if_false, ite_true, ite_false, or_true, true_or, or_false, false_or, not_true_eq_false, eq_self, lq_0_1, lq_0_2, lq_0_3, lq_0_4, lq_0_5, lq_0_6, lq_1_0, lq_1_2, lq_1_3, lq_1_4, lq_1_5, lq_1_6, lq_2_0, lq_2_1, lq_2_3, lq_2_4, lq_2_5, lq_2_6, lq_3_0, lq_3_1, lq_3_2, lq_3_4, lq_3_5, lq_3_6, lq_4_0, lq_4_1, lq_4_2, lq_4_3, lq_4_5, lq_4_6, lq_5_0, lq_5_1, lq_5_2, lq_5_3, lq_5_4, lq_5_6, lq_6_0, lq_6_1, lq_6_2, lq_6_3, lq_6_4, lq_6_5, ll_0_0, ll_0_1, ll_0_2, ll_0_3, ll_0_4, ll_0_5, ll_0_6, ll_1_0, ll_1_1, ll_1_2, ll_1_3, ll_1_4, ll_1_5, ll_1_6, ll_2_0, ll_2_1, ll_2_2, ll_2_3, ll_2_4, ll_2_5, ll_2_6, ll_3_0, ll_3_1, ll_3_2, ll_3_3, ll_3_4, ll_3_5, ll_3_6, ll_4_0, ll_4_1, ll_4_2, ll_4_3, ll_4_4, ll_4_5, ll_4_6, ll_5_0, ll_5_1, ll_5_2, ll_5_3, ll_5_4, ll_5_5, ll_5_6, ll_6_0, ll_6_1, ll_6_2, ll_6_3, ll_6_4, ll_6_5, ll_6_6, le_0_0, le_0_1, le_0_2, le_0_3, le_0_4, le_0_5, le_0_6, le_1_0, le_1_1, le_1_2, le_1_3, le_1_4, le_1_5, le_1_6, le_2_0, le_2_1, le_2_2, le_2_3, le_2_4, le_2_5, le_2_6, le_3_0, le_3_1, le_3_2, le_3_3, le_3_4, le_3_5, le_3_6, le_4_0, le_4_1, le_4_2, le_4_3, le_4_4, le_4_5, le_4_6, le_5_0, le_5_1, le_5_2, le_5_3, le_5_4, le_5_5, le_5_6, le_6_0, le_6_1, le_6_2, le_6_3, le_6_4, le_6_5, le_6_6]
    exact hK m (FT.refl m) l (fun o ho => hp o ho (by decide)) (fun _ _ => rfl)
  | c + 1, j, m, x3, x4, x5, h3, h4, h5, hj, l, hp, hK => by
    have h6 := l.bz.1
    have hj4 : j < 4 := by omega
    have hpl := (l.bz.2.2.2 gu hg).2.2.2.1
    rw [u11_2]
    simp only [u11_3, u11_4, u11_7, u11_8, u11_11, u11_12, u11_13, u11_16, u11_19, u11_20, u11_23, u11_24, q_push_s, q_push_n, q_sm_0, q_sm_i, q_sm_r, q_sm_n, q_sm_l, q_c1_0, q_c1_i, q_c1_r, q_c1_n, Nat.zero_add, Nat.reduceAdd, Nat.reduceMul, Nat.reduceSub, Nat.reduceLeDiff, Nat.reduceLT, Nat.reduceEqDiff, true_and, and_true, not_false_eq_true, if_true, if_false, ite_true, ite_false, or_true, true_or, or_false, false_or, not_true_eq_false, n_lt (i := j) (j := 4) (by omega) (by decide), hj4, gf1_0, gf1_1, gf3_6, io2, c_at (j := gu) sh7 (by decide) (by decide) (show gu < 6 by omega), l.cl.pl gu hg, Nat.zero_le, Nat.reduceLeDiff]
    refine l.doing (d := d) hg hpl hj4 (fun m1 f1 l1 => ?_)
    have e15 : m1 15 = m 15 := f1 15 (by decide)
    simp only [u11_27, u11_28, u11_29, q_push_s, q_push_n, q_sm_0, q_sm_i, q_sm_r, q_sm_n, q_sm_l, q_c1_0, q_c1_i, q_c1_r, q_c1_n, Nat.zero_add, Nat.reduceAdd, Nat.reduceMul, Nat.reduceSub, Nat.reduceLeDiff, Nat.reduceLT, Nat.reduceEqDiff, true_and, and_true, not_false_eq_true, if_true, if_false, ite_true, ite_false, or_true, true_or, or_false, false_or, not_true_eq_false]
    refine l_cmpi hg hj4 d (s.1 0) 0 m1 _ h5 (by omega) l1 (fun o h1 _ h2 => by rw [e15]; exact hp o h1 h2) (fun m2 y5 g5 f2 l2 k1 k2 => ?_)
    simp only [u11_110, u11_113, q_push_s, q_push_n, q_sm_0, q_sm_i, q_sm_r, q_sm_n, q_sm_l, q_c1_0, q_c1_i, q_c1_r, q_c1_n, Nat.zero_add, Nat.reduceAdd, Nat.reduceMul, Nat.reduceSub, Nat.reduceLeDiff, Nat.reduceLT, Nat.reduceEqDiff, true_and, and_true, not_false_eq_true, if_true, if_false, ite_true, ite_false, or_true, true_or, or_false, false_or, not_true_eq_false, n_add]
    refine l_cmp hg d c (j + 1) m2 _ _ _ (of_eq_true (q_c1_i _)) (of_eq_true (q_c1_i _)) g5 (by omega) l2 (fun o h1 _ => k1 o h1 (Nat.zero_le o)) (fun m' f' l' u1 u2 => hK m' ((f1.ft.trans f2).trans f') l' u1 (fun x hx => ?_))
    rw [u2 x hx, k2 x (fun o h1 _ => hx o h1), e15]
theorem CJ.compare {d gu : Nat} (l : CJ T L s tx n h m) (hg : gu < s.1 0) (hK : ∀ m', FT m m' → CJ T L s tx n h m' → (∀ o, o < s.1 0 → m' 15 (gu * 6 + o) = nI (z_lk tx s gu o 4)) → (∀ x, (∀ o, o < s.1 0 → x ≠ gu * 6 + o) → m' 15 x = m 15 x) → K none (GG T L) m') : q_C 11 (d + 5) [.ref 1, .int (nI gu)] (GG T L) m K := by
  simp only [e11, u11_0, u11_1, q_push_s, q_push_n, q_sm_0, q_sm_i, q_sm_r, q_sm_n, q_sm_l, q_c1_0, q_c1_i, q_c1_r, q_c1_n, Nat.zero_add, Nat.reduceAdd, Nat.reduceMul, Nat.reduceSub, Nat.reduceLeDiff, Nat.reduceLT, Nat.reduceEqDiff, true_and, and_true, not_false_eq_true, if_true, if_false, ite_true, ite_false, or_true, true_or, or_false, false_or, not_true_eq_false]
  exact l_cmp hg d 4 0 m _ _ _ (of_eq_true q_c1_0) (of_eq_true q_c1_0) (of_eq_true q_c1_0) rfl l (fun o _ h => absurd h (by decide)) hK
theorem l_canBe {gu mt : Nat} (hg : gu < s.1 0) (hm : mt < 16) (l : CJ T L s tx n h m) (ht : ∀ o, o < s.1 0 → m 15 (gu * 6 + o) = nI (z_lk tx s gu o 4)) (d : Nat) : ∀ c i, i + c = s.1 0 → (q_R 13 5 (d + 1) [some (.ref 1), some (.int (nI gu)), some (.int (nI mt)), some (.int (nI (z_bs (z_mp tx s gu mt) i))), some (.int (nI i))] [] (GG T L) m K ↔ K (some (.int (nI (z_may tx s gu mt)))) (GG T L) m)
  | 0, i, hi => by
    have h6 := l.bz.1
    have e : i = s.1 0 := by omega
    have e2 : ¬ i < s.1 0 := by omega
    simp only [u13_5, u13_7, u13_8, u13_11, u13_14, u13_49, u13_50, q_push_s, q_push_n, q_sm_0, q_sm_i, q_sm_r, q_sm_n, q_sm_l, q_c1_0, q_c1_i, q_c1_r, q_c1_n, Nat.zero_add, Nat.reduceAdd, Nat.reduceMul, Nat.reduceSub, Nat.reduceLeDiff, Nat.reduceLT, Nat.reduceEqDiff, true_and, and_true, not_false_eq_true, if_true, if_false, ite_true, ite_false, or_true, true_or, or_false, false_or, not_true_eq_false, gf1_1, gf3_0, l.cl.n, n_lt (i := i) (j := s.1 0) (by omega) (by omega), e2]
    rw [e]
    exact Iff.rfl
  | c + 1, i, hi => by
    have h6 := l.bz.1
    have hlt : i < s.1 0 := by omega
    have hpx : gu * 6 + i < 36 := by omega
    obtain ⟨q1, q2⟩ := z_lkb_iff (z_sm tx s gu i) hm
    have hl : z_lk tx s gu i 4 < 16 := q1
    have hand : z_lk tx s gu i 4 &&& mt < 2 ^ 31 := Nat.lt_of_le_of_lt Nat.and_le_right (by omega)
    have es : z_bs (z_mp tx s gu mt) (i + 1) = if z_mp tx s gu mt i then z_bs (z_mp tx s gu mt) i ||| 2 ^ i else z_bs (z_mp tx s gu mt) i := rfl
    have rec2 := l_canBe hg hm l ht d c (i + 1) (by omega)
    rw [es] at rec2
    rw [u13_5]
    simp only [u13_7, u13_8, u13_11, u13_14, u13_17, u13_18, u13_21, u13_22, u13_24, u13_27, u13_30, u13_31, u13_32, u13_33, u13_36, u13_37, u13_38, u13_40, u13_41, u13_42, u13_43, u13_46, q_push_s, q_push_n, q_sm_0, q_sm_i, q_sm_r, q_sm_n, q_sm_l, q_c1_0, q_c1_i, q_c1_r, q_c1_n, Nat.zero_add, Nat.reduceAdd, Nat.reduceMul, Nat.reduceSub, Nat.reduceLeDiff, Nat.reduceLT, Nat.reduceEqDiff, true_and, and_true, not_false_eq_true, if_true, if_false, ite_true, ite_false, or_true, true_or, or_false, false_or, not_true_eq_false, gf1_1, gf1_2, gf3_0, l.cl.n, n_lt (i := i) (j := s.1 0) (by omega) (by omega), hlt, c_place, c_at (j := gu * 6 + i) sh15 (by decide) (by decide) hpx, ht i hlt, n_and, n_eq (i := z_lk tx s gu i 4 &&& mt) (j := mt) hand (by omega), n_s1 i (by omega), n_or, n_add, Nat.zero_le, Nat.reduceLeDiff]
    by_cases q : z_lk tx s gu i 4 &&& mt = mt
    · rw [if_pos q]
      rw [if_pos (z_mpT.mpr (q2.mp q))] at rec2
      exact rec2
    · rw [if_neg q]
      rw [if_neg (fun e => q (q2.mpr (z_mpT.mp e)))] at rec2
      exact rec2
theorem CJ.canBe {d gu mt : Nat} (l : CJ T L s tx n h m) (hg : gu < s.1 0) (hm : mt < 16) (ht : ∀ o, o < s.1 0 → m 15 (gu * 6 + o) = nI (z_lk tx s gu o 4)) : q_C 13 (d + 1) [.ref 1, .int (nI gu), .int (nI mt)] (GG T L) m K ↔ K (some (.int (nI (z_may tx s gu mt)))) (GG T L) m := by
  simp only [e13, u13_0, u13_1, u13_2, u13_3, q_push_s, q_push_n, q_sm_0, q_sm_i, q_sm_r, q_sm_n, q_sm_l, q_c1_0, q_c1_i, q_c1_r, q_c1_n, Nat.zero_add, Nat.reduceAdd, Nat.reduceMul, Nat.reduceSub, Nat.reduceLeDiff, Nat.reduceLT, Nat.reduceEqDiff, true_and, and_true, not_false_eq_true, if_true, if_false, ite_true, ite_false, or_true, true_or, or_false, false_or, not_true_eq_false]
  exact l_canBe hg hm l ht d (s.1 0) 0 (by omega)
/-- the reference's, on one matter after another -/
theorem l_mayi {gu mt o : Nat} (hg : gu < s.1 0) (hm : mt < 16) (ho : o < s.1 0) (x3 : Option Value) (d : Nat) : ∀ c j m (p : Prop), j + c = 4 → RJ s tx n h m → (∀ m' (p' : Prop), (p' ↔ (p ∧ ∀ k, k < 4 → j ≤ k → (mt / 2 ^ k % 2 = 0 ∨ z_sm tx s gu o k = true))) → FQ m m' → RJ s tx n h m' → q_R 159 75 (d + 5) [some (.ref 38), some (.int (nI gu)), some (.int (nI mt)), x3, some (.int (nI o)), some (.int (z_b p')), some (.int (nI 4))] [] (GG T L) m' K) →
    q_R 159 20 (d + 5) [some (.ref 38), some (.int (nI gu)), some (.int (nI mt)), x3, some (.int (nI o)), some (.int (z_b p)), some (.int (nI j))] [] (GG T L) m K
  | 0, j, m, p, hj, l, hK => by
    have e : j = 4 := by omega
    subst e
    simp only [u159_20, u159_22, u159_23, q_push_s, q_push_n, q_sm_0, q_sm_i, q_sm_r, q_sm_n, q_sm_l, q_c1_0, q_c1_i, q_c1_r, q_c1_n, Nat.zero_add, Nat.reduceAdd, Nat.reduceMul, Nat.reduceSub, Nat.reduceLeDiff, Nat.reduceLT, Nat.reduceEqDiff, true_and, and_true, not_false_eq_true, if_true, if_false, ite_true, ite_false, or_true, true_or, or_false, false_or, not_true_eq_false, eq_self, lq_0_1, lq_0_2, lq_0_3, lq_0_4, lq_0_5, lq_0_6, lq_1_0, lq_1_2, lq_1_3, lq_1_4, lq_1_5, lq_1_6, lq_2_0, lq_2_1, lq_2_3, lq_2_4, lq_2_5, lq_2_6, lq_3_0, lq_3_1, lq_3_2, lq_3_4, lq_3_5, lq_3_6, lq_4_0, lq_4_1, lq_4_2, lq_4_3, lq_4_5, lq_4_6, lq_5_0, lq_5_1, lq_5_2, lq_5_3, lq_5_4, lq_5_6, lq_6_0, lq_6_1, lq_6_2, lq_6_3, lq_6_4, lq_6_5, ll_0_0, ll_0_1, ll_0_2, ll_0_3, ll_0_4, ll_0_5, ll_0_6, ll_1_0, ll_1_1, ll_1_2, ll_1_3, ll_1_4, ll_1_5, ll_1_6, ll_2_0, ll_2_1, ll_2_2, ll_2_3, ll_2_4, ll_2_5, ll_2_6, ll_3_0, ll_3_1, ll_3_2, ll_3_3, ll_3_4, ll_3_5, ll_3_6, ll_4_0, ll_4_1, ll_4_2, ll_4_3, ll_4_4, ll_4_5, ll_4_6, ll_5_0, ll_5_1, ll_5_2, ll_5_3, ll_5_4, ll_5_5, ll_5_6, ll_6_0, ll_6_1, ll_6_2, ll_6_3, ll_6_4, ll_6_5, ll_6_6, le_0_0, le_0_1, le_0_2, le_0_3, le_0_4, le_0_5, le_0_6, le_1_0, le_1_1, le_1_2, le_1_3, le_1_4, le_1_5, le_1_6, le_2_0, le_2_1, le_2_2, le_2_3, le_2_4, le_2_5, le_2_6, le_3_0, le_3_1, le_3_2, le_3_3, le_3_4, le_3_5, le_3_6, le_4_0, le_4_1, le_4_2, le_4_3, le_4_4, le_4_5, le_4_6, le_5_0, le_5_1, le_5_2, le_5_3, le_5_4, le_5_5, le_5_6, le_6_0, le_6_1, le_6_2, le_6_3, le_6_4, le_6_5, le_6_6]
    exact hK m p ⟨fun q => ⟨q, fun k h1 h2 => absurd h1 (by omega)⟩, fun q => q.1⟩ (FQ.refl m) l
  | c + 1, j, m, p, hj, l, hK => by
    have h6 := l.bz.1
    have hj4 : j < 4 := by omega
    have hpl := (l.bz.2.2.2 gu hg).2.2.2.1
    have hd1 := z_do_lt tx s gu o j
    have hd2 := z_do_lt tx s gu (s.2.1 3 gu) j
    have hmj : mt / 2 ^ j ≤ mt := Nat.div_le_self _ _
    have n_and1 : nI (mt / 2 ^ j) &&& nI 1 = nI (mt / 2 ^ j % 2) := pk_andN (by omega) 1 (by decide +kernel)
    have e0 := n_eq (i := mt / 2 ^ j % 2) (j := 0) (by omega) (by decide)
    have fin : ∀ m1 (q : Prop), (q ↔ (mt / 2 ^ j % 2 = 0 ∨ z_sm tx s gu o j = true)) → FQ m m1 → RJ s tx n h m1 → q_R 159 66 (d + 5) [some (.ref 38), some (.int (nI gu)), some (.int (nI mt)), x3, some (.int (nI o)), some (.int (z_b p)), some (.int (nI j))] [.int (z_b q), .int (z_b p)] (GG T L) m1 K := by
      intro m1 q hq f1 l1
      simp only [u159_66, u159_67, u159_69, u159_72, q_push_s, q_push_n, q_sm_0, q_sm_i, q_sm_r, q_sm_n, q_sm_l, q_c1_0, q_c1_i, q_c1_r, q_c1_n, Nat.zero_add, Nat.reduceAdd, Nat.reduceMul, Nat.reduceSub, Nat.reduceLeDiff, Nat.reduceLT, Nat.reduceEqDiff, true_and, and_true, not_false_eq_true, if_true, if_false, ite_true, ite_false, or_true, true_or, or_false, false_or, not_true_eq_false, z_b_and, n_add]
      refine l_mayi hg hm ho x3 d c (j + 1) m1 (p ∧ q) (by omega) l1 (fun m' p' hp' f' l' => hK m' p' ⟨fun a => ?_, fun a => ?_⟩ (f1.trans f') l')
      · obtain ⟨⟨a1, a2⟩, a3⟩ := hp'.mp a
        refine ⟨a1, fun k h1 h2 => ?_⟩
        by_cases e : k = j
        · rw [e]; exact hq.mp a2
        · exact a3 k h1 (by omega)
      · exact hp'.mpr ⟨⟨a.1, hq.mpr (a.2 j hj4 (Nat.le_refl j))⟩, fun k h1 h2 => a.2 k h1 (by omega)⟩
    rw [u159_20]
    by_cases q0 : mt / 2 ^ j % 2 = 0
    · simp only [u159_22, u159_23, u159_26, u159_28, u159_29, u159_31, u159_32, u159_33, u159_34, u159_37, u159_38, u159_39, u159_41, u159_43, u159_46, u159_47, u159_48, u159_49, u159_50, u159_53, u159_55, u159_58, u159_61, u159_62, q_push_s, q_push_n, q_sm_0, q_sm_i, q_sm_r, q_sm_n, q_sm_l, q_c1_0, q_c1_i, q_c1_r, q_c1_n, Nat.zero_add, Nat.reduceAdd, Nat.reduceMul, Nat.reduceSub, Nat.reduceLeDiff, Nat.reduceLT, Nat.reduceEqDiff, true_and, and_true, not_false_eq_true, if_true, if_false, ite_true, ite_false, or_true, true_or, or_false, false_or, not_true_eq_false, n_lt (i := j) (j := 4) (by omega) (by decide), hj4, n_shr (a := mt) (k := j) (by omega) (by omega), n_and1, e0, q0]
      have := fin m True ⟨fun _ => Or.inl q0, fun _ => trivial⟩ (FQ.refl m) l
      rw [z_b_t] at this
      exact this
    · simp only [u159_22, u159_23, u159_26, u159_28, u159_29, u159_31, u159_32, u159_33, u159_34, u159_37, u159_38, u159_39, u159_41, u159_43, q_push_s, q_push_n, q_sm_0, q_sm_i, q_sm_r, q_sm_n, q_sm_l, q_c1_0, q_c1_i, q_c1_r, q_c1_n, Nat.zero_add, Nat.reduceAdd, Nat.reduceMul, Nat.reduceSub, Nat.reduceLeDiff, Nat.reduceLT, Nat.reduceEqDiff, true_and, and_true, not_false_eq_true, if_true, if_false, ite_true, ite_false, or_true, true_or, or_false, false_or, not_true_eq_false, n_lt (i := j) (j := 4) (by omega) (by decide), hj4, n_shr (a := mt) (k := j) (by omega) (by omega), n_and1, e0, q0, io38, Nat.zero_le, Nat.reduceLeDiff]
      refine l.doesQ (d := d) hg ho hj4 (fun m1 f1 l1 => ?_)
      simp only [u159_46, u159_47, u159_48, u159_49, u159_50, u159_53, u159_55, e150, u150_0, u150_1, u150_4, u150_5, u150_6, u150_7, u150_8, u150_9, u150_10, q_push_s, q_push_n, q_sm_0, q_sm_i, q_sm_r, q_sm_n, q_sm_l, q_c1_0, q_c1_i, q_c1_r, q_c1_n, Nat.zero_add, Nat.reduceAdd, Nat.reduceMul, Nat.reduceSub, Nat.reduceLeDiff, Nat.reduceLT, Nat.reduceEqDiff, true_and, and_true, not_false_eq_true, if_true, if_false, ite_true, ite_false, or_true, true_or, or_false, false_or, not_true_eq_false, io38, gf38_3, n_mul, n_add, ia41 (i := 3 * gu + 1) (by omega), l1.mo.pl gu hg, Nat.zero_le, Nat.reduceLeDiff]
      refine l1.doesQ (d := d) hg hpl hj4 (fun m2 f2 l2 => ?_)
      simp only [u159_58, u159_61, u159_62, u159_65, q_push_s, q_push_n, q_sm_0, q_sm_i, q_sm_r, q_sm_n, q_sm_l, q_c1_0, q_c1_i, q_c1_r, q_c1_n, Nat.zero_add, Nat.reduceAdd, Nat.reduceMul, Nat.reduceSub, Nat.reduceLeDiff, Nat.reduceLT, Nat.reduceEqDiff, true_and, and_true, not_false_eq_true, if_true, if_false, ite_true, ite_false, or_true, true_or, or_false, false_or, not_true_eq_false, n_eq (i := z_do tx s gu o j) (j := z_do tx s gu (s.2.1 3 gu) j) (by omega) (by omega)]
      by_cases q1 : z_do tx s gu o j = z_do tx s gu (s.2.1 3 gu) j
      · rw [if_pos q1]
        have := fin m2 True ⟨fun _ => Or.inr (z_smT.mpr q1), fun _ => trivial⟩ (f1.trans f2) l2
        rw [z_b_t] at this
        exact this
      · rw [if_neg q1]
        have := fin m2 False ⟨fun e => e.elim, fun e => e.elim (fun a => q0 a) (fun a => q1 (z_smT.mp a))⟩ (f1.trans f2) l2
        rw [z_b_f] at this
        exact this
theorem l_mayo {gu mt : Nat} (hg : gu < s.1 0) (hm : mt < 16) (d : Nat) : ∀ c i m x5 x6, q_c1 x5 = true → q_c1 x6 = true → i + c = s.1 0 → RJ s tx n h m → (∀ m', FQ m m' → RJ s tx n h m' → K (some (.int (nI (z_may tx s gu mt)))) (GG T L) m') →
    q_R 159 5 (d + 5) [some (.ref 38), some (.int (nI gu)), some (.int (nI mt)), some (.int (nI (z_bs (z_mp tx s gu mt) i))), some (.int (nI i)), x5, x6] [] (GG T L) m K
  | 0, i, m, x5, x6, h5, h6', hi, l, hK => by
    have h6 := l.bz.1
    have e : i = s.1 0 := by omega
    have e2 : ¬ i < s.1 0 := by omega
    simp only [u159_5, u159_7, u159_8, u159_11, u159_97, u159_98, q_push_s, q_push_n, q_sm_0, q_sm_i, q_sm_r, q_sm_n, q_sm_l, q_c1_0, q_c1_i, q_c1_r, q_c1_n, Nat.zero_add, Nat.reduceAdd, Nat.reduceMul, Nat.reduceSub, Nat.reduceLeDiff, Nat.reduceLT, Nat.reduceEqDiff, true_and, and_true, not_false_eq_true, if_true, if_false, ite_true, ite_false, or_true, true_or, or_false, false_or, not_true_eq_false, gf38_0, l.mo.n, n_lt (i := i) (j := s.1 0) (by omega) (by omega), e2]
    rw [e]
    exact hK m (FQ.refl m) l
  | c + 1, i, m, x5, x6, h5, h6', hi, l, hK => by
    have h6 := l.bz.1
    have hlt : i < s.1 0 := by omega
    have es : z_bs (z_mp tx s gu mt) (i + 1) = if z_mp tx s gu mt i then z_bs (z_mp tx s gu mt) i ||| 2 ^ i else z_bs (z_mp tx s gu mt) i := rfl
    have rec2 := fun m1 x5 x6 (g5 : q_c1 x5 = true) (g6 : q_c1 x6 = true) (f1 : FQ m m1) (l1 : RJ s tx n h m1) => l_mayo hg hm d c (i + 1) m1 x5 x6 g5 g6 (by omega) l1 (fun m' f' l' => hK m' (f1.trans f') l')
    rw [es] at rec2
    rw [u159_5]
    simp only [u159_7, u159_8, u159_11, u159_14, u159_15, u159_17, u159_18, q_push_s, q_push_n, q_sm_0, q_sm_i, q_sm_r, q_sm_n, q_sm_l, q_c1_0, q_c1_i, q_c1_r, q_c1_n, Nat.zero_add, Nat.reduceAdd, Nat.reduceMul, Nat.reduceSub, Nat.reduceLeDiff, Nat.reduceLT, Nat.reduceEqDiff, true_and, and_true, not_false_eq_true, if_true, if_false, ite_true, ite_false, or_true, true_or, or_false, false_or, not_true_eq_false, gf38_0, l.mo.n, n_lt (i := i) (j := s.1 0) (by omega) (by omega), hlt]
    have hgo := l_mayi (T := T) (L := L) (K := K) (x3 := some (.int (nI (z_bs (z_mp tx s gu mt) i)))) hg hm hlt d 4 0 m True rfl l (fun m' p' hp' f' l' => by
      have hz : z_mp tx s gu mt i = true ↔ p' := by
        rw [z_mpT, hp']
        exact ⟨fun a => ⟨trivial, fun k h1 _ => a k h1⟩, fun a k h1 => a.2 k h1 (Nat.zero_le k)⟩
      by_cases q : p'
      · rw [if_pos (hz.mpr q)] at rec2
        simp only [u159_75, u159_76, u159_78, u159_81, u159_82, u159_84, u159_85, u159_88, u159_89, u159_90, u159_91, u159_94, q_push_s, q_push_n, q_sm_0, q_sm_i, q_sm_r, q_sm_n, q_sm_l, q_c1_0, q_c1_i, q_c1_r, q_c1_n, Nat.zero_add, Nat.reduceAdd, Nat.reduceMul, Nat.reduceSub, Nat.reduceLeDiff, Nat.reduceLT, Nat.reduceEqDiff, true_and, and_true, not_false_eq_true, if_true, if_false, ite_true, ite_false, or_true, true_or, or_false, false_or, not_true_eq_false, q, z_b_z, n_s1 i (by omega), n_or, n_add]
        exact rec2 m' _ _ (of_eq_true (q_c1_i _)) (of_eq_true (q_c1_i _)) f' l'
      · rw [if_neg (fun e => q (hz.mp e))] at rec2
        simp only [u159_75, u159_76, u159_78, u159_81, u159_82, u159_84, u159_85, u159_88, u159_89, u159_90, u159_91, u159_94, q_push_s, q_push_n, q_sm_0, q_sm_i, q_sm_r, q_sm_n, q_sm_l, q_c1_0, q_c1_i, q_c1_r, q_c1_n, Nat.zero_add, Nat.reduceAdd, Nat.reduceMul, Nat.reduceSub, Nat.reduceLeDiff, Nat.reduceLT, Nat.reduceEqDiff, true_and, and_true, not_false_eq_true, if_true, if_false, ite_true, ite_false, or_true, true_or, or_false, false_or, not_true_eq_false, q, z_b_z, n_or0, n_add]
        exact rec2 m' _ _ (of_eq_true (q_c1_i _)) (of_eq_true (q_c1_i _)) f' l')
    rw [z_b_t] at hgo
    exact hgo
theorem RJ.mayOf {d gu mt : Nat} (l : RJ s tx n h m) (hg : gu < s.1 0) (hm : mt < 16) (hK : ∀ m', FQ m m' → RJ s tx n h m' → K (some (.int (nI (z_may tx s gu mt)))) (GG T L) m') : q_C 159 (d + 5) [.ref 38, .int (nI gu), .int (nI mt)] (GG T L) m K := by
  simp only [e159, u159_0, u159_1, u159_2, u159_3, q_push_s, q_push_n, q_sm_0, q_sm_i, q_sm_r, q_sm_n, q_sm_l, q_c1_0, q_c1_i, q_c1_r, q_c1_n, Nat.zero_add, Nat.reduceAdd, Nat.reduceMul, Nat.reduceSub, Nat.reduceLeDiff, Nat.reduceLT, Nat.reduceEqDiff, true_and, and_true, not_false_eq_true, if_true, if_false, ite_true, ite_false, or_true, true_or, or_false, false_or, not_true_eq_false]
  exact l_mayo hg hm d (s.1 0) 0 m _ _ (of_eq_true q_c1_0) (of_eq_true q_c1_0) (by omega) l hK
end
section
variable {T : List Nat} {L d : Nat} {xs : Nat → Int32} {s : ZS} {tx : Nat → Nat → List Nat} {n : Nat} {tp : Nat → Nat} {z : Nat} {h : ZH} {wd : Nat → Int32} {m m1 m2 : q_M} {K : Option Value → Option Value → q_G → q_M → Prop}
theorem FT.fr {a b : q_M} (h : FT a b) : FR a b := FR.of (fun k hk => h k (by unfold z_scr at hk; omega))
theorem p_may (l : LJ T L xs s tx n tp z h wd m) (a b : Int32) (hK : ∀ r m', LJ T L xs s tx n tp z h wd m' → K (some (.int r)) (some (.int r)) (GG T L) m') :
    q_C 74 (d + 6) [.ref 0, .int a, .int b] (GG T L) m (fun v g m => q_C 160 (d + 6) [.ref 38, .int a, .int b] g m (fun v' g m => K v v' g m)) := by
  have h6 := l.bz.1
  by_cases ha : z_is a (s.1 0)
  · obtain ⟨gu, hg, rfl⟩ := z_is_n ha
    by_cases hb : z_is b 16
    · obtain ⟨w, hw, rfl⟩ := z_is_n hb
      have w0 := n_lt0 (j := w) (by omega)
      have w1 := n_le (i := w) (j := 15) (by omega) (by decide)
      have w2 : w ≤ 15 := by omega
      simp only [e74, u74_0, u74_1, u74_4, u74_5, u74_8, u74_11, u74_13, u74_14, u74_15, u74_18, u74_21, u74_23, u74_24, u74_25, u74_28, u74_29, u74_32, u74_33, u74_36, u74_37, u74_38, u74_41, e74, q_push_s, q_push_n, q_sm_0, q_sm_i, q_sm_r, q_sm_n, q_sm_l, q_c1_0, q_c1_i, q_c1_r, q_c1_n, Nat.zero_add, Nat.reduceAdd, Nat.reduceMul, Nat.reduceSub, Nat.reduceLeDiff, Nat.reduceLT, Nat.reduceEqDiff, true_and, and_true, not_false_eq_true, if_true, if_false, ite_true, ite_false, or_true, true_or, or_false, false_or, not_true_eq_false, gf0_0, gf0_2, io1, io3, l.has, ha, hb, z_b_z, c_areMatters, Nat.zero_le, Nat.reduceLeDiff]
      refine l.cj.compare hg (fun m1 f1 l1 k1 k2 => ?_)
      have lj1 := l.fr f1.fr
      simp only [e74, u74_0, u74_1, u74_4, u74_5, u74_8, u74_11, u74_13, u74_14, u74_15, u74_18, u74_21, u74_23, u74_24, u74_25, u74_28, u74_29, u74_32, u74_33, u74_36, u74_37, u74_38, u74_41, q_push_s, q_push_n, q_sm_0, q_sm_i, q_sm_r, q_sm_n, q_sm_l, q_c1_0, q_c1_i, q_c1_r, q_c1_n, Nat.zero_add, Nat.reduceAdd, Nat.reduceMul, Nat.reduceSub, Nat.reduceLeDiff, Nat.reduceLT, Nat.reduceEqDiff, true_and, and_true, not_false_eq_true, if_true, if_false, ite_true, ite_false, or_true, true_or, or_false, false_or, not_true_eq_false, gf0_0, io1, l1.canBe hg hw k1, e160, u160_0, u160_1, u160_2, u160_5, u160_8, u160_10, u160_11, u160_12, u160_13, u160_15, u160_18, u160_21, u160_22, u160_23, u160_24, u160_27, u160_30, u160_32, e160, io38, lj1.isg, ha, z_b_z, c_in, and_self, w0, w1, w2, Nat.zero_le, Nat.reduceLeDiff]
      refine lj1.rj.mayOf hg hw (fun m2 f2 l2 => ?_)
      simp only [e160, u160_0, u160_1, u160_2, u160_5, u160_8, u160_10, u160_11, u160_12, u160_13, u160_15, u160_18, u160_21, u160_22, u160_23, u160_24, u160_27, u160_30, u160_32, q_push_s, q_push_n, q_sm_0, q_sm_i, q_sm_r, q_sm_n, q_sm_l, q_c1_0, q_c1_i, q_c1_r, q_c1_n, Nat.zero_add, Nat.reduceAdd, Nat.reduceMul, Nat.reduceSub, Nat.reduceLeDiff, Nat.reduceLT, Nat.reduceEqDiff, true_and, and_true, not_false_eq_true, if_true, if_false, ite_true, ite_false, or_true, true_or, or_false, false_or, not_true_eq_false]
      exact hK _ _ (lj1.fr f2.fm.fr)
    · rcases z_is_f (n := 15) (by decide) hb with q | ⟨q1, q2⟩
      · simp only [e74, u74_0, u74_1, u74_4, u74_5, u74_8, u74_11, u74_13, u74_14, u74_15, u74_18, u74_21, u74_23, u74_24, u74_25, u74_28, u74_29, u74_32, u74_33, u74_36, u74_37, u74_38, u74_41, e74, e160, u160_0, u160_1, u160_2, u160_5, u160_8, u160_10, u160_11, u160_12, u160_13, u160_15, u160_18, u160_21, u160_22, u160_23, u160_24, u160_27, u160_30, u160_32, e160, q_push_s, q_push_n, q_sm_0, q_sm_i, q_sm_r, q_sm_n, q_sm_l, q_c1_0, q_c1_i, q_c1_r, q_c1_n, Nat.zero_add, Nat.reduceAdd, Nat.reduceMul, Nat.reduceSub, Nat.reduceLeDiff, Nat.reduceLT, Nat.reduceEqDiff, true_and, and_true, not_false_eq_true, if_true, if_false, ite_true, ite_false, or_true, true_or, or_false, false_or, not_true_eq_false, gf0_2, io3, io38, l.has, l.isg, ha, hb, z_b_z, c_areMatters, c_in, false_and, q, Nat.zero_le, Nat.reduceLeDiff]
        exact hK _ _ l
      · simp only [e74, u74_0, u74_1, u74_4, u74_5, u74_8, u74_11, u74_13, u74_14, u74_15, u74_18, u74_21, u74_23, u74_24, u74_25, u74_28, u74_29, u74_32, u74_33, u74_36, u74_37, u74_38, u74_41, e74, e160, u160_0, u160_1, u160_2, u160_5, u160_8, u160_10, u160_11, u160_12, u160_13, u160_15, u160_18, u160_21, u160_22, u160_23, u160_24, u160_27, u160_30, u160_32, e160, q_push_s, q_push_n, q_sm_0, q_sm_i, q_sm_r, q_sm_n, q_sm_l, q_c1_0, q_c1_i, q_c1_r, q_c1_n, Nat.zero_add, Nat.reduceAdd, Nat.reduceMul, Nat.reduceSub, Nat.reduceLeDiff, Nat.reduceLT, Nat.reduceEqDiff, true_and, and_true, not_false_eq_true, if_true, if_false, ite_true, ite_false, or_true, true_or, or_false, false_or, not_true_eq_false, gf0_2, io3, io38, l.has, l.isg, ha, hb, z_b_z, c_areMatters, c_in, and_false, q1, q2, Nat.zero_le, Nat.reduceLeDiff]
        exact hK _ _ l
  · simp only [e74, u74_0, u74_1, u74_4, u74_5, u74_8, u74_11, u74_13, u74_14, u74_15, u74_18, u74_21, u74_23, u74_24, u74_25, u74_28, u74_29, u74_32, u74_33, u74_36, u74_37, u74_38, u74_41, e74, e160, u160_0, u160_1, u160_2, u160_5, u160_8, u160_10, u160_11, u160_12, u160_13, u160_15, u160_18, u160_21, u160_22, u160_23, u160_24, u160_27, u160_30, u160_32, e160, q_push_s, q_push_n, q_sm_0, q_sm_i, q_sm_r, q_sm_n, q_sm_l, q_c1_0, q_c1_i, q_c1_r, q_c1_n, Nat.zero_add, Nat.reduceAdd, Nat.reduceMul, Nat.reduceSub, Nat.reduceLeDiff, Nat.reduceLT, Nat.reduceEqDiff, true_and, and_true, not_false_eq_true, if_true, if_false, ite_true, ite_false, or_true, true_or, or_false, false_or, not_true_eq_false, gf0_2, io3, io38, l.has, l.isg, ha, z_b_z, Nat.zero_le, Nat.reduceLeDiff]
    exact hK _ _ l
end
