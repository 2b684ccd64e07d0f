/-! ===== evening ===== -/
def z_kni (tx : Nat → Nat → List Nat) (s : ZS) (g o : Nat) : Nat := (z_kn tx s g o).toInt.toNat
def z_t1 (tx : Nat → Nat → List Nat) (s : ZS) (dr : Nat → Nat) (g : Nat) (a : Nat × Nat × Nat) : Nat × Nat × Nat := if z_kn tx s g (dr g) = (-1 : Int32) then a else (a.1 + 1, a.2.1 ||| 2 ^ g, a.2.2 + z_ask tx s 1 g (dr g) (z_kni tx s g (dr g)))
/-- how many of the first ones are known, who, what it costs them -/
def z_tl (tx : Nat → Nat → List Nat) (s : ZS) (dr : Nat → Nat) : Nat → Nat × Nat × Nat
  | 0 => (0, 0, 0)
  | k + 1 => z_t1 tx s dr k (z_tl tx s dr k)
theorem z_pop6 : ∀ i, i < 6 → ∀ w, w < 64 → w < 2 ^ i → z_pop (w ||| 2 ^ i) = z_pop w + 1 ∧ w ||| 2 ^ i < 2 ^ (i + 1) := by decide +kernel
theorem z_tl_b (tx : Nat → Nat → List Nat) (s : ZS) (dr : Nat → Nat) : ∀ k, k ≤ 6 → (z_tl tx s dr k).1 ≤ k ∧ (z_tl tx s dr k).2.1 < 2 ^ k ∧ (z_tl tx s dr k).2.2 ≤ 100 * k ∧ z_pop (z_tl tx s dr k).2.1 = (z_tl tx s dr k).1
  | 0, _ => ⟨Nat.le_refl _, show 0 < 2 ^ 0 by decide, Nat.le_refl _, show z_pop 0 = 0 by decide +kernel⟩
  | k + 1, hk => by
    obtain ⟨h1, h2, h3, h4⟩ := z_tl_b tx s dr k (by omega)
    have h64 : 2 ^ k ≤ 64 := Nat.pow_le_pow_right (by decide) (show k ≤ 6 by omega)
    have hp := z_pop6 k (by omega) (z_tl tx s dr k).2.1 (by omega) h2
    have hlt : 2 ^ k ≤ 2 ^ (k + 1) := Nat.pow_le_pow_right (by decide) (by omega)
    have ha := z_ask_le tx s 1 k (dr k) (z_kni tx s k (dr k))
    show (z_t1 tx s dr k (z_tl tx s dr k)).1 ≤ _ ∧ (z_t1 tx s dr k (z_tl tx s dr k)).2.1 < _ ∧ (z_t1 tx s dr k (z_tl tx s dr k)).2.2 ≤ _ ∧ z_pop (z_t1 tx s dr k (z_tl tx s dr k)).2.1 = (z_t1 tx s dr k (z_tl tx s dr k)).1
    unfold z_t1
    split
    · exact ⟨by omega, by omega, by omega, h4⟩
    · exact ⟨by show _ + 1 ≤ _; omega, hp.2, by show _ + _ ≤ _; omega, by show z_pop (_ ||| _) = _ + 1; rw [hp.1, h4]⟩
theorem z_kn_is (tx : Nat → Nat → List Nat) (s : ZS) (g o : Nat) : z_kn tx s g o = (-1 : Int32) ∨ (z_kni tx s g o < 4 ∧ z_kn tx s g o = nI (z_kni tx s g o) ∧ ¬ z_kn tx s g o = (-1 : Int32)) := by
  rcases z_first_is (z_oth tx s g o) 4 0 with q | ⟨j, h1, h2, h3⟩
  · exact Or.inl q
  · refine Or.inr ?_
    have e : z_kn tx s g o = nI j := h3
    unfold z_kni
    rw [e, nI_toInt (by omega)]
    have := (i_nm (j := j) (by omega)).2.1
    exact ⟨by omega, rfl, of_eq_false this⟩
/-- what a question may change of the reference: a text's two rows alone -/
def FQ (m m' : q_M) : Prop := ∀ k, ¬ (53 ≤ k ∧ k < 55) → m' k = m k
theorem FQ.refl (m : q_M) : FQ m m := fun _ _ => rfl
theorem FQ.trans {a b c : q_M} (h : FQ a b) (h' : FQ b c) : FQ a c := fun k hk => (h' k hk).trans (h k hk)
theorem FQ.fm {a b : q_M} (h : FQ a b) : FM a b := ⟨fun k _ h2 => h k h2, fun f _ => by rw [h 38 (by decide)]⟩
theorem FQ.of53 {m m' : q_M} (h : ∀ k, k ≠ 53 → k ≠ 54 → m' k = m k) : FQ m m' := fun k hk => h k (by omega) (by omega)
section
variable {T : List Nat} {L : Nat} {s : ZS} {tx : Nat → Nat → List Nat} {n : Nat} {h : ZH} {m : q_M} {K : Option Value → q_G → q_M → Prop}
theorem CJ.law (l : CJ T L s tx n h m) (d : Nat) (K : Option Value → q_G → q_M → Prop) : q_C 48 d [.ref 2] (GG T L) m K ↔ K (some (.ref (z_pl (s.1 2)))) (GG T L) m := c_law l.cl l.1.2.2.1 l.1.2.2.2 l.2.1
theorem CJ.iop (l : CJ T L s tx n h m) : q_io 6 (GG T L) (z_pl (s.1 2)) ↔ True := by
  have h := (l.2.2.2.1 (s.1 2) l.1.2.2.1).2.1
  unfold q_io
  rw [h]
  exact ⟨fun _ => trivial, fun _ => rfl⟩
theorem CJ.asking {d : Nat} (l : CJ T L s tx n h m) {gu o j : Nat} (hg : gu < s.1 0) (ho : o < s.1 0) (hK : ∀ m', FC m m' → CJ T L s tx n h m' → (∀ c, c < 6 → m' 13 c = z_nm s gu o j c) → K (some (.ref 13)) (GG T L) m') : q_C 49 (d + 2) [.ref 2, .int (nI gu), .int (nI o), .int (nI j)] (GG T L) m K :=
  c_asking l.cl l.bz hg ho (fun m' f1 f2 => by
    have f : FC m m' := FC.of13 (fun k h1 _ => f1 k h1)
    exact hK m' f (l.fr f) f2)
theorem CJ.says {d : Nat} (l : CJ T L s tx n h m) {p gu o j : Nat} (hp : p < 3) (hn : ∀ c, c < 6 → m 13 c = z_nm s gu o j c) (hK : ∀ m', FC m m' → CJ T L s tx n h m' → K (some (.int (nI (z_ask tx s p gu o j)))) (GG T L) m') : q_C 57 (d + 2) [.ref (z_pl (s.1 2)), .int (nI p), .ref 13] (GG T L) m K :=
  c_says l.2.2.2.1 l.1.2.1 l.1.2.2.1 l.1.2.2.2 hp hn (fun m' f1 => by
    have f : FC m m' := FC.of13 (fun k _ h1 => f1 k h1)
    exact hK m' f (l.fr f))
theorem RJ.doesQ {d : Nat} (l : RJ s tx n h m) {gu o j : Nat} (hg : gu < s.1 0) (ho : o < s.1 0) (hj : j < 4) (hK : ∀ m', FQ m m' → RJ s tx n h m' → K (some (.int (nI (z_do tx s gu o j)))) (GG T L) m') : q_C 149 (d + 4) [.ref 38, .int (nI gu), .int (nI o), .int (nI j)] (GG T L) m K :=
  c_doesAs l.mo l.2.2.1 l.1 hg ho hj (fun m' e => hK m' (FQ.of53 e) (l.fr (FQ.of53 e).fm))
theorem RJ.asksOf {d : Nat} (l : RJ s tx n h m) {p gu o j : Nat} (hp : p < 3) (hg : gu < s.1 0) (ho : o < s.1 0) (hK : ∀ m', FQ m m' → RJ s tx n h m' → K (some (.int (nI (z_ask tx s p gu o j)))) (GG T L) m') : q_C 141 (d + 2) [.ref 38, .int (nI p), .int (nI gu), .int (nI o), .int (nI j)] (GG T L) m K :=
  c_asksOf8 l.mo l.2.2.1 l.1 hp hg ho (fun m' f => hK m' (FQ.of53 f) (l.fr (FQ.of53 f).fm))
theorem lc_knownOn {gu o : Nat} (hg : gu < s.1 0) (ho : o < s.1 0) (d : Nat) : ∀ (k i : Nat) (m : q_M), k + i = 4 → CJ T L s tx n h m → (∀ m', FC m m' → CJ T L s tx n h m' → K (some (.int (z_first (z_oth tx s gu o) k i))) (GG T L) m') →
    q_R 53 2 (d + 5) [some (.ref 2), some (.int (nI gu)), some (.int (nI o)), some (.int (nI i))] [] (GG T L) m K
  | 0, i, m, hi, l, hK => by
    have hi4 : i = 4 := by omega
    subst hi4
    have hlt : (nI 4 < nI 4) = False := eq_false (by decide +kernel)
    simp only [u53_2, u53_3, u53_4, u53_40, u53_41, q_push_s, q_push_n, q_sm_0, q_sm_i, q_sm_r, q_sm_n, q_sm_l, q_c1_0, q_c1_i, q_c1_r, q_c1_n, Nat.zero_add, Nat.reduceAdd, Nat.reduceMul, Nat.reduceSub, Nat.reduceLeDiff, Nat.reduceLT, Nat.reduceEqDiff, true_and, and_true, not_false_eq_true, if_true, if_false, ite_true, ite_false, or_true, true_or, or_false, false_or, not_true_eq_false, hlt]
    exact hK m (FC.refl m) l
  | k + 1, i, m, hi, l, hK => by
    have h6 := l.bz.1
    have hi4 : i < 4 := by omega
    have hb := (l.bz.2.2.2 o ho).2.2.1
    have hd := z_do_lt tx s gu o i
    have ha := z_an_lt (s.2.1 2 o) i
    rw [u53_2]
    simp only [u53_3, u53_4, u53_7, u53_8, u53_9, u53_10, u53_11, q_push_s, q_push_n, q_sm_0, q_sm_i, q_sm_r, q_sm_n, q_sm_l, q_c1_0, q_c1_i, q_c1_r, q_c1_n, Nat.zero_add, Nat.reduceAdd, Nat.reduceMul, Nat.reduceSub, Nat.reduceLeDiff, Nat.reduceLT, Nat.reduceEqDiff, true_and, and_true, not_false_eq_true, if_true, if_false, ite_true, ite_false, or_true, true_or, or_false, false_or, not_true_eq_false, n_lt (i := i) (j := 4) (by omega) (by decide), hi4, io2, Nat.zero_le, Nat.reduceLeDiff]
    refine l.doing hg ho hi4 (fun m1 f1 l1 => ?_)
    simp only [u53_14, u53_15, u53_18, u53_21, u53_22, u53_25, u53_26, u53_29, u53_32, u53_33, u53_34, u53_37, q_push_s, q_push_n, q_sm_0, q_sm_i, q_sm_r, q_sm_n, q_sm_l, q_c1_0, q_c1_i, q_c1_r, q_c1_n, Nat.zero_add, Nat.reduceAdd, Nat.reduceMul, Nat.reduceSub, Nat.reduceLeDiff, Nat.reduceLT, Nat.reduceEqDiff, true_and, and_true, not_false_eq_true, if_true, if_false, ite_true, ite_false, or_true, true_or, or_false, false_or, not_true_eq_false, gf2_0, gf3_5, Nat.zero_le, Nat.reduceLeDiff, c_at (j := o) sh6 (by decide) (by decide) (show o < 6 by omega), l1.cl.ma o ho, c_answerOf hb hi4, n_eq (i := z_do tx s gu o i) (j := z_an (s.2.1 2 o) i) (by omega) (by omega), n_add]
    by_cases hq : z_do tx s gu o i = z_an (s.2.1 2 o) i
    · rw [if_pos hq]
      refine lc_knownOn hg ho d k (i + 1) m1 (by omega) l1 (fun m' f' l' => ?_)
      have := hK m' (f1.trans f') l'
      unfold z_first at this
      rw [if_neg (fun e => z_othT.mp e hq)] at this
      exact this
    · rw [if_neg hq]
      have := hK m1 f1 l1
      unfold z_first at this
      rw [if_pos (z_othT.mpr hq)] at this
      exact this
theorem CJ.knownOn {d : Nat} (l : CJ T L s tx n h m) {gu o : Nat} (hg : gu < s.1 0) (ho : o < s.1 0) (hK : ∀ m', FC m m' → CJ T L s tx n h m' → K (some (.int (z_kn tx s gu o))) (GG T L) m') : q_C 53 (d + 5) [.ref 2, .int (nI gu), .int (nI o)] (GG T L) m K := by
  simp only [e53, u53_0, u53_1, q_push_s, q_push_n, q_sm_0, q_sm_i, q_sm_r, q_sm_n, q_sm_l, q_c1_0, q_c1_i, q_c1_r, q_c1_n, Nat.zero_add, Nat.reduceAdd, Nat.reduceMul, Nat.reduceSub, Nat.reduceLeDiff, Nat.reduceLT, Nat.reduceEqDiff, true_and, and_true, not_false_eq_true, if_true, if_false, ite_true, ite_false, or_true, true_or, or_false, false_or, not_true_eq_false]
  exact lc_knownOn hg ho d 4 0 m rfl l hK
theorem lr_knownOf {gu o : Nat} (hg : gu < s.1 0) (ho : o < s.1 0) (d : Nat) : ∀ (k i : Nat) (m : q_M), k + i = 4 → RJ s tx n h m → (∀ m', FQ m m' → RJ s tx n h m' → K (some (.int (z_first (z_oth tx s gu o) k i))) (GG T L) m') →
    q_R 153 8 (d + 5) [some (.ref 38), some (.int (nI gu)), some (.int (nI o)), some (.int (nI i))] [] (GG T L) m K
  | 0, i, m, hi, l, hK => by
    have hi4 : i = 4 := by omega
    subst hi4
    have hlt : (nI 4 < nI 4) = False := eq_false (by decide +kernel)
    simp only [u153_8, u153_9, u153_10, u153_43, u153_44, q_push_s, q_push_n, q_sm_0, q_sm_i, q_sm_r, q_sm_n, q_sm_l, q_c1_0, q_c1_i, q_c1_r, q_c1_n, Nat.zero_add, Nat.reduceAdd, Nat.reduceMul, Nat.reduceSub, Nat.reduceLeDiff, Nat.reduceLT, Nat.reduceEqDiff, true_and, and_true, not_false_eq_true, if_true, if_false, ite_true, ite_false, or_true, true_or, or_false, false_or, not_true_eq_false, hlt]
    exact hK m (FQ.refl m) l
  | k + 1, i, m, hi, l, hK => by
    have h6 := l.bz.1
    have hi4 : i < 4 := by omega
    have hb := (l.bz.2.2.2 o ho).2.2.1
    have hd := z_do_lt tx s gu o i
    have ha := z_an_lt (s.2.1 2 o) i
    rw [u153_8]
    simp only [u153_9, u153_10, u153_13, u153_14, u153_15, u153_16, u153_17, q_push_s, q_push_n, q_sm_0, q_sm_i, q_sm_r, q_sm_n, q_sm_l, q_c1_0, q_c1_i, q_c1_r, q_c1_n, Nat.zero_add, Nat.reduceAdd, Nat.reduceMul, Nat.reduceSub, Nat.reduceLeDiff, Nat.reduceLT, Nat.reduceEqDiff, true_and, and_true, not_false_eq_true, if_true, if_false, ite_true, ite_false, or_true, true_or, or_false, false_or, not_true_eq_false, n_lt (i := i) (j := 4) (by omega) (by decide), hi4, io38, Nat.zero_le, Nat.reduceLeDiff]
    refine l.doesQ hg ho hi4 (fun m1 f1 l1 => ?_)
    simp only [u153_20, u153_21, u153_24, u153_25, u153_26, u153_27, u153_28, u153_29, u153_32, u153_35, u153_36, u153_37, u153_40, q_push_s, q_push_n, q_sm_0, q_sm_i, q_sm_r, q_sm_n, q_sm_l, q_c1_0, q_c1_i, q_c1_r, q_c1_n, Nat.zero_add, Nat.reduceAdd, Nat.reduceMul, Nat.reduceSub, Nat.reduceLeDiff, Nat.reduceLT, Nat.reduceEqDiff, true_and, and_true, not_false_eq_true, if_true, if_false, ite_true, ite_false, or_true, true_or, or_false, false_or, not_true_eq_false, gf38_3, n_mul, Nat.zero_le, Nat.reduceLeDiff, ia41 (i := 3 * o) (by omega), l1.mo.ma o ho, c_answer hb hi4, n_eq (i := z_do tx s gu o i) (j := z_an (s.2.1 2 o) i) (by omega) (by omega), n_add]
    by_cases hq : z_do tx s gu o i = z_an (s.2.1 2 o) i
    · rw [if_pos hq]
      refine lr_knownOf hg ho d k (i + 1) m1 (by omega) l1 (fun m' f' l' => ?_)
      have := hK m' (f1.trans f') l'
      unfold z_first at this
      rw [if_neg (fun e => z_othT.mp e hq)] at this
      exact this
    · rw [if_neg hq]
      have := hK m1 f1 l1
      unfold z_first at this
      rw [if_pos (z_othT.mpr hq)] at this
      exact this
theorem RJ.knownOf {d : Nat} (l : RJ s tx n h m) {gu : Nat} (hg : gu < s.1 0) (hK : ∀ m', FQ m m' → RJ s tx n h m' → K (some (.int (z_kn tx s gu (s.2.1 3 gu)))) (GG T L) m') : q_C 153 (d + 5) [.ref 38, .int (nI gu)] (GG T L) m K := by
  have h6 := l.bz.1
  simp only [e153, u153_0, u153_1, u153_2, u153_5, u153_6, u153_7, e150, u150_0, u150_1, u150_4, u150_5, u150_6, u150_7, u150_8, u150_9, u150_10, q_push_s, q_push_n, q_sm_0, q_sm_i, q_sm_r, q_sm_n, q_sm_l, q_c1_0, q_c1_i, q_c1_r, q_c1_n, Nat.zero_add, Nat.reduceAdd, Nat.reduceMul, Nat.reduceSub, Nat.reduceLeDiff, Nat.reduceLT, Nat.reduceEqDiff, true_and, and_true, not_false_eq_true, if_true, if_false, ite_true, ite_false, or_true, true_or, or_false, false_or, not_true_eq_false, io38, gf38_3, n_mul, n_add, ia41 (i := 3 * gu + 1) (by omega), l.mo.pl gu hg, Nat.zero_le]
  exact lr_knownOf hg (l.bz.2.2.2 gu hg).2.2.2.1 d 4 0 m rfl l hK
/-- what an evening answers -/
def z_ta (w : Nat) (a : Nat × Nat × Nat) : Nat := if w = 0 then a.1 else if w = 1 then a.2.1 else a.2.2
theorem l_tally {P w : Nat} {dr : Nat → Nat} (hP : (GG T L).1 P = .inl 6) (hP9 : P < 900) (hPs : ¬ (13 ≤ P ∧ P < 15)) (hw : w < 3) (hdr : ∀ g, g < s.1 0 → dr g < s.1 0) (d : Nat) : ∀ c i m x7 x8, q_c1 x7 = true → q_c1 x8 = true → i + c = s.1 0 → (∀ g, g < s.1 0 → m P g = nI (dr g)) → CJ T L s tx n h m → (∀ m', FC m m' → CJ T L s tx n h m' → K (some (.int (nI (z_ta w (z_tl tx s dr (s.1 0)))))) (GG T L) m') →
    q_R 55 11 (d + 6) [some (.ref 2), some (.int (nI w)), some (.ref P), some (.int (nI (z_tl tx s dr i).1)), some (.int (nI (z_tl tx s dr i).2.1)), some (.int (nI (z_tl tx s dr i).2.2)), some (.int (nI i)), x7, x8] [] (GG T L) m K
  | 0, i, m, x7, x8, h7, h8, hi, hd, l, hK => by
    have h6 := l.bz.1
    have e : i = s.1 0 := by omega
    have hq := hK m (FC.refl m) l
    have e2 : ¬ i < s.1 0 := by omega
    rw [← e] at hq
    have hw' : w = 0 ∨ w = 1 ∨ w = 2 := by omega
    unfold z_ta at hq
    rcases hw' with rfl | rfl | rfl
    · simp only [u55_11, u55_13, u55_14, u55_17, u55_20, u55_90, u55_91, u55_94, u55_95, u55_98, u55_99, u55_100, u55_103, u55_105, u55_108, u55_110, q_push_s, q_push_n, q_sm_0, q_sm_i, q_sm_r, q_sm_n, q_sm_l, q_c1_0, q_c1_i, q_c1_r, q_c1_n, Nat.zero_add, Nat.reduceAdd, Nat.reduceMul, Nat.reduceSub, Nat.reduceLeDiff, Nat.reduceLT, Nat.reduceEqDiff, true_and, and_true, not_false_eq_true, if_true, if_false, ite_true, ite_false, or_true, true_or, or_false, false_or, not_true_eq_false, eq_self, lq_0_1, lq_0_2, lq_0_3, lq_0_4, lq_0_5, lq_0_6, lq_1_0, lq_1_2, lq_1_3, lq_1_4, lq_1_5, lq_1_6, lq_2_0, lq_2_1, lq_2_3, lq_2_4, lq_2_5, lq_2_6, lq_3_0, lq_3_1, lq_3_2, lq_3_4, lq_3_5, lq_3_6, lq_4_0, lq_4_1, lq_4_2, lq_4_3, lq_4_5, lq_4_6, lq_5_0, lq_5_1, lq_5_2, lq_5_3, lq_5_4, lq_5_6, lq_6_0, lq_6_1, lq_6_2, lq_6_3, lq_6_4, lq_6_5, ll_0_0, ll_0_1, ll_0_2, ll_0_3, ll_0_4, ll_0_5, ll_0_6, ll_1_0, ll_1_1, ll_1_2, ll_1_3, ll_1_4, ll_1_5, ll_1_6, ll_2_0, ll_2_1, ll_2_2, ll_2_3, ll_2_4, ll_2_5, ll_2_6, ll_3_0, ll_3_1, ll_3_2, ll_3_3, ll_3_4, ll_3_5, ll_3_6, ll_4_0, ll_4_1, ll_4_2, ll_4_3, ll_4_4, ll_4_5, ll_4_6, ll_5_0, ll_5_1, ll_5_2, ll_5_3, ll_5_4, ll_5_5, ll_5_6, ll_6_0, ll_6_1, ll_6_2, ll_6_3, ll_6_4, ll_6_5, ll_6_6, le_0_0, le_0_1, le_0_2, le_0_3, le_0_4, le_0_5, le_0_6, le_1_0, le_1_1, le_1_2, le_1_3, le_1_4, le_1_5, le_1_6, le_2_0, le_2_1, le_2_2, le_2_3, le_2_4, le_2_5, le_2_6, le_3_0, le_3_1, le_3_2, le_3_3, le_3_4, le_3_5, le_3_6, le_4_0, le_4_1, le_4_2, le_4_3, le_4_4, le_4_5, le_4_6, le_5_0, le_5_1, le_5_2, le_5_3, le_5_4, le_5_5, le_5_6, le_6_0, le_6_1, le_6_2, le_6_3, le_6_4, le_6_5, le_6_6, gf2_0, gf3_0, l.cl.n, n_lt (i := i) (j := s.1 0) (by omega) (by omega), e2]
      exact hq
    · simp only [u55_11, u55_13, u55_14, u55_17, u55_20, u55_90, u55_91, u55_94, u55_95, u55_98, u55_99, u55_100, u55_103, u55_105, u55_108, u55_110, q_push_s, q_push_n, q_sm_0, q_sm_i, q_sm_r, q_sm_n, q_sm_l, q_c1_0, q_c1_i, q_c1_r, q_c1_n, Nat.zero_add, Nat.reduceAdd, Nat.reduceMul, Nat.reduceSub, Nat.reduceLeDiff, Nat.reduceLT, Nat.reduceEqDiff, true_and, and_true, not_false_eq_true, if_true, if_false, ite_true, ite_false, or_true, true_or, or_false, false_or, not_true_eq_false, eq_self, lq_0_1, lq_0_2, lq_0_3, lq_0_4, lq_0_5, lq_0_6, lq_1_0, lq_1_2, lq_1_3, lq_1_4, lq_1_5, lq_1_6, lq_2_0, lq_2_1, lq_2_3, lq_2_4, lq_2_5, lq_2_6, lq_3_0, lq_3_1, lq_3_2, lq_3_4, lq_3_5, lq_3_6, lq_4_0, lq_4_1, lq_4_2, lq_4_3, lq_4_5, lq_4_6, lq_5_0, lq_5_1, lq_5_2, lq_5_3, lq_5_4, lq_5_6, lq_6_0, lq_6_1, lq_6_2, lq_6_3, lq_6_4, lq_6_5, ll_0_0, ll_0_1, ll_0_2, ll_0_3, ll_0_4, ll_0_5, ll_0_6, ll_1_0, ll_1_1, ll_1_2, ll_1_3, ll_1_4, ll_1_5, ll_1_6, ll_2_0, ll_2_1, ll_2_2, ll_2_3, ll_2_4, ll_2_5, ll_2_6, ll_3_0, ll_3_1, ll_3_2, ll_3_3, ll_3_4, ll_3_5, ll_3_6, ll_4_0, ll_4_1, ll_4_2, ll_4_3, ll_4_4, ll_4_5, ll_4_6, ll_5_0, ll_5_1, ll_5_2, ll_5_3, ll_5_4, ll_5_5, ll_5_6, ll_6_0, ll_6_1, ll_6_2, ll_6_3, ll_6_4, ll_6_5, ll_6_6, le_0_0, le_0_1, le_0_2, le_0_3, le_0_4, le_0_5, le_0_6, le_1_0, le_1_1, le_1_2, le_1_3, le_1_4, le_1_5, le_1_6, le_2_0, le_2_1, le_2_2, le_2_3, le_2_4, le_2_5, le_2_6, le_3_0, le_3_1, le_3_2, le_3_3, le_3_4, le_3_5, le_3_6, le_4_0, le_4_1, le_4_2, le_4_3, le_4_4, le_4_5, le_4_6, le_5_0, le_5_1, le_5_2, le_5_3, le_5_4, le_5_5, le_5_6, le_6_0, le_6_1, le_6_2, le_6_3, le_6_4, le_6_5, le_6_6, gf2_0, gf3_0, l.cl.n, n_lt (i := i) (j := s.1 0) (by omega) (by omega), e2]
      exact hq
    · simp only [u55_11, u55_13, u55_14, u55_17, u55_20, u55_90, u55_91, u55_94, u55_95, u55_98, u55_99, u55_100, u55_103, u55_105, u55_108, u55_110, q_push_s, q_push_n, q_sm_0, q_sm_i, q_sm_r, q_sm_n, q_sm_l, q_c1_0, q_c1_i, q_c1_r, q_c1_n, Nat.zero_add, Nat.reduceAdd, Nat.reduceMul, Nat.reduceSub, Nat.reduceLeDiff, Nat.reduceLT, Nat.reduceEqDiff, true_and, and_true, not_false_eq_true, if_true, if_false, ite_true, ite_false, or_true, true_or, or_false, false_or, not_true_eq_false, eq_self, lq_0_1, lq_0_2, lq_0_3, lq_0_4, lq_0_5, lq_0_6, lq_1_0, lq_1_2, lq_1_3, lq_1_4, lq_1_5, lq_1_6, lq_2_0, lq_2_1, lq_2_3, lq_2_4, lq_2_5, lq_2_6, lq_3_0, lq_3_1, lq_3_2, lq_3_4, lq_3_5, lq_3_6, lq_4_0, lq_4_1, lq_4_2, lq_4_3, lq_4_5, lq_4_6, lq_5_0, lq_5_1, lq_5_2, lq_5_3, lq_5_4, lq_5_6, lq_6_0, lq_6_1, lq_6_2, lq_6_3, lq_6_4, lq_6_5, ll_0_0, ll_0_1, ll_0_2, ll_0_3, ll_0_4, ll_0_5, ll_0_6, ll_1_0, ll_1_1, ll_1_2, ll_1_3, ll_1_4, ll_1_5, ll_1_6, ll_2_0, ll_2_1, ll_2_2, ll_2_3, ll_2_4, ll_2_5, ll_2_6, ll_3_0, ll_3_1, ll_3_2, ll_3_3, ll_3_4, ll_3_5, ll_3_6, ll_4_0, ll_4_1, ll_4_2, ll_4_3, ll_4_4, ll_4_5, ll_4_6, ll_5_0, ll_5_1, ll_5_2, ll_5_3, ll_5_4, ll_5_5, ll_5_6, ll_6_0, ll_6_1, ll_6_2, ll_6_3, ll_6_4, ll_6_5, ll_6_6, le_0_0, le_0_1, le_0_2, le_0_3, le_0_4, le_0_5, le_0_6, le_1_0, le_1_1, le_1_2, le_1_3, le_1_4, le_1_5, le_1_6, le_2_0, le_2_1, le_2_2, le_2_3, le_2_4, le_2_5, le_2_6, le_3_0, le_3_1, le_3_2, le_3_3, le_3_4, le_3_5, le_3_6, le_4_0, le_4_1, le_4_2, le_4_3, le_4_4, le_4_5, le_4_6, le_5_0, le_5_1, le_5_2, le_5_3, le_5_4, le_5_5, le_5_6, le_6_0, le_6_1, le_6_2, le_6_3, le_6_4, le_6_5, le_6_6, gf2_0, gf3_0, l.cl.n, n_lt (i := i) (j := s.1 0) (by omega) (by omega), e2]
      exact hq
  | c + 1, i, m, x7, x8, h7, h8, hi, hd, l, hK => by
    have h6 := l.bz.1
    have hlt : i < s.1 0 := by omega
    have hg2 := hdr i hlt
    rw [u55_11]
    simp only [u55_13, u55_14, u55_17, u55_20, u55_23, u55_23n, u55_24, u55_26, u55_29, u55_31, u55_32, u55_34, u55_36, q_push_s, q_push_n, q_sm_0, q_sm_i, q_sm_r, q_sm_n, q_sm_l, q_c1_0, q_c1_i, q_c1_r, q_c1_n, Nat.zero_add, Nat.reduceAdd, Nat.reduceMul, Nat.reduceSub, Nat.reduceLeDiff, Nat.reduceLT, Nat.reduceEqDiff, true_and, and_true, not_false_eq_true, if_true, if_false, ite_true, ite_false, or_true, true_or, or_false, false_or, not_true_eq_false, gf2_0, gf3_0, l.cl.n, n_lt (i := i) (j := s.1 0) (by omega) (by omega), hlt, c_at (j := i) hP (show P < 930 by omega) (by decide) (show i < 6 by omega), hd i hlt, io2, Nat.zero_le, Nat.reduceLeDiff]
    refine l.knownOn (d := d) hlt hg2 (fun m1 f1 l1 => ?_)
    have hd1 : ∀ g, g < s.1 0 → m1 P g = nI (dr g) := fun g hg => by rw [f1 P hPs]; exact hd g hg
    have rec2 := fun m2 x7 x8 (g7 : q_c1 x7 = true) (g8 : q_c1 x8 = true) (f2 : FC m1 m2) (l2 : CJ T L s tx n h m2) => l_tally hP hP9 hPs hw hdr d c (i + 1) m2 x7 x8 g7 g8 (by omega) (fun g hg => by rw [f2 P hPs]; exact hd1 g hg) l2 (fun m' f' l' => hK m' (f1.trans (f2.trans f')) l')
    rw [show z_tl tx s dr (i + 1) = z_t1 tx s dr i (z_tl tx s dr i) from rfl] at rec2
    unfold z_t1 at rec2
    rcases z_kn_is tx s i (dr i) with q | ⟨q1, q2, q3⟩
    · rw [if_pos q] at rec2
      have e1 : ((-1 : Int32) < nI 0) = True := eq_true (by decide)
      simp only [u55_39, u55_41, u55_43, u55_46, u55_84, u55_87, q_push_s, q_push_n, q_sm_0, q_sm_i, q_sm_r, q_sm_n, q_sm_l, q_c1_0, q_c1_i, q_c1_r, q_c1_n, Nat.zero_add, Nat.reduceAdd, Nat.reduceMul, Nat.reduceSub, Nat.reduceLeDiff, Nat.reduceLT, Nat.reduceEqDiff, true_and, and_true, not_false_eq_true, if_true, if_false, ite_true, ite_false, or_true, true_or, or_false, false_or, not_true_eq_false, q, e1, n_add]
      exact rec2 m1 _ _ (of_eq_true (q_c1_i _)) (of_eq_true (q_c1_i _)) (FC.refl m1) l1
    · rw [if_neg q3] at rec2
      have e1 := n_lt0 (j := z_kni tx s i (dr i)) (by omega)
      simp only [u55_39, u55_41, u55_43, u55_46, u55_49, u55_52, u55_54, u55_55, u55_57, u55_58, u55_59, u55_61, u55_63, u55_64, u55_67, u55_68, u55_69, u55_71, u55_73, u55_75, q_push_s, q_push_n, q_sm_0, q_sm_i, q_sm_r, q_sm_n, q_sm_l, q_c1_0, q_c1_i, q_c1_r, q_c1_n, Nat.zero_add, Nat.reduceAdd, Nat.reduceMul, Nat.reduceSub, Nat.reduceLeDiff, Nat.reduceLT, Nat.reduceEqDiff, true_and, and_true, not_false_eq_true, if_true, if_false, ite_true, ite_false, or_true, true_or, or_false, false_or, not_true_eq_false, q2, e1, n_add, n_s1 i (by omega), n_or, l1.law, io2, Nat.zero_le, Nat.reduceLeDiff]
      refine l1.asking (d := d + 3) hlt hg2 (fun m2 f2 l2 hn2 => ?_)
      simp only [u55_78, q_push_s, q_push_n, q_sm_0, q_sm_i, q_sm_r, q_sm_n, q_sm_l, q_c1_0, q_c1_i, q_c1_r, q_c1_n, Nat.zero_add, Nat.reduceAdd, Nat.reduceMul, Nat.reduceSub, Nat.reduceLeDiff, Nat.reduceLT, Nat.reduceEqDiff, true_and, and_true, not_false_eq_true, if_true, if_false, ite_true, ite_false, or_true, true_or, or_false, false_or, not_true_eq_false, l2.iop, Nat.zero_le, Nat.reduceLeDiff]
      refine l2.says (d := d + 3) (p := 1) (by decide) hn2 (fun m3 f3 l3 => ?_)
      simp only [u55_81, u55_82, u55_84, u55_87, q_push_s, q_push_n, q_sm_0, q_sm_i, q_sm_r, q_sm_n, q_sm_l, q_c1_0, q_c1_i, q_c1_r, q_c1_n, Nat.zero_add, Nat.reduceAdd, Nat.reduceMul, Nat.reduceSub, Nat.reduceLeDiff, Nat.reduceLT, Nat.reduceEqDiff, true_and, and_true, not_false_eq_true, if_true, if_false, ite_true, ite_false, or_true, true_or, or_false, false_or, not_true_eq_false, n_add]
      exact rec2 m3 _ _ (of_eq_true (q_c1_i _)) (of_eq_true (q_c1_i _)) (f2.trans f3) l3
theorem CJ.tally {d P w : Nat} {dr : Nat → Nat} (l : CJ T L s tx n h m) (hP : (GG T L).1 P = .inl 6) (hP9 : P < 900) (hPs : ¬ (13 ≤ P ∧ P < 15)) (hw : w < 3) (hdr : ∀ g, g < s.1 0 → dr g < s.1 0) (hd : ∀ g, g < s.1 0 → m P g = nI (dr g)) (hK : ∀ m', FC m m' → CJ T L s tx n h m' → K (some (.int (nI (z_ta w (z_tl tx s dr (s.1 0)))))) (GG T L) m') : q_C 55 (d + 6) [.ref 2, .int (nI w), .ref P] (GG T L) m K := by
  simp only [e55, u55_0, u55_1, u55_2, u55_3, u55_5, u55_6, u55_8, u55_9, q_push_s, q_push_n, q_sm_0, q_sm_i, q_sm_r, q_sm_n, q_sm_l, q_c1_0, q_c1_i, q_c1_r, q_c1_n, Nat.zero_add, Nat.reduceAdd, Nat.reduceMul, Nat.reduceSub, Nat.reduceLeDiff, Nat.reduceLT, Nat.reduceEqDiff, true_and, and_true, not_false_eq_true, if_true, if_false, ite_true, ite_false, or_true, true_or, or_false, false_or, not_true_eq_false]
  exact l_tally hP hP9 hPs hw hdr d (s.1 0) 0 m _ _ (of_eq_true q_c1_0) (of_eq_true q_c1_0) (by omega) hd l hK
/-- the reference's evening -/
theorem l_goes (d : Nat) : ∀ c i m x2, i + c = s.1 0 → RJ s tx n h m → m 38 32 = nI (z_tl tx s (s.2.1 3) i).2.1 → m 38 33 = nI (z_tl tx s (s.2.1 3) i).2.2 → (∀ m', FM m m' → RJ s tx n h m' → m' 38 32 = nI (z_tl tx s (s.2.1 3) (s.1 0)).2.1 → m' 38 33 = nI (z_tl tx s (s.2.1 3) (s.1 0)).2.2 → K none (GG T L) m') →
    q_R 155 12 (d + 6) [some (.ref 38), some (.int (nI i)), x2] [] (GG T L) m K
  | 0, i, m, x2, hi, l, h1, h2, hK => by
    have h6 := l.bz.1
    have e : i = s.1 0 := by omega
    have e2 : ¬ i < s.1 0 := by omega
    rw [e] at h1 h2
    simp only [u155_12, u155_13, u155_14, u155_17, u155_83, q_push_s, q_push_n, q_sm_0, q_sm_i, q_sm_r, q_sm_n, q_sm_l, q_c1_0, q_c1_i, q_c1_r, q_c1_n, Nat.zero_add, Nat.reduceAdd, Nat.reduceMul, Nat.reduceSub, Nat.reduceLeDiff, Nat.reduceLT, Nat.reduceEqDiff, true_and, and_true, not_false_eq_true, if_true, if_false, ite_true, ite_false, or_true, true_or, or_false, false_or, not_true_eq_false, gf38_0, l.mo.n, n_lt (i := i) (j := s.1 0) (by omega) (by omega), e2]
    exact hK m (FM.refl m) l h1 h2
  | c + 1, i, m, x2, hi, l, h1, h2, hK => by
    have h6 := l.bz.1
    have hlt : i < s.1 0 := by omega
    have hg2 := (l.bz.2.2.2 i hlt).2.2.2.1
    rw [u155_12]
    simp only [u155_13, u155_14, u155_17, u155_20, u155_21, u155_22, q_push_s, q_push_n, q_sm_0, q_sm_i, q_sm_r, q_sm_n, q_sm_l, q_c1_0, q_c1_i, q_c1_r, q_c1_n, Nat.zero_add, Nat.reduceAdd, Nat.reduceMul, Nat.reduceSub, Nat.reduceLeDiff, Nat.reduceLT, Nat.reduceEqDiff, true_and, and_true, not_false_eq_true, if_true, if_false, ite_true, ite_false, or_true, true_or, or_false, false_or, not_true_eq_false, gf38_0, l.mo.n, n_lt (i := i) (j := s.1 0) (by omega) (by omega), hlt, io38, Nat.zero_le, Nat.reduceLeDiff]
    refine l.knownOf (d := d) hlt (fun m1 f1 l1 => ?_)
    have e38 : m1 38 = m 38 := f1 38 (by decide)
    have rec2 := fun m2 x2 (f2 : FM m m2) (l2 : RJ s tx n h m2) (a1 : m2 38 32 = _) (a2 : m2 38 33 = _) => l_goes d c (i + 1) m2 x2 (by omega) l2 a1 a2 (fun m' f' l' b1 b2 => hK m' (f2.trans f') l' b1 b2)
    rw [show z_tl tx s (s.2.1 3) (i + 1) = z_t1 tx s (s.2.1 3) i (z_tl tx s (s.2.1 3) i) from rfl] at rec2
    unfold z_t1 at rec2
    have fup : ∀ (v w : Int32) (m0 : q_M), FM m0 (q_up (q_up m0 38 32 v) 38 33 w) := fun v w m0 => ⟨fun k k1 _ => by rw [q_up_f _ _ _ k1, q_up_f _ _ _ k1], fun f hf => by rw [q_up_i _ _ (by omega), q_up_i _ _ (by omega)]⟩
    rcases z_kn_is tx s i (s.2.1 3 i) with q | ⟨q1, q2, q3⟩
    · rw [if_pos q] at rec2
      simp only [u155_25, u155_26, u155_27, u155_27r, u155_28, u155_31, u155_32, u155_33, u155_36, u155_37, u155_40, u155_41, u155_42, u155_43, u155_44, u155_47, u155_48, u155_48r, u155_49, u155_52, u155_53, u155_54, u155_57, u155_58, u155_61, u155_62, u155_63, u155_64, u155_65, u155_66, u155_69, u155_70, u155_73, u155_74, u155_77, u155_80, q_push_s, q_push_n, q_sm_0, q_sm_i, q_sm_r, q_sm_n, q_sm_l, q_c1_0, q_c1_i, q_c1_r, q_c1_n, Nat.zero_add, Nat.reduceAdd, Nat.reduceMul, Nat.reduceSub, Nat.reduceLeDiff, Nat.reduceLT, Nat.reduceEqDiff, true_and, and_true, not_false_eq_true, if_true, if_false, ite_true, ite_false, or_true, true_or, or_false, false_or, not_true_eq_false, q, gf38_32, gf38_33, pf38_32, pf38_33, e38, h1, h2, n_or0, n_add0, q_up_i, ne_eq, Nat.reduceEqDiff, n_add]
      have f2 := f1.fm.trans (fup (nI (z_tl tx s (s.2.1 3) i).2.1) (nI (z_tl tx s (s.2.1 3) i).2.2) m1)
      exact rec2 _ _ f2 (l.fr f2) (by rw [q_up_i _ _ (by decide), q_up_eq]) (q_up_eq _ _ _ _)
    · rw [if_neg q3] at rec2
      have e1 := (i_nm (j := z_kni tx s i (s.2.1 3 i)) (by omega)).2.1
      have fa : FM m1 (q_up m1 38 32 (nI ((z_tl tx s (s.2.1 3) i).2.1 ||| 2 ^ i))) := ⟨fun k k1 _ => q_up_f _ _ _ k1, fun f hf => q_up_i _ _ (by omega) _⟩
      have la := l1.fr fa
      simp only [u155_25, u155_26, u155_27, u155_27r, u155_28, u155_31, u155_32, u155_33, u155_36, u155_37, u155_40, u155_41, u155_42, u155_43, u155_44, u155_47, u155_48, u155_48r, u155_49, u155_52, u155_53, u155_54, u155_57, u155_58, u155_61, u155_62, u155_63, u155_64, u155_65, u155_66, u155_69, u155_70, e150, u150_0, u150_1, u150_4, u150_5, u150_6, u150_7, u150_8, u150_9, u150_10, q_push_s, q_push_n, q_sm_0, q_sm_i, q_sm_r, q_sm_n, q_sm_l, q_c1_0, q_c1_i, q_c1_r, q_c1_n, Nat.zero_add, Nat.reduceAdd, Nat.reduceMul, Nat.reduceSub, Nat.reduceLeDiff, Nat.reduceLT, Nat.reduceEqDiff, true_and, and_true, not_false_eq_true, if_true, if_false, ite_true, ite_false, or_true, true_or, or_false, false_or, not_true_eq_false, q2, e1, gf38_32, gf38_33, pf38_32, e38, h1, h2, q_up_i, ne_eq, Nat.reduceEqDiff, n_s1 i (by omega), n_or, io38, gf38_3, n_mul, n_add, q_up_f, ia41 (i := 3 * i + 1) (by omega), l1.mo.pl i hlt, Nat.zero_le, Nat.reduceLeDiff]
      refine la.asksOf (d := d + 3) (p := 1) (by decide) hlt hg2 (fun m2 f2 l2 => ?_)
      have e38b : m2 38 = q_up m1 38 32 (nI ((z_tl tx s (s.2.1 3) i).2.1 ||| 2 ^ i)) 38 := f2 38 (by decide)
      simp only [u155_73, u155_74, u155_77, u155_80, q_push_s, q_push_n, q_sm_0, q_sm_i, q_sm_r, q_sm_n, q_sm_l, q_c1_0, q_c1_i, q_c1_r, q_c1_n, Nat.zero_add, Nat.reduceAdd, Nat.reduceMul, Nat.reduceSub, Nat.reduceLeDiff, Nat.reduceLT, Nat.reduceEqDiff, true_and, and_true, not_false_eq_true, if_true, if_false, ite_true, ite_false, or_true, true_or, or_false, false_or, not_true_eq_false, pf38_33, n_add]
      have fb : FM m2 (q_up m2 38 33 (nI ((z_tl tx s (s.2.1 3) i).2.2 + z_ask tx s 1 i (s.2.1 3 i) (z_kni tx s i (s.2.1 3 i))))) := ⟨fun k k1 _ => q_up_f _ _ _ k1, fun f hf => q_up_i _ _ (by omega) _⟩
      have ft := ((f1.fm.trans fa).trans f2.fm).trans fb
      exact rec2 _ _ ft (l.fr ft) (by rw [q_up_i _ _ (by decide), e38b, q_up_eq]) (q_up_eq _ _ _ _)
theorem RJ.goes {d : Nat} (l : RJ s tx n h m) (hK : ∀ m', FM m m' → RJ s tx n h m' → m' 38 32 = nI (z_tl tx s (s.2.1 3) (s.1 0)).2.1 → m' 38 33 = nI (z_tl tx s (s.2.1 3) (s.1 0)).2.2 → K none (GG T L) m') : q_C 155 (d + 6) [.ref 38] (GG T L) m K := by
  have fup : ∀ (v w : Int32) (m0 : q_M), FM m0 (q_up (q_up m0 38 32 v) 38 33 w) := fun v w m0 => ⟨fun k k1 _ => by rw [q_up_f _ _ _ k1, q_up_f _ _ _ k1], fun f hf => by rw [q_up_i _ _ (by omega), q_up_i _ _ (by omega)]⟩
  simp only [e155, u155_0, u155_1, u155_2, u155_5, u155_6, u155_7, u155_10, u155_11, q_push_s, q_push_n, q_sm_0, q_sm_i, q_sm_r, q_sm_n, q_sm_l, q_c1_0, q_c1_i, q_c1_r, q_c1_n, Nat.zero_add, Nat.reduceAdd, Nat.reduceMul, Nat.reduceSub, Nat.reduceLeDiff, Nat.reduceLT, Nat.reduceEqDiff, true_and, and_true, not_false_eq_true, if_true, if_false, ite_true, ite_false, or_true, true_or, or_false, false_or, not_true_eq_false, pf38_32, pf38_33]
  have f := fup (nI 0) (nI 0) m
  exact l_goes d (s.1 0) 0 _ _ (by omega) (l.fr f) (by rw [q_up_i _ _ (by decide), q_up_eq]; rfl) (by rw [q_up_eq]; rfl) (fun m' f' l' => hK m' (f.trans f') l')
end
section
variable {T : List Nat} {L d : Nat} {xs : Nat → Int32} {s : ZS} {tx : Nat → Nat → List Nat} {n : Nat} {tp : Nat → Nat} {z : Nat} {h : ZH} {wd : Nat → Int32} {m m1 m2 : q_M} {K : Option Value → Option Value → q_G → q_M → Prop}
theorem p_evening (l : LJ T L xs s tx n tp z h wd m) (a : Int32) (hK : ∀ r m', LJ T L xs s tx n tp z h wd m' → K (some (.int r)) (some (.int r)) (GG T L) m') :
    q_C 72 (d + 7) [.ref 0, .int a] (GG T L) m (fun v g m => q_C 156 (d + 7) [.ref 38, .int a] g m (fun v' g m => K v v' g m)) := by
  have h6 := l.bz.1
  by_cases ha : z_is a 3
  · obtain ⟨w, hw, rfl⟩ := z_is_n ha
    have w0 := n_lt0 (j := w) (by omega)
    have w1 := n_le (i := w) (j := 2) (by omega) (by decide)
    have w2 : w ≤ 2 := by omega
    simp only [e72, u72_0, u72_1, u72_4, u72_5, u72_6, u72_9, u72_11, u72_12, u72_13, u72_16, u72_17, u72_18, u72_21, u72_24, u72_27, e72, q_push_s, q_push_n, q_sm_0, q_sm_i, q_sm_r, q_sm_n, q_sm_l, q_c1_0, q_c1_i, q_c1_r, q_c1_n, Nat.zero_add, Nat.reduceAdd, Nat.reduceMul, Nat.reduceSub, Nat.reduceLeDiff, Nat.reduceLT, Nat.reduceEqDiff, true_and, and_true, not_false_eq_true, if_true, if_false, ite_true, ite_false, or_true, true_or, or_false, false_or, not_true_eq_false, gf0_1, gf0_2, gf3_6, io2, w0, w1, w2, Nat.zero_le, Nat.reduceLeDiff]
    refine l.cj.tally (dr := s.2.1 3) sh7 (by decide) (by decide) hw (fun g hg => (l.bz.2.2.2 g hg).2.2.2.1) (fun g hg => l.cl.pl g hg) (fun m1 f1 l1 => ?_)
    have lj1 := l.fr f1.fr
    simp only [u72_27, u156_0, u156_1, u156_2, u156_3, u156_6, u156_9, u156_11, u156_12, u156_13, e156, q_push_s, q_push_n, q_sm_0, q_sm_i, q_sm_r, q_sm_n, q_sm_l, q_c1_0, q_c1_i, q_c1_r, q_c1_n, Nat.zero_add, Nat.reduceAdd, Nat.reduceMul, Nat.reduceSub, Nat.reduceLeDiff, Nat.reduceLT, Nat.reduceEqDiff, true_and, and_true, not_false_eq_true, if_true, if_false, ite_true, ite_false, or_true, true_or, or_false, false_or, not_true_eq_false, io38, c_in, and_self, w0, w1, w2, z_b_z, Nat.zero_le, Nat.reduceLeDiff]
    refine lj1.rj.goes (fun m2 f2 l2 h1 h2 => ?_)
    have lj2 := lj1.fr f2.fr
    obtain ⟨b1, b2, b3, b4⟩ := z_tl_b tx s (s.2.1 3) (s.1 0) h6
    have b64 : (z_tl tx s (s.2.1 3) (s.1 0)).2.1 < 64 := Nat.lt_of_lt_of_le b2 (Nat.pow_le_pow_right (by decide) (show s.1 0 ≤ 6 from h6))
    have hw' : w = 0 ∨ w = 1 ∨ w = 2 := by omega
    unfold z_ta
    rcases hw' with rfl | rfl | rfl
    · simp only [u156_16, u156_17, u156_20, u156_21, u156_24, u156_27, u156_30, u156_31, u156_32, u156_35, u156_36, u156_39, u156_42, u156_43, u156_46, q_push_s, q_push_n, q_sm_0, q_sm_i, q_sm_r, q_sm_n, q_sm_l, q_c1_0, q_c1_i, q_c1_r, q_c1_n, Nat.zero_add, Nat.reduceAdd, Nat.reduceMul, Nat.reduceSub, Nat.reduceLeDiff, Nat.reduceLT, Nat.reduceEqDiff, true_and, and_true, not_false_eq_true, if_true, if_false, ite_true, ite_false, or_true, true_or, or_false, false_or, not_true_eq_false, eq_self, lq_0_1, lq_0_2, lq_0_3, lq_0_4, lq_0_5, lq_0_6, lq_1_0, lq_1_2, lq_1_3, lq_1_4, lq_1_5, lq_1_6, lq_2_0, lq_2_1, lq_2_3, lq_2_4, lq_2_5, lq_2_6, lq_3_0, lq_3_1, lq_3_2, lq_3_4, lq_3_5, lq_3_6, lq_4_0, lq_4_1, lq_4_2, lq_4_3, lq_4_5, lq_4_6, lq_5_0, lq_5_1, lq_5_2, lq_5_3, lq_5_4, lq_5_6, lq_6_0, lq_6_1, lq_6_2, lq_6_3, lq_6_4, lq_6_5, ll_0_0, ll_0_1, ll_0_2, ll_0_3, ll_0_4, ll_0_5, ll_0_6, ll_1_0, ll_1_1, ll_1_2, ll_1_3, ll_1_4, ll_1_5, ll_1_6, ll_2_0, ll_2_1, ll_2_2, ll_2_3, ll_2_4, ll_2_5, ll_2_6, ll_3_0, ll_3_1, ll_3_2, ll_3_3, ll_3_4, ll_3_5, ll_3_6, ll_4_0, ll_4_1, ll_4_2, ll_4_3, ll_4_4, ll_4_5, ll_4_6, ll_5_0, ll_5_1, ll_5_2, ll_5_3, ll_5_4, ll_5_5, ll_5_6, ll_6_0, ll_6_1, ll_6_2, ll_6_3, ll_6_4, ll_6_5, ll_6_6, le_0_0, le_0_1, le_0_2, le_0_3, le_0_4, le_0_5, le_0_6, le_1_0, le_1_1, le_1_2, le_1_3, le_1_4, le_1_5, le_1_6, le_2_0, le_2_1, le_2_2, le_2_3, le_2_4, le_2_5, le_2_6, le_3_0, le_3_1, le_3_2, le_3_3, le_3_4, le_3_5, le_3_6, le_4_0, le_4_1, le_4_2, le_4_3, le_4_4, le_4_5, le_4_6, le_5_0, le_5_1, le_5_2, le_5_3, le_5_4, le_5_5, le_5_6, le_6_0, le_6_1, le_6_2, le_6_3, le_6_4, le_6_5, le_6_6, gf38_32, gf38_33, h1, h2, c_ones b64, b4, Nat.zero_le]
      exact hK _ _ lj2
    · simp only [u156_16, u156_17, u156_20, u156_21, u156_24, u156_27, u156_30, u156_31, u156_32, u156_35, u156_36, u156_39, u156_42, u156_43, u156_46, q_push_s, q_push_n, q_sm_0, q_sm_i, q_sm_r, q_sm_n, q_sm_l, q_c1_0, q_c1_i, q_c1_r, q_c1_n, Nat.zero_add, Nat.reduceAdd, Nat.reduceMul, Nat.reduceSub, Nat.reduceLeDiff, Nat.reduceLT, Nat.reduceEqDiff, true_and, and_true, not_false_eq_true, if_true, if_false, ite_true, ite_false, or_true, true_or, or_false, false_or, not_true_eq_false, eq_self, lq_0_1, lq_0_2, lq_0_3, lq_0_4, lq_0_5, lq_0_6, lq_1_0, lq_1_2, lq_1_3, lq_1_4, lq_1_5, lq_1_6, lq_2_0, lq_2_1, lq_2_3, lq_2_4, lq_2_5, lq_2_6, lq_3_0, lq_3_1, lq_3_2, lq_3_4, lq_3_5, lq_3_6, lq_4_0, lq_4_1, lq_4_2, lq_4_3, lq_4_5, lq_4_6, lq_5_0, lq_5_1, lq_5_2, lq_5_3, lq_5_4, lq_5_6, lq_6_0, lq_6_1, lq_6_2, lq_6_3, lq_6_4, lq_6_5, ll_0_0, ll_0_1, ll_0_2, ll_0_3, ll_0_4, ll_0_5, ll_0_6, ll_1_0, ll_1_1, ll_1_2, ll_1_3, ll_1_4, ll_1_5, ll_1_6, ll_2_0, ll_2_1, ll_2_2, ll_2_3, ll_2_4, ll_2_5, ll_2_6, ll_3_0, ll_3_1, ll_3_2, ll_3_3, ll_3_4, ll_3_5, ll_3_6, ll_4_0, ll_4_1, ll_4_2, ll_4_3, ll_4_4, ll_4_5, ll_4_6, ll_5_0, ll_5_1, ll_5_2, ll_5_3, ll_5_4, ll_5_5, ll_5_6, ll_6_0, ll_6_1, ll_6_2, ll_6_3, ll_6_4, ll_6_5, ll_6_6, le_0_0, le_0_1, le_0_2, le_0_3, le_0_4, le_0_5, le_0_6, le_1_0, le_1_1, le_1_2, le_1_3, le_1_4, le_1_5, le_1_6, le_2_0, le_2_1, le_2_2, le_2_3, le_2_4, le_2_5, le_2_6, le_3_0, le_3_1, le_3_2, le_3_3, le_3_4, le_3_5, le_3_6, le_4_0, le_4_1, le_4_2, le_4_3, le_4_4, le_4_5, le_4_6, le_5_0, le_5_1, le_5_2, le_5_3, le_5_4, le_5_5, le_5_6, le_6_0, le_6_1, le_6_2, le_6_3, le_6_4, le_6_5, le_6_6, gf38_32, gf38_33, h1, h2]
      exact hK _ _ lj2
    · simp only [u156_16, u156_17, u156_20, u156_21, u156_24, u156_27, u156_30, u156_31, u156_32, u156_35, u156_36, u156_39, u156_42, u156_43, u156_46, q_push_s, q_push_n, q_sm_0, q_sm_i, q_sm_r, q_sm_n, q_sm_l, q_c1_0, q_c1_i, q_c1_r, q_c1_n, Nat.zero_add, Nat.reduceAdd, Nat.reduceMul, Nat.reduceSub, Nat.reduceLeDiff, Nat.reduceLT, Nat.reduceEqDiff, true_and, and_true, not_false_eq_true, if_true, if_false, ite_true, ite_false, or_true, true_or, or_false, false_or, not_true_eq_false, eq_self, lq_0_1, lq_0_2, lq_0_3, lq_0_4, lq_0_5, lq_0_6, lq_1_0, lq_1_2, lq_1_3, lq_1_4, lq_1_5, lq_1_6, lq_2_0, lq_2_1, lq_2_3, lq_2_4, lq_2_5, lq_2_6, lq_3_0, lq_3_1, lq_3_2, lq_3_4, lq_3_5, lq_3_6, lq_4_0, lq_4_1, lq_4_2, lq_4_3, lq_4_5, lq_4_6, lq_5_0, lq_5_1, lq_5_2, lq_5_3, lq_5_4, lq_5_6, lq_6_0, lq_6_1, lq_6_2, lq_6_3, lq_6_4, lq_6_5, ll_0_0, ll_0_1, ll_0_2, ll_0_3, ll_0_4, ll_0_5, ll_0_6, ll_1_0, ll_1_1, ll_1_2, ll_1_3, ll_1_4, ll_1_5, ll_1_6, ll_2_0, ll_2_1, ll_2_2, ll_2_3, ll_2_4, ll_2_5, ll_2_6, ll_3_0, ll_3_1, ll_3_2, ll_3_3, ll_3_4, ll_3_5, ll_3_6, ll_4_0, ll_4_1, ll_4_2, ll_4_3, ll_4_4, ll_4_5, ll_4_6, ll_5_0, ll_5_1, ll_5_2, ll_5_3, ll_5_4, ll_5_5, ll_5_6, ll_6_0, ll_6_1, ll_6_2, ll_6_3, ll_6_4, ll_6_5, ll_6_6, le_0_0, le_0_1, le_0_2, le_0_3, le_0_4, le_0_5, le_0_6, le_1_0, le_1_1, le_1_2, le_1_3, le_1_4, le_1_5, le_1_6, le_2_0, le_2_1, le_2_2, le_2_3, le_2_4, le_2_5, le_2_6, le_3_0, le_3_1, le_3_2, le_3_3, le_3_4, le_3_5, le_3_6, le_4_0, le_4_1, le_4_2, le_4_3, le_4_4, le_4_5, le_4_6, le_5_0, le_5_1, le_5_2, le_5_3, le_5_4, le_5_5, le_5_6, le_6_0, le_6_1, le_6_2, le_6_3, le_6_4, le_6_5, le_6_6, gf38_32, gf38_33, h1, h2]
      exact hK _ _ lj2
  · rcases z_is_f (n := 2) (by decide) ha with q | ⟨q1, q2⟩
    · simp only [e72, u72_0, u72_1, u72_4, u72_5, u72_6, u72_9, u72_11, u72_12, u72_13, u72_16, u72_17, u72_18, u72_21, u72_24, u72_27, e72, u156_0, u156_1, u156_2, u156_3, u156_6, u156_9, u156_11, e156, q_push_s, q_push_n, q_sm_0, q_sm_i, q_sm_r, q_sm_n, q_sm_l, q_c1_0, q_c1_i, q_c1_r, q_c1_n, Nat.zero_add, Nat.reduceAdd, Nat.reduceMul, Nat.reduceSub, Nat.reduceLeDiff, Nat.reduceLT, Nat.reduceEqDiff, true_and, and_true, not_false_eq_true, if_true, if_false, ite_true, ite_false, or_true, true_or, or_false, false_or, not_true_eq_false, q, c_in, false_and, z_b_z, Nat.zero_le, Nat.reduceLeDiff]
      exact hK _ _ l
    · simp only [e72, u72_0, u72_1, u72_4, u72_5, u72_6, u72_9, u72_11, u72_12, u72_13, u72_16, u72_17, u72_18, u72_21, u72_24, u72_27, e72, u156_0, u156_1, u156_2, u156_3, u156_6, u156_9, u156_11, e156, q_push_s, q_push_n, q_sm_0, q_sm_i, q_sm_r, q_sm_n, q_sm_l, q_c1_0, q_c1_i, q_c1_r, q_c1_n, Nat.zero_add, Nat.reduceAdd, Nat.reduceMul, Nat.reduceSub, Nat.reduceLeDiff, Nat.reduceLT, Nat.reduceEqDiff, true_and, and_true, not_false_eq_true, if_true, if_false, ite_true, ite_false, or_true, true_or, or_false, false_or, not_true_eq_false, q1, q2, c_in, and_false, z_b_z, Nat.zero_le, Nat.reduceLeDiff]
      exact hK _ _ l
end
