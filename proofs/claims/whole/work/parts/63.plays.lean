/-! ===== drawn, lots ===== -/
/-- the state in which each plays as drawn -/
def z_pl' (s : ZS) (dr : Nat → Nat) : ZS := (s.1, fun r g => if r = 3 then dr g else s.2.1 r g, s.2.2)
theorem z_nm_pl (s : ZS) (dr : Nat → Nat) (g o j : Nat) : z_nm (z_pl' s dr) g o j = z_nm s g o j := by
  funext c
  unfold z_nm
  split <;> rfl
theorem z_ask_pl (tx : Nat → Nat → List Nat) (s : ZS) (dr : Nat → Nat) (p g o j : Nat) : z_ask tx (z_pl' s dr) p g o j = z_ask tx s p g o j := by
  unfold z_ask
  rw [z_nm_pl]
  rfl
theorem z_well_pl (tx : Nat → Nat → List Nat) (s : ZS) (dr : Nat → Nat) (g o j : Nat) : z_well tx (z_pl' s dr) g o j = z_well tx s g o j := by
  unfold z_well
  rw [z_ask_pl]
  rfl
theorem z_do_pl (tx : Nat → Nat → List Nat) (s : ZS) (dr : Nat → Nat) (g o j : Nat) : z_do tx (z_pl' s dr) g o j = z_do tx s g o j := by
  unfold z_do
  rw [z_well_pl]
  rfl
theorem z_oth_pl (tx : Nat → Nat → List Nat) (s : ZS) (dr : Nat → Nat) (g o : Nat) : z_oth tx (z_pl' s dr) g o = z_oth tx s g o := by
  funext j
  unfold z_oth
  rw [z_do_pl]
  rfl
theorem z_kn_pl (tx : Nat → Nat → List Nat) (s : ZS) (dr : Nat → Nat) (g o : Nat) : z_kn tx (z_pl' s dr) g o = z_kn tx s g o := by
  unfold z_kn
  rw [z_oth_pl]
theorem z_tl_pl (tx : Nat → Nat → List Nat) (s : ZS) (dr dr2 : Nat → Nat) : ∀ k, z_tl tx (z_pl' s dr) dr2 k = z_tl tx s dr2 k
  | 0 => rfl
  | k + 1 => by
    show z_t1 tx (z_pl' s dr) dr2 k (z_tl tx (z_pl' s dr) dr2 k) = z_t1 tx s dr2 k (z_tl tx s dr2 k)
    rw [z_tl_pl tx s dr dr2 k]
    unfold z_t1 z_kni
    rw [z_kn_pl, z_ask_pl]
theorem z_tl_c (tx : Nat → Nat → List Nat) (s : ZS) {dr dr2 : Nat → Nat} : ∀ k, (∀ g, g < k → dr g = dr2 g) → z_tl tx s dr k = z_tl tx s dr2 k
  | 0, _ => rfl
  | k + 1, h => by
    show z_t1 tx s dr k (z_tl tx s dr k) = z_t1 tx s dr2 k (z_tl tx s dr2 k)
    rw [z_tl_c tx s k (fun g hg => h g (by omega))]
    unfold z_t1
    rw [h k (by omega)]
theorem BZ.pl {s : ZS} (hB : BZ s) {dr : Nat → Nat} (hd : ∀ g, g < s.1 0 → dr g < s.1 0) : BZ (z_pl' s dr) := ⟨hB.1, hB.2.1, hB.2.2.1, fun g hg => by
  have hb := hB.2.2.2 g hg
  exact ⟨hb.1, hb.2.1, hb.2.2.1, hd g hg, hb.2.2.2.2⟩⟩
section
variable {T : List Nat} {L : Nat} {s : ZS} {tx : Nat → Nat → List Nat} {n : Nat} {h : ZH} {m m' : q_M} {K : Option Value → q_G → q_M → Prop}
/-- whom all play, put anew -/
theorem IMo.pl' {dr : Nat → Nat} (hM : IMo s m) (h38 : m' 38 0 = m 38 0 ∧ m' 38 5 = m 38 5 ∧ m' 38 11 = m 38 11) (hk : ∀ k, k = 39 ∨ k = 40 ∨ k = 42 → m' k = m k) (h1 : ∀ g, g < s.1 0 → m' 41 (3 * g + 1) = nI (dr g)) (h2 : ∀ x, x % 3 ≠ 1 → m' 41 x = m 41 x) : IMo (z_pl' s dr) m' := by
  refine ⟨⟨h38.1.trans hM.n, h38.2.1.trans hM.nt, h38.2.2.trans hM.lw⟩, fun g hg => ?_, fun g hg r hr => ?_, fun i hi => ?_⟩
  · rw [hk 39 (by decide), hk 40 (by decide)]; exact hM.2.1 g hg
  · have hr' : r = 0 ∨ r = 1 ∨ r = 2 := by omega
    rcases hr' with rfl | rfl | rfl
    · rw [h2 _ (by omega)]; exact hM.2.2.1 g hg 0 (by decide)
    · exact h1 g hg
    · rw [h2 _ (by omega)]; exact hM.2.2.1 g hg 2 (by decide)
  · rw [hk 42 (by decide)]; exact hM.of i hi
theorem l_plays1 {N : Nat} (hN : N ≤ 6) (d : Nat) : ∀ c i m, i + c = N → m 38 0 = nI N → (∀ m', (∀ p, p ≠ 41 → p ≠ 57 → m' p = m p) → (∀ x, x % 3 ≠ 1 → m' 41 x = m 41 x) → (∀ g, g < N → m' 41 (3 * g + 1) = if i ≤ g then m 56 g else m 41 (3 * g + 1)) → (∀ g, g < N → m' 57 g = if i ≤ g then m 41 (3 * g + 1) else m 57 g) → q_R 169 48 d [some (.ref 38), some (.int (nI N))] [] (GG T L) m' K) →
    q_R 169 2 d [some (.ref 38), some (.int (nI i))] [] (GG T L) m K
  | 0, i, m, hi, h0, hK => by
    have e : i = N := by omega
    subst e
    simp only [u169_2, u169_3, u169_4, u169_7, q_push_s, q_push_n, q_sm_0, q_sm_i, q_sm_r, q_sm_n, q_sm_l, q_c1_0, q_c1_i, q_c1_r, q_c1_n, Nat.zero_add, Nat.reduceAdd, Nat.reduceMul, Nat.reduceSub, Nat.reduceLeDiff, Nat.reduceLT, Nat.reduceEqDiff, true_and, and_true, not_false_eq_true, if_true, if_false, ite_true, ite_false, or_true, true_or, or_false, false_or, not_true_eq_false, gf38_0, h0, n_lt (i := i) (j := i) (by omega) (by omega), Nat.lt_irrefl]
    exact hK m (fun _ _ _ => rfl) (fun _ _ => rfl) (fun g hg => by rw [if_neg (by omega)]) (fun g hg => by rw [if_neg (by omega)])
  | c + 1, i, m, hi, h0, hK => by
    have e : i < N := by omega
    have ci : (nI i).toNatClampNeg = i := n_cl (by omega)
    have c3 : (nI (3 * i + 1)).toNatClampNeg = 3 * i + 1 := n_cl (by omega)
    rw [u169_2]
    simp only [u169_3, u169_4, u169_7, u169_10, u169_11, u169_14, u169_15, u169_16, u169_19, u169_20, u169_21, u169_22, u169_23, u169_24, u169_25, u169_26, u169_27, u169_30, u169_31, u169_32, u169_33, u169_34, u169_35, u169_36, u169_39, u169_40, u169_41, u169_42, u169_45, q_push_s, q_push_n, q_sm_0, q_sm_i, q_sm_r, q_sm_n, q_sm_l, q_c1_0, q_c1_i, q_c1_r, q_c1_n, Nat.zero_add, Nat.reduceAdd, Nat.reduceMul, Nat.reduceSub, Nat.reduceLeDiff, Nat.reduceLT, Nat.reduceEqDiff, true_and, and_true, not_false_eq_true, if_true, if_false, ite_true, ite_false, or_true, true_or, or_false, false_or, not_true_eq_false, gf38_0, gf38_3, gf38_35, gf38_37, h0, n_lt (i := i) (j := N) (by omega) (by omega), e, n_mul, n_add, ia41 (i := 3 * i + 1) (by omega), is57 (i := i) (by omega), ia56 (i := i) (by omega), is41 (i := 3 * i + 1) (by omega), ci, c3, q_up_f, ne_eq, Nat.reduceEqDiff]
    refine l_plays1 hN d c (i + 1) _ (by omega) ?_ (fun m' f1 f2 f3 f4 => hK m' (fun p p1 p2 => ?_) (fun x hx => ?_) (fun g hg => ?_) (fun g hg => ?_))
    · rw [q_up_f _ _ _ (by decide), q_up_f _ _ _ (by decide)]; exact h0
    · rw [f1 p p1 p2, q_up_f _ _ _ p1, q_up_f _ _ _ p2]
    · rw [f2 x hx, q_up_i _ _ (by omega), q_up_f _ _ _ (by decide)]
    · rw [f3 g hg]
      by_cases q : g = i
      · subst q
        rw [if_neg (by omega), if_pos (by omega), q_up_eq]
      · rw [q_up_i _ _ (show 3 * g + 1 ≠ 3 * i + 1 by omega), q_up_f _ _ _ (show 41 ≠ 57 by decide), q_up_f _ _ _ (show 56 ≠ 41 by decide), q_up_f _ _ _ (show 56 ≠ 57 by decide)]
        by_cases q2 : i ≤ g
        · rw [if_pos q2, if_pos (by omega)]
        · rw [if_neg q2, if_neg (by omega)]
    · rw [f4 g hg]
      by_cases q : g = i
      · subst q
        rw [if_neg (by omega), if_pos (by omega), q_up_f _ _ _ (by decide), q_up_eq]
      · rw [q_up_i _ _ (show 3 * g + 1 ≠ 3 * i + 1 by omega), q_up_f _ _ _ (show 41 ≠ 57 by decide), q_up_f _ _ _ (show 57 ≠ 41 by decide), q_up_i _ _ q]
        by_cases q2 : i ≤ g
        · rw [if_pos q2, if_pos (by omega)]
        · rw [if_neg q2, if_neg (by omega)]
theorem l_plays2 {N : Nat} (hN : N ≤ 6) (d : Nat) : ∀ c i m, i + c = N → m 38 0 = nI N → (∀ m', (∀ p, p ≠ 41 → m' p = m p) → (∀ x, x % 3 ≠ 1 → m' 41 x = m 41 x) → (∀ g, g < N → m' 41 (3 * g + 1) = if i ≤ g then m 57 g else m 41 (3 * g + 1)) → K none (GG T L) m') →
    q_R 169 54 d [some (.ref 38), some (.int (nI i))] [] (GG T L) m K
  | 0, i, m, hi, h0, hK => by
    have e : i = N := by omega
    subst e
    simp only [u169_54, u169_55, u169_56, u169_59, u169_84, q_push_s, q_push_n, q_sm_0, q_sm_i, q_sm_r, q_sm_n, q_sm_l, q_c1_0, q_c1_i, q_c1_r, q_c1_n, Nat.zero_add, Nat.reduceAdd, Nat.reduceMul, Nat.reduceSub, Nat.reduceLeDiff, Nat.reduceLT, Nat.reduceEqDiff, true_and, and_true, not_false_eq_true, if_true, if_false, ite_true, ite_false, or_true, true_or, or_false, false_or, not_true_eq_false, gf38_0, h0, n_lt (i := i) (j := i) (by omega) (by omega), Nat.lt_irrefl]
    exact hK m (fun _ _ => rfl) (fun _ _ => rfl) (fun g hg => by rw [if_neg (by omega)])
  | c + 1, i, m, hi, h0, hK => by
    have e : i < N := by omega
    have c3 : (nI (3 * i + 1)).toNatClampNeg = 3 * i + 1 := n_cl (by omega)
    rw [u169_54]
    simp only [u169_55, u169_56, u169_59, u169_62, u169_63, u169_66, u169_67, u169_68, u169_69, u169_70, u169_71, u169_72, u169_75, u169_76, u169_77, u169_78, u169_81, q_push_s, q_push_n, q_sm_0, q_sm_i, q_sm_r, q_sm_n, q_sm_l, q_c1_0, q_c1_i, q_c1_r, q_c1_n, Nat.zero_add, Nat.reduceAdd, Nat.reduceMul, Nat.reduceSub, Nat.reduceLeDiff, Nat.reduceLT, Nat.reduceEqDiff, true_and, and_true, not_false_eq_true, if_true, if_false, ite_true, ite_false, or_true, true_or, or_false, false_or, not_true_eq_false, gf38_0, gf38_3, gf38_37, h0, n_lt (i := i) (j := N) (by omega) (by omega), e, n_mul, n_add, ia57 (i := i) (by omega), is41 (i := 3 * i + 1) (by omega), c3]
    refine l_plays2 hN d c (i + 1) _ (by omega) ?_ (fun m' f1 f2 f3 => hK m' (fun p p1 => ?_) (fun x hx => ?_) (fun g hg => ?_))
    · rw [q_up_f _ _ _ (by decide)]; exact h0
    · rw [f1 p p1, q_up_f _ _ _ p1]
    · rw [f2 x hx, q_up_i _ _ (by omega)]
    · rw [f3 g hg]
      by_cases q : g = i
      · subst q
        rw [if_neg (by omega), if_pos (by omega), q_up_eq]
      · rw [q_up_i _ _ (show 3 * g + 1 ≠ 3 * i + 1 by omega), q_up_f _ _ _ (show 57 ≠ 41 by decide)]
        by_cases q2 : i ≤ g
        · rw [if_pos q2, if_pos (by omega)]
        · rw [if_neg q2, if_neg (by omega)]
/-- what an evening in thought may change -/
def FP (m m' : q_M) : Prop := (∀ k, k ≠ 38 → ¬ (53 ≤ k ∧ k < 55) → k ≠ 41 → k ≠ 57 → m' k = m k) ∧ ∀ f, f < 21 → m' 38 f = m 38 f
theorem RJ.fp (l : RJ s tx n h m) (f : FP m m') (hM : IMo s m') : RJ s tx n h m' := by
  obtain ⟨a, c, e, i, j⟩ := l
  exact ⟨a, hM, e.fr (f.1 44 (by decide) (by decide) (by decide) (by decide)) (f.1 45 (by decide) (by decide) (by decide) (by decide)), i.fr (fun k h1 h2 => f.1 k (by omega) (by omega) (by omega) (by omega)), (f.2 10 (by decide)).trans j⟩
theorem RJ.plays {d : Nat} {dr : Nat → Nat} (l : RJ s tx n h m) (hd : ∀ g, g < s.1 0 → m 56 g = nI (dr g)) (hdl : ∀ g, g < s.1 0 → dr g < s.1 0) (hK : ∀ m', FP m m' → RJ s tx n h m' → m' 38 32 = nI (z_tl tx s dr (s.1 0)).2.1 → m' 38 33 = nI (z_tl tx s dr (s.1 0)).2.2 → K none (GG T L) m') : q_C 169 (d + 7) [.ref 38] (GG T L) m K := by
  have h6 := l.bz.1
  simp only [e169, u169_0, u169_1, q_push_s, q_push_n, q_sm_0, q_sm_i, q_sm_r, q_sm_n, q_sm_l, q_c1_0, q_c1_i, q_c1_r, q_c1_n, Nat.zero_add, Nat.reduceAdd, Nat.reduceMul, Nat.reduceSub, Nat.reduceLeDiff, Nat.reduceLT, Nat.reduceEqDiff, true_and, and_true, not_false_eq_true, if_true, if_false, ite_true, ite_false, or_true, true_or, or_false, false_or, not_true_eq_false]
  refine l_plays1 h6 _ (s.1 0) 0 m (by omega) l.mo.n (fun m1 f1 f2 f3 f4 => ?_)
  have e38 : m1 38 = m 38 := f1 38 (by decide) (by decide)
  have hM1 : IMo (z_pl' s dr) m1 := l.mo.pl' (by rw [e38]; exact ⟨rfl, rfl, rfl⟩) (fun k hk => f1 k (by omega) (by omega)) (fun g hg => by rw [f3 g hg, if_pos (Nat.zero_le g)]; exact hd g hg) f2
  have l1 : RJ (z_pl' s dr) tx n h m1 := by
    obtain ⟨a, c, e, i, j⟩ := l
    exact ⟨⟨a.1.pl hdl, a.2⟩, hM1, e.fr (f1 44 (by decide) (by decide)) (f1 45 (by decide) (by decide)), i.fr (fun k h1 h2 => f1 k (by omega) (by omega)), by rw [e38]; exact j⟩
  simp only [u169_48, u169_49, q_push_s, q_push_n, q_sm_0, q_sm_i, q_sm_r, q_sm_n, q_sm_l, q_c1_0, q_c1_i, q_c1_r, q_c1_n, Nat.zero_add, Nat.reduceAdd, Nat.reduceMul, Nat.reduceSub, Nat.reduceLeDiff, Nat.reduceLT, Nat.reduceEqDiff, true_and, and_true, not_false_eq_true, if_true, if_false, ite_true, ite_false, or_true, true_or, or_false, false_or, not_true_eq_false, io38, Nat.zero_le, Nat.reduceLeDiff]
  refine l1.goes (d := d) (fun m2 g1 l2 w1 w2 => ?_)
  rw [show z_tl tx (z_pl' s dr) ((z_pl' s dr).2.1 3) ((z_pl' s dr).1 0) = z_tl tx (z_pl' s dr) dr (s.1 0) from rfl, z_tl_pl] at w1 w2
  simp only [u169_52, u169_53, q_push_s, q_push_n, q_sm_0, q_sm_i, q_sm_r, q_sm_n, q_sm_l, q_c1_0, q_c1_i, q_c1_r, q_c1_n, Nat.zero_add, Nat.reduceAdd, Nat.reduceMul, Nat.reduceSub, Nat.reduceLeDiff, Nat.reduceLT, Nat.reduceEqDiff, true_and, and_true, not_false_eq_true, if_true, if_false, ite_true, ite_false, or_true, true_or, or_false, false_or, not_true_eq_false]
  refine l_plays2 h6 _ (s.1 0) 0 m2 (by omega) l2.mo.n (fun m3 u1 u2 u3 => ?_)
  have e38b : m3 38 = m2 38 := u1 38 (by decide)
  have hf : FP m m3 := ⟨fun k k1 k2 k3 k4 => by rw [u1 k k3, g1.1 k k1 k2, f1 k k3 k4], fun f hf => by rw [e38b, g1.2 f hf, e38]⟩
  have e41 : m2 41 = m1 41 := g1.1 41 (by decide) (by decide)
  have e57 : m2 57 = m1 57 := g1.1 57 (by decide) (by decide)
  refine hK m3 hf (l.fp hf ?_) (by rw [e38b]; exact w1) (by rw [e38b]; exact w2)
  refine ⟨⟨(hf.2 0 (by decide)).trans l.mo.n, (hf.2 5 (by decide)).trans l.mo.nt, (hf.2 11 (by decide)).trans l.mo.lw⟩, fun g hg => ?_, fun g hg r hr => ?_, fun i hi => ?_⟩
  · rw [hf.1 39 (by decide) (by decide) (by decide) (by decide), hf.1 40 (by decide) (by decide) (by decide) (by decide)]; exact l.mo.2.1 g hg
  · have hr' : r = 0 ∨ r = 1 ∨ r = 2 := by omega
    rcases hr' with rfl | rfl | rfl
    · rw [u2 _ (by omega), e41, f2 _ (by omega)]; exact l.mo.2.2.1 g hg 0 (by decide)
    · rw [u3 g hg, if_pos (Nat.zero_le g), e57, f4 g hg, if_pos (Nat.zero_le g)]; exact l.mo.pl g hg
    · rw [u2 _ (by omega), e41, f2 _ (by omega)]; exact l.mo.2.2.1 g hg 2 (by decide)
  · rw [hf.1 42 (by decide) (by decide) (by decide) (by decide)]; exact l.mo.of i hi
end
section
variable {T : List Nat} {L d : Nat} {xs : Nat → Int32} {s : ZS} {tx : Nat → Nat → List Nat} {n : Nat} {tp : Nat → Nat} {z : Nat} {h : ZH} {wd : Nat → Int32} {m m1 m2 : q_M} {K : Option Value → Option Value → q_G → q_M → Prop}
theorem FR.of18 {a b : q_M} (h : ∀ p, p ≠ 18 → b p = a p) : FR a b := FR.of (fun k hk => h k (by unfold z_scr at hk; omega))
theorem FR.of56 {a b : q_M} (h : ∀ p, p ≠ 56 → b p = a p) : FR a b := FR.of (fun k hk => h k (by unfold z_scr at hk; omega))
theorem LJ.fp (l : LJ T L xs s tx n tp z h wd m) (f : FP m m1) (lr : RJ s tx n h m1) : LJ T L xs s tx n tp z h wd m1 :=
  l.st ⟨fun k h1 h2 h3 h4 h5 => f.1 k h5 (fun q => h1 (Or.inr (Or.inr ⟨by omega, by omega⟩))) (by omega) (fun q => h1 (Or.inr (Or.inr ⟨by omega, by omega⟩))), by rw [f.1 26 (by decide) (by decide) (by decide) (by decide)], fun f' hf _ _ _ => f.2 f' hf⟩ l.bz l.iw.2.2.1 (l.cl.fr (fun k h1 h2 => f.1 k (by omega) (by omega) (by omega) (by omega))) lr.mo (Nat.le_refl _) (fun g _ => ⟨rfl, rfl⟩)
theorem p_drawn (l : LJ T L xs s tx n tp z h wd m) (a b : Int32) (hK : ∀ r m', LJ T L xs s tx n tp z h wd m' → K (some (.int r)) (some (.int r)) (GG T L) m') :
    q_C 89 (d + 8) [.ref 0, .int a, .int b] (GG T L) m (fun v g m => q_C 188 (d + 8) [.ref 38, .int a, .int b] g m (fun v' g m => K v v' g m)) := by
  have h6 := l.bz.1
  by_cases ha : z_is a 100000
  · obtain ⟨seed, hs, rfl⟩ := z_is_n ha
    have a0 := n_lt0 (j := seed) (by omega)
    have a1 := n_le (i := seed) (j := 99999) (by omega) (by decide)
    have a2 : seed ≤ 99999 := by omega
    by_cases hb : z_is b 4
    · obtain ⟨w, hw, rfl⟩ := z_is_n hb
      have w0 := n_lt0 (j := w) (by omega)
      have w1 := n_le (i := w) (j := 3) (by omega) (by decide)
      have w2 : w ≤ 3 := by omega
      have hdl := z_draw_lt (n := s.1 0) (seed := seed)
      simp only [u89_0, u89_1, u89_4, u89_7, u89_8, u89_11, u89_12, u89_13, u89_16, u89_18, u89_19, u89_20, u89_23, u89_24, e89, q_push_s, q_push_n, q_sm_0, q_sm_i, q_sm_r, q_sm_n, q_sm_l, q_c1_0, q_c1_i, q_c1_r, q_c1_n, Nat.zero_add, Nat.reduceAdd, Nat.reduceMul, Nat.reduceSub, Nat.reduceLeDiff, Nat.reduceLT, Nat.reduceEqDiff, true_and, and_true, not_false_eq_true, if_true, if_false, ite_true, ite_false, or_true, true_or, or_false, false_or, not_true_eq_false, gf0_0, io1, c_isSeed, ha, z_b_z, w0, w1, w2, Nat.zero_le, Nat.reduceLeDiff]
      refine l.cj.byLots (d := d + 6) (by omega) (fun m1 f1 g1 => ?_)
      have lj1 := l.fr (FR.of18 f1)
      obtain ⟨b1, b2, b3, b4⟩ := z_tl_b tx s (z_draw (s.1 0) seed) (s.1 0) h6
      have b64 : (z_tl tx s (z_draw (s.1 0) seed) (s.1 0)).2.1 < 64 := Nat.lt_of_lt_of_le b2 (Nat.pow_le_pow_right (by decide) (show s.1 0 ≤ 6 from h6))
      have ref : ∀ m2 V, LJ T L xs s tx n tp z h wd m2 → V = nI (if w = 0 then z_bs (z_slf (z_draw (s.1 0) seed)) (s.1 0) else if w = 1 then (z_tl tx s (z_draw (s.1 0) seed) (s.1 0)).1 else if w = 2 then (z_tl tx s (z_draw (s.1 0) seed) (s.1 0)).2.2 else z_dg (z_draw (s.1 0) seed) (s.1 0)) → q_C 188 (d + 8) [.ref 38, .int (nI seed), .int (nI w)] (GG T L) m2 (fun v' g m => K (some (.int V)) v' g m) := by
        intro m2 V lj2 hV
        simp only [u188_0, u188_1, u188_2, u188_4, u188_7, u188_10, u188_11, u188_12, u188_13, u188_16, u188_19, u188_21, u188_22, u188_23, u188_24, e188, q_push_s, q_push_n, q_sm_0, q_sm_i, q_sm_r, q_sm_n, q_sm_l, q_c1_0, q_c1_i, q_c1_r, q_c1_n, Nat.zero_add, Nat.reduceAdd, Nat.reduceMul, Nat.reduceSub, Nat.reduceLeDiff, Nat.reduceLT, Nat.reduceEqDiff, true_and, and_true, not_false_eq_true, if_true, if_false, ite_true, ite_false, or_true, true_or, or_false, false_or, not_true_eq_false, io38, c_in, and_self, a0, a1, a2, w0, w1, w2, z_b_z, Nat.zero_le, Nat.reduceLeDiff]
        refine lj2.rj.drawsBy (by omega) (fun m3 f3 g3 => ?_)
        have lj3 := lj2.fr (FR.of56 f3)
        simp only [u188_27, u188_28, q_push_s, q_push_n, q_sm_0, q_sm_i, q_sm_r, q_sm_n, q_sm_l, q_c1_0, q_c1_i, q_c1_r, q_c1_n, Nat.zero_add, Nat.reduceAdd, Nat.reduceMul, Nat.reduceSub, Nat.reduceLeDiff, Nat.reduceLT, Nat.reduceEqDiff, true_and, and_true, not_false_eq_true, if_true, if_false, ite_true, ite_false, or_true, true_or, or_false, false_or, not_true_eq_false, io38, Nat.zero_le, Nat.reduceLeDiff]
        refine lj3.rj.plays (d := d) g3 hdl (fun m4 f4 l4 k1 k2 => ?_)
        have lj4 := lj3.fp f4 l4
        have g4 : ∀ i, i < s.1 0 → m4 56 i = nI (z_draw (s.1 0) seed i) := fun i hi => by rw [f4.1 56 (by decide) (by decide) (by decide) (by decide)]; exact g3 i hi
        have hw' : w = 0 ∨ w = 1 ∨ w = 2 ∨ w = 3 := by omega
        rcases hw' with rfl | rfl | rfl | rfl
        · simp only [u188_31, u188_32, u188_35, u188_36, u188_39, u188_42, u188_43, u188_44, u188_47, u188_48, u188_51, u188_54, u188_57, u188_58, u188_59, u188_62, u188_63, u188_66, u188_69, u188_70, u188_73, q_push_s, q_push_n, q_sm_0, q_sm_i, q_sm_r, q_sm_n, q_sm_l, q_c1_0, q_c1_i, q_c1_r, q_c1_n, Nat.zero_add, Nat.reduceAdd, Nat.reduceMul, Nat.reduceSub, Nat.reduceLeDiff, Nat.reduceLT, Nat.reduceEqDiff, true_and, and_true, not_false_eq_true, if_true, if_false, ite_true, ite_false, or_true, true_or, or_false, false_or, not_true_eq_false, eq_self, lq_0_1, lq_0_2, lq_0_3, lq_0_4, lq_0_5, lq_0_6, lq_1_0, lq_1_2, lq_1_3, lq_1_4, lq_1_5, lq_1_6, lq_2_0, lq_2_1, lq_2_3, lq_2_4, lq_2_5, lq_2_6, lq_3_0, lq_3_1, lq_3_2, lq_3_4, lq_3_5, lq_3_6, lq_4_0, lq_4_1, lq_4_2, lq_4_3, lq_4_5, lq_4_6, lq_5_0, lq_5_1, lq_5_2, lq_5_3, lq_5_4, lq_5_6, lq_6_0, lq_6_1, lq_6_2, lq_6_3, lq_6_4, lq_6_5, ll_0_0, ll_0_1, ll_0_2, ll_0_3, ll_0_4, ll_0_5, ll_0_6, ll_1_0, ll_1_1, ll_1_2, ll_1_3, ll_1_4, ll_1_5, ll_1_6, ll_2_0, ll_2_1, ll_2_2, ll_2_3, ll_2_4, ll_2_5, ll_2_6, ll_3_0, ll_3_1, ll_3_2, ll_3_3, ll_3_4, ll_3_5, ll_3_6, ll_4_0, ll_4_1, ll_4_2, ll_4_3, ll_4_4, ll_4_5, ll_4_6, ll_5_0, ll_5_1, ll_5_2, ll_5_3, ll_5_4, ll_5_5, ll_5_6, ll_6_0, ll_6_1, ll_6_2, ll_6_3, ll_6_4, ll_6_5, ll_6_6, le_0_0, le_0_1, le_0_2, le_0_3, le_0_4, le_0_5, le_0_6, le_1_0, le_1_1, le_1_2, le_1_3, le_1_4, le_1_5, le_1_6, le_2_0, le_2_1, le_2_2, le_2_3, le_2_4, le_2_5, le_2_6, le_3_0, le_3_1, le_3_2, le_3_3, le_3_4, le_3_5, le_3_6, le_4_0, le_4_1, le_4_2, le_4_3, le_4_4, le_4_5, le_4_6, le_5_0, le_5_1, le_5_2, le_5_3, le_5_4, le_5_5, le_5_6, le_6_0, le_6_1, le_6_2, le_6_3, le_6_4, le_6_5, le_6_6, io38, c_thems h6 l4.mo.n g4 hdl, Nat.zero_le, Nat.reduceLeDiff]
          rw [hV]
          exact hK _ _ lj4
        · simp only [u188_31, u188_32, u188_35, u188_36, u188_39, u188_42, u188_43, u188_44, u188_47, u188_48, u188_51, u188_54, u188_57, u188_58, u188_59, u188_62, u188_63, u188_66, u188_69, u188_70, u188_73, q_push_s, q_push_n, q_sm_0, q_sm_i, q_sm_r, q_sm_n, q_sm_l, q_c1_0, q_c1_i, q_c1_r, q_c1_n, Nat.zero_add, Nat.reduceAdd, Nat.reduceMul, Nat.reduceSub, Nat.reduceLeDiff, Nat.reduceLT, Nat.reduceEqDiff, true_and, and_true, not_false_eq_true, if_true, if_false, ite_true, ite_false, or_true, true_or, or_false, false_or, not_true_eq_false, eq_self, lq_0_1, lq_0_2, lq_0_3, lq_0_4, lq_0_5, lq_0_6, lq_1_0, lq_1_2, lq_1_3, lq_1_4, lq_1_5, lq_1_6, lq_2_0, lq_2_1, lq_2_3, lq_2_4, lq_2_5, lq_2_6, lq_3_0, lq_3_1, lq_3_2, lq_3_4, lq_3_5, lq_3_6, lq_4_0, lq_4_1, lq_4_2, lq_4_3, lq_4_5, lq_4_6, lq_5_0, lq_5_1, lq_5_2, lq_5_3, lq_5_4, lq_5_6, lq_6_0, lq_6_1, lq_6_2, lq_6_3, lq_6_4, lq_6_5, ll_0_0, ll_0_1, ll_0_2, ll_0_3, ll_0_4, ll_0_5, ll_0_6, ll_1_0, ll_1_1, ll_1_2, ll_1_3, ll_1_4, ll_1_5, ll_1_6, ll_2_0, ll_2_1, ll_2_2, ll_2_3, ll_2_4, ll_2_5, ll_2_6, ll_3_0, ll_3_1, ll_3_2, ll_3_3, ll_3_4, ll_3_5, ll_3_6, ll_4_0, ll_4_1, ll_4_2, ll_4_3, ll_4_4, ll_4_5, ll_4_6, ll_5_0, ll_5_1, ll_5_2, ll_5_3, ll_5_4, ll_5_5, ll_5_6, ll_6_0, ll_6_1, ll_6_2, ll_6_3, ll_6_4, ll_6_5, ll_6_6, le_0_0, le_0_1, le_0_2, le_0_3, le_0_4, le_0_5, le_0_6, le_1_0, le_1_1, le_1_2, le_1_3, le_1_4, le_1_5, le_1_6, le_2_0, le_2_1, le_2_2, le_2_3, le_2_4, le_2_5, le_2_6, le_3_0, le_3_1, le_3_2, le_3_3, le_3_4, le_3_5, le_3_6, le_4_0, le_4_1, le_4_2, le_4_3, le_4_4, le_4_5, le_4_6, le_5_0, le_5_1, le_5_2, le_5_3, le_5_4, le_5_5, le_5_6, le_6_0, le_6_1, le_6_2, le_6_3, le_6_4, le_6_5, le_6_6, gf38_32, k1, c_ones b64, b4, Nat.zero_le, Nat.reduceLeDiff]
          rw [hV]
          exact hK _ _ lj4
        · simp only [u188_31, u188_32, u188_35, u188_36, u188_39, u188_42, u188_43, u188_44, u188_47, u188_48, u188_51, u188_54, u188_57, u188_58, u188_59, u188_62, u188_63, u188_66, u188_69, u188_70, u188_73, q_push_s, q_push_n, q_sm_0, q_sm_i, q_sm_r, q_sm_n, q_sm_l, q_c1_0, q_c1_i, q_c1_r, q_c1_n, Nat.zero_add, Nat.reduceAdd, Nat.reduceMul, Nat.reduceSub, Nat.reduceLeDiff, Nat.reduceLT, Nat.reduceEqDiff, true_and, and_true, not_false_eq_true, if_true, if_false, ite_true, ite_false, or_true, true_or, or_false, false_or, not_true_eq_false, eq_self, lq_0_1, lq_0_2, lq_0_3, lq_0_4, lq_0_5, lq_0_6, lq_1_0, lq_1_2, lq_1_3, lq_1_4, lq_1_5, lq_1_6, lq_2_0, lq_2_1, lq_2_3, lq_2_4, lq_2_5, lq_2_6, lq_3_0, lq_3_1, lq_3_2, lq_3_4, lq_3_5, lq_3_6, lq_4_0, lq_4_1, lq_4_2, lq_4_3, lq_4_5, lq_4_6, lq_5_0, lq_5_1, lq_5_2, lq_5_3, lq_5_4, lq_5_6, lq_6_0, lq_6_1, lq_6_2, lq_6_3, lq_6_4, lq_6_5, ll_0_0, ll_0_1, ll_0_2, ll_0_3, ll_0_4, ll_0_5, ll_0_6, ll_1_0, ll_1_1, ll_1_2, ll_1_3, ll_1_4, ll_1_5, ll_1_6, ll_2_0, ll_2_1, ll_2_2, ll_2_3, ll_2_4, ll_2_5, ll_2_6, ll_3_0, ll_3_1, ll_3_2, ll_3_3, ll_3_4, ll_3_5, ll_3_6, ll_4_0, ll_4_1, ll_4_2, ll_4_3, ll_4_4, ll_4_5, ll_4_6, ll_5_0, ll_5_1, ll_5_2, ll_5_3, ll_5_4, ll_5_5, ll_5_6, ll_6_0, ll_6_1, ll_6_2, ll_6_3, ll_6_4, ll_6_5, ll_6_6, le_0_0, le_0_1, le_0_2, le_0_3, le_0_4, le_0_5, le_0_6, le_1_0, le_1_1, le_1_2, le_1_3, le_1_4, le_1_5, le_1_6, le_2_0, le_2_1, le_2_2, le_2_3, le_2_4, le_2_5, le_2_6, le_3_0, le_3_1, le_3_2, le_3_3, le_3_4, le_3_5, le_3_6, le_4_0, le_4_1, le_4_2, le_4_3, le_4_4, le_4_5, le_4_6, le_5_0, le_5_1, le_5_2, le_5_3, le_5_4, le_5_5, le_5_6, le_6_0, le_6_1, le_6_2, le_6_3, le_6_4, le_6_5, le_6_6, gf38_33, k2, Nat.zero_le, Nat.reduceLeDiff]
          rw [hV]
          exact hK _ _ lj4
        · simp only [u188_31, u188_32, u188_35, u188_36, u188_39, u188_42, u188_43, u188_44, u188_47, u188_48, u188_51, u188_54, u188_57, u188_58, u188_59, u188_62, u188_63, u188_66, u188_69, u188_70, u188_73, q_push_s, q_push_n, q_sm_0, q_sm_i, q_sm_r, q_sm_n, q_sm_l, q_c1_0, q_c1_i, q_c1_r, q_c1_n, Nat.zero_add, Nat.reduceAdd, Nat.reduceMul, Nat.reduceSub, Nat.reduceLeDiff, Nat.reduceLT, Nat.reduceEqDiff, true_and, and_true, not_false_eq_true, if_true, if_false, ite_true, ite_false, or_true, true_or, or_false, false_or, not_true_eq_false, eq_self, lq_0_1, lq_0_2, lq_0_3, lq_0_4, lq_0_5, lq_0_6, lq_1_0, lq_1_2, lq_1_3, lq_1_4, lq_1_5, lq_1_6, lq_2_0, lq_2_1, lq_2_3, lq_2_4, lq_2_5, lq_2_6, lq_3_0, lq_3_1, lq_3_2, lq_3_4, lq_3_5, lq_3_6, lq_4_0, lq_4_1, lq_4_2, lq_4_3, lq_4_5, lq_4_6, lq_5_0, lq_5_1, lq_5_2, lq_5_3, lq_5_4, lq_5_6, lq_6_0, lq_6_1, lq_6_2, lq_6_3, lq_6_4, lq_6_5, ll_0_0, ll_0_1, ll_0_2, ll_0_3, ll_0_4, ll_0_5, ll_0_6, ll_1_0, ll_1_1, ll_1_2, ll_1_3, ll_1_4, ll_1_5, ll_1_6, ll_2_0, ll_2_1, ll_2_2, ll_2_3, ll_2_4, ll_2_5, ll_2_6, ll_3_0, ll_3_1, ll_3_2, ll_3_3, ll_3_4, ll_3_5, ll_3_6, ll_4_0, ll_4_1, ll_4_2, ll_4_3, ll_4_4, ll_4_5, ll_4_6, ll_5_0, ll_5_1, ll_5_2, ll_5_3, ll_5_4, ll_5_5, ll_5_6, ll_6_0, ll_6_1, ll_6_2, ll_6_3, ll_6_4, ll_6_5, ll_6_6, le_0_0, le_0_1, le_0_2, le_0_3, le_0_4, le_0_5, le_0_6, le_1_0, le_1_1, le_1_2, le_1_3, le_1_4, le_1_5, le_1_6, le_2_0, le_2_1, le_2_2, le_2_3, le_2_4, le_2_5, le_2_6, le_3_0, le_3_1, le_3_2, le_3_3, le_3_4, le_3_5, le_3_6, le_4_0, le_4_1, le_4_2, le_4_3, le_4_4, le_4_5, le_4_6, le_5_0, le_5_1, le_5_2, le_5_3, le_5_4, le_5_5, le_5_6, le_6_0, le_6_1, le_6_2, le_6_3, le_6_4, le_6_5, le_6_6, io38, c_digits8 h6 l4.mo.n g4, Nat.zero_le, Nat.reduceLeDiff]
          rw [hV]
          exact hK _ _ lj4
      have hw' : w = 0 ∨ w = 1 ∨ w = 2 ∨ w = 3 := by omega
      have ei0 : (nI 0).toInt = 0 := by decide +kernel
      have ei1 : (nI 1).toInt = 1 := by decide +kernel
      have ei2 : (nI 2).toInt = 2 := by decide +kernel
      have ei3 : (nI 3).toInt = 3 := by decide +kernel
      rcases hw' with rfl | rfl | rfl | rfl
      · simp only [u89_27, u89_28, u89_56, u89_57, u89_60, u89_63, q_push_s, q_push_n, q_sm_0, q_sm_i, q_sm_r, q_sm_n, q_sm_l, q_c1_0, q_c1_i, q_c1_r, q_c1_n, Nat.zero_add, Nat.reduceAdd, Nat.reduceMul, Nat.reduceSub, Nat.reduceLeDiff, Nat.reduceLT, Nat.reduceEqDiff, true_and, and_true, not_false_eq_true, if_true, if_false, ite_true, ite_false, or_true, true_or, or_false, false_or, not_true_eq_false, ei0, Int.reduceEq, gf0_0, io1, c_selves h6 lj1.cl.n g1 hdl, Nat.zero_le, Nat.reduceLeDiff]
        exact ref m1 _ lj1 rfl
      · simp only [u89_27, u89_28, u89_64, u89_65, u89_68, u89_69, u89_70, u89_73, u89_76, u89_79, q_push_s, q_push_n, q_sm_0, q_sm_i, q_sm_r, q_sm_n, q_sm_l, q_c1_0, q_c1_i, q_c1_r, q_c1_n, Nat.zero_add, Nat.reduceAdd, Nat.reduceMul, Nat.reduceSub, Nat.reduceLeDiff, Nat.reduceLT, Nat.reduceEqDiff, true_and, and_true, not_false_eq_true, if_true, if_false, ite_true, ite_false, or_true, true_or, or_false, false_or, not_true_eq_false, ei1, Int.reduceEq, gf0_0, gf0_1, gf1_5, io2, Nat.zero_le, Nat.reduceLeDiff]
        refine lj1.cj.tally (d := d + 1) (w := 0) sh18 (by decide) (by decide) (by decide) hdl g1 (fun m2 f2 l2 => ?_)
        simp only [u89_79, q_push_s, q_push_n, q_sm_0, q_sm_i, q_sm_r, q_sm_n, q_sm_l, q_c1_0, q_c1_i, q_c1_r, q_c1_n, Nat.zero_add, Nat.reduceAdd, Nat.reduceMul, Nat.reduceSub, Nat.reduceLeDiff, Nat.reduceLT, Nat.reduceEqDiff, true_and, and_true, not_false_eq_true, if_true, if_false, ite_true, ite_false, or_true, true_or, or_false, false_or, not_true_eq_false]
        exact ref m2 _ (lj1.fr f2.fr) rfl
      · simp only [u89_27, u89_28, u89_80, u89_81, u89_84, u89_85, u89_86, u89_89, u89_92, u89_95, q_push_s, q_push_n, q_sm_0, q_sm_i, q_sm_r, q_sm_n, q_sm_l, q_c1_0, q_c1_i, q_c1_r, q_c1_n, Nat.zero_add, Nat.reduceAdd, Nat.reduceMul, Nat.reduceSub, Nat.reduceLeDiff, Nat.reduceLT, Nat.reduceEqDiff, true_and, and_true, not_false_eq_true, if_true, if_false, ite_true, ite_false, or_true, true_or, or_false, false_or, not_true_eq_false, ei2, Int.reduceEq, gf0_0, gf0_1, gf1_5, io2, Nat.zero_le, Nat.reduceLeDiff]
        refine lj1.cj.tally (d := d + 1) (w := 2) sh18 (by decide) (by decide) (by decide) hdl g1 (fun m2 f2 l2 => ?_)
        simp only [u89_95, q_push_s, q_push_n, q_sm_0, q_sm_i, q_sm_r, q_sm_n, q_sm_l, q_c1_0, q_c1_i, q_c1_r, q_c1_n, Nat.zero_add, Nat.reduceAdd, Nat.reduceMul, Nat.reduceSub, Nat.reduceLeDiff, Nat.reduceLT, Nat.reduceEqDiff, true_and, and_true, not_false_eq_true, if_true, if_false, ite_true, ite_false, or_true, true_or, or_false, false_or, not_true_eq_false]
        exact ref m2 _ (lj1.fr f2.fr) rfl
      · simp only [u89_27, u89_28, u89_96, u89_97, u89_100, u89_103, q_push_s, q_push_n, q_sm_0, q_sm_i, q_sm_r, q_sm_n, q_sm_l, q_c1_0, q_c1_i, q_c1_r, q_c1_n, Nat.zero_add, Nat.reduceAdd, Nat.reduceMul, Nat.reduceSub, Nat.reduceLeDiff, Nat.reduceLT, Nat.reduceEqDiff, true_and, and_true, not_false_eq_true, if_true, if_false, ite_true, ite_false, or_true, true_or, or_false, false_or, not_true_eq_false, ei3, Int.reduceEq, gf0_0, io1, c_digits h6 lj1.cl.n g1, Nat.zero_le, Nat.reduceLeDiff]
        exact ref m1 _ lj1 rfl
    · rcases z_is_f (n := 3) (by decide) hb with q | ⟨q1, q2⟩
      · simp only [u89_0, u89_1, u89_4, u89_7, u89_8, u89_11, u89_12, u89_13, u89_16, u89_18, e89, u188_0, u188_1, u188_2, u188_4, u188_7, u188_10, u188_11, u188_12, u188_13, u188_16, u188_19, u188_21, e188, q_push_s, q_push_n, q_sm_0, q_sm_i, q_sm_r, q_sm_n, q_sm_l, q_c1_0, q_c1_i, q_c1_r, q_c1_n, Nat.zero_add, Nat.reduceAdd, Nat.reduceMul, Nat.reduceSub, Nat.reduceLeDiff, Nat.reduceLT, Nat.reduceEqDiff, true_and, and_true, not_false_eq_true, if_true, if_false, ite_true, ite_false, or_true, true_or, or_false, false_or, not_true_eq_false, c_isSeed, ha, z_b_z, c_in, and_self, a0, a1, a2, q, false_and, Nat.zero_le, Nat.reduceLeDiff]
        exact hK _ _ l
      · simp only [u89_0, u89_1, u89_4, u89_7, u89_8, u89_11, u89_12, u89_13, u89_16, u89_18, e89, u188_0, u188_1, u188_2, u188_4, u188_7, u188_10, u188_11, u188_12, u188_13, u188_16, u188_19, u188_21, e188, q_push_s, q_push_n, q_sm_0, q_sm_i, q_sm_r, q_sm_n, q_sm_l, q_c1_0, q_c1_i, q_c1_r, q_c1_n, Nat.zero_add, Nat.reduceAdd, Nat.reduceMul, Nat.reduceSub, Nat.reduceLeDiff, Nat.reduceLT, Nat.reduceEqDiff, true_and, and_true, not_false_eq_true, if_true, if_false, ite_true, ite_false, or_true, true_or, or_false, false_or, not_true_eq_false, c_isSeed, ha, z_b_z, c_in, and_self, a0, a1, a2, q1, q2, and_false, Nat.zero_le, Nat.reduceLeDiff]
        exact hK _ _ l
  · rcases z_is_f (n := 99999) (by decide) ha with q | ⟨q1, q2⟩
    · simp only [u89_0, u89_1, u89_4, u89_7, u89_8, u89_11, u89_12, u89_13, u89_16, u89_18, e89, u188_0, u188_1, u188_2, u188_4, u188_7, u188_10, u188_11, u188_12, u188_13, u188_16, u188_19, u188_21, e188, q_push_s, q_push_n, q_sm_0, q_sm_i, q_sm_r, q_sm_n, q_sm_l, q_c1_0, q_c1_i, q_c1_r, q_c1_n, Nat.zero_add, Nat.reduceAdd, Nat.reduceMul, Nat.reduceSub, Nat.reduceLeDiff, Nat.reduceLT, Nat.reduceEqDiff, true_and, and_true, not_false_eq_true, if_true, if_false, ite_true, ite_false, or_true, true_or, or_false, false_or, not_true_eq_false, c_isSeed, ha, z_b_z, c_in, q, false_and, Nat.zero_le, Nat.reduceLeDiff]
      exact hK _ _ l
    · simp only [u89_0, u89_1, u89_4, u89_7, u89_8, u89_11, u89_12, u89_13, u89_16, u89_18, e89, u188_0, u188_1, u188_2, u188_4, u188_7, u188_10, u188_11, u188_12, u188_13, u188_16, u188_19, u188_21, e188, q_push_s, q_push_n, q_sm_0, q_sm_i, q_sm_r, q_sm_n, q_sm_l, q_c1_0, q_c1_i, q_c1_r, q_c1_n, Nat.zero_add, Nat.reduceAdd, Nat.reduceMul, Nat.reduceSub, Nat.reduceLeDiff, Nat.reduceLT, Nat.reduceEqDiff, true_and, and_true, not_false_eq_true, if_true, if_false, ite_true, ite_false, or_true, true_or, or_false, false_or, not_true_eq_false, c_isSeed, ha, z_b_z, c_in, q1, q2, and_false, Nat.zero_le, Nat.reduceLeDiff]
      exact hK _ _ l
theorem l_lots {N : Nat} {dr : Nat → Nat} {K : Option Value → q_G → q_M → Prop} (hN : N ≤ 6) (x1 : Int32) (d : Nat) : ∀ c i m, i + c = N → m 3 0 = nI N → (∀ i, i < N → m 18 i = nI (dr i)) → (∀ m', (∀ p, p ≠ 7 → m' p = m p) → (∀ x, x < N → m' 7 x = if i ≤ x then nI (dr x) else m 7 x) → q_R 90 59 (d + 1) [some (.ref 0), some (.int x1), some (.int (nI N))] [] (GG T L) m' K) →
    q_R 90 20 (d + 1) [some (.ref 0), some (.int x1), some (.int (nI i))] [] (GG T L) m K
  | 0, i, m, hi, h0, hd, hK => by
    have e : i = N := by omega
    subst e
    simp only [u90_20, u90_21, u90_22, u90_25, u90_28, q_push_s, q_push_n, q_sm_0, q_sm_i, q_sm_r, q_sm_n, q_sm_l, q_c1_0, q_c1_i, q_c1_r, q_c1_n, Nat.zero_add, Nat.reduceAdd, Nat.reduceMul, Nat.reduceSub, Nat.reduceLeDiff, Nat.reduceLT, Nat.reduceEqDiff, true_and, and_true, not_false_eq_true, if_true, if_false, ite_true, ite_false, or_true, true_or, or_false, false_or, not_true_eq_false, gf0_2, gf3_0, h0, n_lt (i := i) (j := i) (by omega) (by omega), Nat.lt_irrefl]
    exact hK m (fun _ _ => rfl) (fun x hx => by rw [if_neg (by omega)])
  | c + 1, i, m, hi, h0, hd, hK => by
    have e : i < N := by omega
    rw [u90_20]
    simp only [u90_21, u90_22, u90_25, u90_28, u90_31, u90_32, u90_35, u90_38, u90_39, u90_40, u90_43, u90_46, u90_47, u90_50, u90_53, u90_56, q_push_s, q_push_n, q_sm_0, q_sm_i, q_sm_r, q_sm_n, q_sm_l, q_c1_0, q_c1_i, q_c1_r, q_c1_n, Nat.zero_add, Nat.reduceAdd, Nat.reduceMul, Nat.reduceSub, Nat.reduceLeDiff, Nat.reduceLT, Nat.reduceEqDiff, true_and, and_true, not_false_eq_true, if_true, if_false, ite_true, ite_false, or_true, true_or, or_false, false_or, not_true_eq_false, gf0_0, gf0_2, gf1_5, gf3_0, gf3_6, h0, n_lt (i := i) (j := N) (by omega) (by omega), e, c_at (j := i) sh18 (by decide) (by decide) (show i < 6 by omega), c_put (j := i) sh7 (by decide) (by decide) (show i < 6 by omega), hd i e, n_add, Nat.zero_le, Nat.reduceLeDiff]
    refine l_lots hN x1 d c (i + 1) _ (by omega) (by rw [q_up_f _ _ _ (by decide)]; exact h0) (fun i hi => by rw [q_up_f _ _ _ (by decide)]; exact hd i hi) (fun m' f1 f2 => hK m' (fun p hp => (f1 p hp).trans (q_up_f _ _ _ hp)) (fun x hx => ?_))
    rw [f2 x hx]
    by_cases q : x = i
    · subst q; rw [if_neg (by omega), if_pos (by omega), q_up_eq]
    · rw [q_up_i _ _ q]
      by_cases q2 : i ≤ x
      · rw [if_pos q2, if_pos (by omega)]
      · rw [if_neg q2, if_neg (by omega)]
theorem l_lots8 {N : Nat} {dr : Nat → Nat} {K : Option Value → q_G → q_M → Prop} (hN : N ≤ 6) (x1 : Int32) (d : Nat) : ∀ c i m, i + c = N → m 38 0 = nI N → (∀ i, i < N → m 56 i = nI (dr i)) → (∀ m', (∀ p, p ≠ 41 → m' p = m p) → (∀ x, x % 3 ≠ 1 → m' 41 x = m 41 x) → (∀ g, g < N → m' 41 (3 * g + 1) = if i ≤ g then nI (dr g) else m 41 (3 * g + 1)) → q_R 189 50 (d + 1) [some (.ref 38), some (.int x1), some (.int (nI N))] [] (GG T L) m' K) →
    q_R 189 20 (d + 1) [some (.ref 38), some (.int x1), some (.int (nI i))] [] (GG T L) m K
  | 0, i, m, hi, h0, hd, hK => by
    have e : i = N := by omega
    subst e
    simp only [u189_20, u189_21, u189_22, u189_25, q_push_s, q_push_n, q_sm_0, q_sm_i, q_sm_r, q_sm_n, q_sm_l, q_c1_0, q_c1_i, q_c1_r, q_c1_n, Nat.zero_add, Nat.reduceAdd, Nat.reduceMul, Nat.reduceSub, Nat.reduceLeDiff, Nat.reduceLT, Nat.reduceEqDiff, true_and, and_true, not_false_eq_true, if_true, if_false, ite_true, ite_false, or_true, true_or, or_false, false_or, not_true_eq_false, gf38_0, h0, n_lt (i := i) (j := i) (by omega) (by omega), Nat.lt_irrefl]
    exact hK m (fun _ _ => rfl) (fun _ _ => rfl) (fun x hx => by rw [if_neg (by omega)])
  | c + 1, i, m, hi, h0, hd, hK => by
    have e : i < N := by omega
    have c3 : (nI (3 * i + 1)).toNatClampNeg = 3 * i + 1 := n_cl (by omega)
    rw [u189_20]
    simp only [u189_21, u189_22, u189_25, u189_28, u189_29, u189_32, u189_33, u189_34, u189_35, u189_36, u189_37, u189_38, u189_41, u189_42, u189_43, u189_44, u189_47, q_push_s, q_push_n, q_sm_0, q_sm_i, q_sm_r, q_sm_n, q_sm_l, q_c1_0, q_c1_i, q_c1_r, q_c1_n, Nat.zero_add, Nat.reduceAdd, Nat.reduceMul, Nat.reduceSub, Nat.reduceLeDiff, Nat.reduceLT, Nat.reduceEqDiff, true_and, and_true, not_false_eq_true, if_true, if_false, ite_true, ite_false, or_true, true_or, or_false, false_or, not_true_eq_false, gf38_0, gf38_3, gf38_35, h0, n_lt (i := i) (j := N) (by omega) (by omega), e, n_mul, n_add, ia56 (i := i) (by omega), is41 (i := 3 * i + 1) (by omega), c3, hd i e]
    refine l_lots8 hN x1 d c (i + 1) _ (by omega) (by rw [q_up_f _ _ _ (by decide)]; exact h0) (fun i hi => by rw [q_up_f _ _ _ (by decide)]; exact hd i hi) (fun m' f1 f2 f3 => hK m' (fun p hp => (f1 p hp).trans (q_up_f _ _ _ hp)) (fun x hx => ?_) (fun g hg => ?_))
    · rw [f2 x hx, q_up_i _ _ (by omega)]
    · rw [f3 g hg]
      by_cases q : g = i
      · subst q; rw [if_neg (by omega), if_pos (by omega), q_up_eq]
      · rw [q_up_i _ _ (by omega)]
        by_cases q2 : i ≤ g
        · rw [if_pos q2, if_pos (by omega)]
        · rw [if_neg q2, if_neg (by omega)]
theorem p_lots (l : LJ T L xs s tx n tp z h wd m) (a : Int32) (hK : ∀ r s' m', LJ T L xs s' tx n tp z h wd m' → K (some (.int r)) (some (.int r)) (GG T L) m') :
    q_C 90 (d + 3) [.ref 0, .int a] (GG T L) m (fun v g m => q_C 189 (d + 3) [.ref 38, .int a] g m (fun v' g m => K v v' g m)) := by
  have h6 := l.bz.1
  by_cases ha : z_is a 100000
  · obtain ⟨seed, hs, rfl⟩ := z_is_n ha
    have a0 := n_lt0 (j := seed) (by omega)
    have a1 := n_le (i := seed) (j := 99999) (by omega) (by decide)
    have a2 : seed ≤ 99999 := by omega
    have hdl := z_draw_lt (n := s.1 0) (seed := seed)
    have hb64 : z_bs (z_slf (z_draw (s.1 0) seed)) (s.1 0) < 64 := Nat.lt_of_lt_of_le (z_bs_lt _ _) (Nat.pow_le_pow_right (by decide) (show s.1 0 ≤ 6 from h6))
    simp only [u90_0, u90_1, u90_4, u90_7, u90_9, u90_10, u90_11, u90_14, u90_15, e90, q_push_s, q_push_n, q_sm_0, q_sm_i, q_sm_r, q_sm_n, q_sm_l, q_c1_0, q_c1_i, q_c1_r, q_c1_n, Nat.zero_add, Nat.reduceAdd, Nat.reduceMul, Nat.reduceSub, Nat.reduceLeDiff, Nat.reduceLT, Nat.reduceEqDiff, true_and, and_true, not_false_eq_true, if_true, if_false, ite_true, ite_false, or_true, true_or, or_false, false_or, not_true_eq_false, gf0_0, io1, c_isSeed, ha, z_b_z, Nat.zero_le, Nat.reduceLeDiff]
    refine l.cj.byLots (d := d + 1) (by omega) (fun m1 f1 g1 => ?_)
    have lj1 := l.fr (FR.of18 f1)
    simp only [u90_18, u90_19, q_push_s, q_push_n, q_sm_0, q_sm_i, q_sm_r, q_sm_n, q_sm_l, q_c1_0, q_c1_i, q_c1_r, q_c1_n, Nat.zero_add, Nat.reduceAdd, Nat.reduceMul, Nat.reduceSub, Nat.reduceLeDiff, Nat.reduceLT, Nat.reduceEqDiff, true_and, and_true, not_false_eq_true, if_true, if_false, ite_true, ite_false, or_true, true_or, or_false, false_or, not_true_eq_false]
    refine l_lots (dr := z_draw (s.1 0) seed) h6 _ (d + 2) (s.1 0) 0 m1 (by omega) lj1.cl.n g1 (fun m2 f2 g2 => ?_)
    have e30 : m2 3 0 = nI (s.1 0) := by rw [f2 3 (by decide)]; exact lj1.cl.n
    have g18 : ∀ i, i < s.1 0 → m2 18 i = nI (z_draw (s.1 0) seed i) := fun i hi => by rw [f2 18 (by decide)]; exact g1 i hi
    simp only [u90_59, u90_60, u90_63, u90_66, u90_69, q_push_s, q_push_n, q_sm_0, q_sm_i, q_sm_r, q_sm_n, q_sm_l, q_c1_0, q_c1_i, q_c1_r, q_c1_n, Nat.zero_add, Nat.reduceAdd, Nat.reduceMul, Nat.reduceSub, Nat.reduceLeDiff, Nat.reduceLT, Nat.reduceEqDiff, true_and, and_true, not_false_eq_true, if_true, if_false, ite_true, ite_false, or_true, true_or, or_false, false_or, not_true_eq_false, gf0_0, io1, c_selves h6 e30 g18 hdl, c_bits (v := z_bs (z_slf (z_draw (s.1 0) seed)) (s.1 0)) (by omega), Nat.zero_le, Nat.reduceLeDiff]
    have e38 : m2 38 = m1 38 := f2 38 (by decide)
    simp only [u189_0, u189_1, u189_2, u189_4, u189_7, u189_10, u189_12, u189_13, u189_14, u189_15, e189, q_push_s, q_push_n, q_sm_0, q_sm_i, q_sm_r, q_sm_n, q_sm_l, q_c1_0, q_c1_i, q_c1_r, q_c1_n, Nat.zero_add, Nat.reduceAdd, Nat.reduceMul, Nat.reduceSub, Nat.reduceLeDiff, Nat.reduceLT, Nat.reduceEqDiff, true_and, and_true, not_false_eq_true, if_true, if_false, ite_true, ite_false, or_true, true_or, or_false, false_or, not_true_eq_false, io38, c_in, and_self, a0, a1, a2, z_b_z, Nat.zero_le, Nat.reduceLeDiff]
    have lr2 : RJ s tx n h m2 := ⟨l.iw, lj1.mo.fr (by rw [e38]) (by rw [e38]) (by rw [e38]) (fun k h1 h2 => f2 k (by omega)), lj1.tm.fr (f2 44 (by decide)) (f2 45 (by decide)), lj1.rj.2.2.2.1.fr (fun k h1 h2 => f2 k (by omega)), by rw [e38]; exact lj1.nn.2⟩
    refine lr2.drawsBy (by omega) (fun m3 f3 g3 => ?_)
    simp only [u189_18, u189_19, q_push_s, q_push_n, q_sm_0, q_sm_i, q_sm_r, q_sm_n, q_sm_l, q_c1_0, q_c1_i, q_c1_r, q_c1_n, Nat.zero_add, Nat.reduceAdd, Nat.reduceMul, Nat.reduceSub, Nat.reduceLeDiff, Nat.reduceLT, Nat.reduceEqDiff, true_and, and_true, not_false_eq_true, if_true, if_false, ite_true, ite_false, or_true, true_or, or_false, false_or, not_true_eq_false]
    have e38c : m3 38 = m2 38 := f3 38 (by decide)
    refine l_lots8 (dr := z_draw (s.1 0) seed) h6 _ (d + 2) (s.1 0) 0 m3 (by omega) (by rw [e38c]; exact lr2.mo.n) g3 (fun m4 f4 g4 g5 => ?_)
    have e38d : m4 38 = m3 38 := f4 38 (by decide)
    have g56 : ∀ i, i < s.1 0 → m4 56 i = nI (z_draw (s.1 0) seed i) := fun i hi => by rw [f4 56 (by decide)]; exact g3 i hi
    have hk4 : ∀ p, p ≠ 7 → p ≠ 41 → p ≠ 56 → m4 p = m1 p := fun p h1 h2 h3 => by rw [f4 p h2, f3 p h3, f2 p h1]
    have hC : ICl 3 (z_pl' s (z_draw (s.1 0) seed)) m4 := by
      refine ⟨fun f hf => ?_, fun r hr g hg => ?_, fun i hi => ?_⟩
      · rw [hk4 3 (by decide) (by decide) (by decide)]; exact lj1.cl.1 f hf
      · show _ = nI (if r = 3 then z_draw (s.1 0) seed g else s.2.1 r g)
        by_cases q : r = 3
        · rw [if_pos q, q, f4 (3 + 1 + 3) (by decide), f3 (3 + 1 + 3) (by decide)]
          show m2 7 g = _
          rw [g2 g hg, if_pos (Nat.zero_le g)]
        · rw [if_neg q, hk4 (3 + 1 + r) (by omega) (by omega) (by omega)]; exact lj1.cl.2.1 r hr g hg
      · rw [hk4 9 (by decide) (by decide) (by decide)]; exact lj1.cl.2.2 i hi
    have hM : IMo (z_pl' s (z_draw (s.1 0) seed)) m4 := by
      refine lj1.mo.pl' ?_ (fun k hk => hk4 k (by omega) (by omega) (by omega)) (fun g hg => by rw [g5 g hg, if_pos (Nat.zero_le g)]) (fun x hx => by rw [g4 x hx, f3 41 (by decide), f2 41 (by decide)])
      rw [e38d, e38c, e38]
      exact ⟨rfl, rfl, rfl⟩
    have lj4 : LJ T L xs (z_pl' s (z_draw (s.1 0) seed)) tx n tp z h wd m4 := by
      refine lj1.st (FS.of (fun k h1 h2 h3 => hk4 k (by omega) (by omega) (by unfold z_scr at h1; omega))) (l.bz.pl hdl) l.iw.2.2.1 hC hM (Nat.le_refl _) (fun g hg => ?_)
      exact ⟨rfl, rfl⟩
    have e40 : m4 38 0 = nI (s.1 0) := lj4.mo.n
    simp only [u189_50, u189_51, u189_54, u189_57, q_push_s, q_push_n, q_sm_0, q_sm_i, q_sm_r, q_sm_n, q_sm_l, q_c1_0, q_c1_i, q_c1_r, q_c1_n, Nat.zero_add, Nat.reduceAdd, Nat.reduceMul, Nat.reduceSub, Nat.reduceLeDiff, Nat.reduceLT, Nat.reduceEqDiff, true_and, and_true, not_false_eq_true, if_true, if_false, ite_true, ite_false, or_true, true_or, or_false, false_or, not_true_eq_false, io38, c_thems h6 e40 g56 hdl, c_ones hb64, Nat.zero_le, Nat.reduceLeDiff]
    exact hK _ _ _ lj4
  · rcases z_is_f (n := 99999) (by decide) ha with q | ⟨q1, q2⟩
    · simp only [u90_0, u90_1, u90_4, u90_7, u90_9, e90, u189_0, u189_1, u189_2, u189_4, u189_7, u189_10, u189_12, e189, q_push_s, q_push_n, q_sm_0, q_sm_i, q_sm_r, q_sm_n, q_sm_l, q_c1_0, q_c1_i, q_c1_r, q_c1_n, Nat.zero_add, Nat.reduceAdd, Nat.reduceMul, Nat.reduceSub, Nat.reduceLeDiff, Nat.reduceLT, Nat.reduceEqDiff, true_and, and_true, not_false_eq_true, if_true, if_false, ite_true, ite_false, or_true, true_or, or_false, false_or, not_true_eq_false, c_isSeed, ha, z_b_z, c_in, q, false_and, Nat.zero_le, Nat.reduceLeDiff]
      exact hK _ _ _ l
    · simp only [u90_0, u90_1, u90_4, u90_7, u90_9, e90, u189_0, u189_1, u189_2, u189_4, u189_7, u189_10, u189_12, e189, q_push_s, q_push_n, q_sm_0, q_sm_i, q_sm_r, q_sm_n, q_sm_l, q_c1_0, q_c1_i, q_c1_r, q_c1_n, Nat.zero_add, Nat.reduceAdd, Nat.reduceMul, Nat.reduceSub, Nat.reduceLeDiff, Nat.reduceLT, Nat.reduceEqDiff, true_and, and_true, not_false_eq_true, if_true, if_false, ite_true, ite_false, or_true, true_or, or_false, false_or, not_true_eq_false, c_isSeed, ha, z_b_z, c_in, q1, q2, and_false, Nat.zero_le, Nat.reduceLeDiff]
      exact hK _ _ _ l
end
