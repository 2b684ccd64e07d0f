/-! ===== film ===== -/
def z_R (n : Nat) : Nat := if 4 * n ≤ 13 then 4 * n else 13
theorem z_R_n : ∀ n, n < 7 → q_min (nI 13) (nI (n * 4)) = nI (z_R n) ∧ z_win (nI (4 * n)) (nI 0) (nI 13) = nI (z_R n) := by decide +kernel
theorem z_R_le (n : Nat) : z_R n ≤ 13 ∧ z_R n ≤ 4 * n := by unfold z_R; split <;> omega
theorem z_w0 {v : Nat} (hv : v < 128) : z_wr (nI 0) (nI v) = nI v := by
  unfold z_wr
  rw [if_pos rfl]
  exact lg_i2b_small (by rw [nI_toInt (by omega)]; omega) (by rw [nI_toInt (by omega)]; omega)
def z_fc (tx : Nat → Nat → List Nat) (s : ZS) (g y : Nat) : Int32 := if y % 3 = 0 then nI (y / 3 / 4) else if y % 3 = 1 then nI (y / 3 % 4) else nI (z_do tx s g (y / 3 / 4) (y / 3 % 4))
def z_fcs (tx : Nat → Nat → List Nat) (s : ZS) (g r y : Nat) : Int32 := if y < 3 * r then z_fc tx s g y else nI 0
theorem z_fcs_s (tx : Nat → Nat → List Nat) (s : ZS) (g r : Nat) : (fun y => if y = 3 * r + 2 then nI (z_do tx s g (r / 4) (r % 4)) else if y = 3 * r + 1 then nI (r % 4) else if y = 3 * r then nI (r / 4) else z_fcs tx s g r y) = z_fcs tx s g (r + 1) := by
  funext y
  by_cases q2 : y = 3 * r + 2
  · have e0 : y % 3 = 2 := by omega
    have e1 : y / 3 = r := by omega
    have e2 : y < 3 * (r + 1) := by omega
    simp only [q2, if_true]
    rw [← q2]
    unfold z_fcs z_fc
    rw [if_pos e2, e0, e1, if_neg (by decide), if_neg (by decide)]
  · by_cases q1 : y = 3 * r + 1
    · have e0 : y % 3 = 1 := by omega
      have e1 : y / 3 = r := by omega
      have e2 : y < 3 * (r + 1) := by omega
      simp only [q2, if_false]
      rw [if_pos q1]
      unfold z_fcs z_fc
      rw [if_pos e2, e0, e1, if_neg (by decide), if_pos rfl]
    · by_cases q0 : y = 3 * r
      · have e0 : y % 3 = 0 := by omega
        have e1 : y / 3 = r := by omega
        have e2 : y < 3 * (r + 1) := by omega
        simp only [q2, q1, if_false]
        rw [if_pos q0]
        unfold z_fcs z_fc
        rw [if_pos e2, e0, e1, if_pos rfl]
      · simp only [q2, q1, q0, if_false]
        unfold z_fcs
        by_cases q : y < 3 * r
        · rw [if_pos q, if_pos (by omega)]
        · rw [if_neg q, if_neg (by omega)]
section
variable {T : List Nat} {L : Nat} {s : ZS} {tx : Nat → Nat → List Nat} {n : Nat} {h : ZH} {m m' : q_M} {K : Option Value → q_G → q_M → Prop}
/-- one number of a sheet put -/
theorem CJ.wr {k w i : Nat} {so v : Int32} {cs : Nat → Int32} (l : CJ T L s tx n (z_shs h k so w cs) m) (hk : k < 4) : CJ T L s tx n (z_shs h k so w (fun y => if y = i then v else cs y)) (q_up m (31 + 2 * k) i v) := by
  obtain ⟨a, b, c, e, f, t, j⟩ := l
  refine ⟨a, b, c.fr (fun k' h1 h2 => q_up_f _ _ _ (by omega)), e.fr a.2.2.2 (fun k' hk' => q_up_f _ _ _ (by omega)), f.fr (q_up_f _ _ _ (by omega)), fun k' hk' => ?_, by rw [q_up_f _ _ _ (by omega)]; exact j⟩
  obtain ⟨t1, t2, t3, t4⟩ := t k' hk'
  refine ⟨t1, ?_, ?_, fun x hx => ?_⟩
  · rw [q_up_f _ _ _ (by omega)]; exact t2
  · rw [q_up_f _ _ _ (by omega)]; exact t3
  · by_cases q : k' = k
    · subst q
      have e3 : (z_shs h k' so w (fun y => if y = i then v else cs y)).2.2 k' x = if x = i then v else cs x := if_pos rfl
      have e4 : (z_shs h k' so w cs).2.2 k' x = cs x := if_pos rfl
      rw [e3]
      by_cases q2 : x = i
      · rw [if_pos q2, q2, q_up_eq]
      · rw [if_neg q2, q_up_i _ _ q2, ← e4]; exact t4 x hx
    · have e3 : ∀ cs, (z_shs h k so w cs).2.2 k' x = h.2.2 k' x := fun cs => if_neg q
      rw [e3, q_up_f _ _ _ (by omega), ← e3 cs]; exact t4 x hx
theorem RJ.wr {k w i : Nat} {so v : Int32} {cs : Nat → Int32} (l : RJ s tx n (z_shs h k so w cs) m) (hk : k < 4) (hi : i < 40) : RJ s tx n (z_shs h k so w (fun y => if y = i then v else cs y)) (q_up m 49 (40 * k + i) v) := by
  obtain ⟨a, c, e, t, j⟩ := l
  refine ⟨a, c.fr (by rw [q_up_f _ _ _ (by decide)]) (by rw [q_up_f _ _ _ (by decide)]) (by rw [q_up_f _ _ _ (by decide)]) (fun k' h1 h2 => q_up_f _ _ _ (by omega)), e.fr (q_up_f _ _ _ (by decide)) (q_up_f _ _ _ (by decide)), fun k' hk' => ?_, by rw [q_up_f _ _ _ (by decide)]; exact j⟩
  obtain ⟨t1, t2, t3, t4⟩ := t k' hk'
  refine ⟨t1, ?_, ?_, fun x hx => ?_⟩
  · rw [q_up_f _ _ _ (by decide)]; exact t2
  · rw [q_up_f _ _ _ (by decide)]; exact t3
  · by_cases q : k' = k
    · subst q
      have e3 : (z_shs h k' so w (fun y => if y = i then v else cs y)).2.2 k' x = if x = i then v else cs x := if_pos rfl
      have e4 : (z_shs h k' so w cs).2.2 k' x = cs x := if_pos rfl
      rw [e3]
      by_cases q2 : x = i
      · rw [if_pos q2, q2, q_up_eq]
      · rw [if_neg q2, q_up_i _ _ (by omega), ← e4]; exact t4 x hx
    · have e3 : ∀ cs, (z_shs h k so w cs).2.2 k' x = h.2.2 k' x := fun cs => if_neg q
      have hx40 : x < 40 := Nat.lt_of_lt_of_le hx t1
      rw [e3, q_up_i _ _ (by omega), ← e3 cs]; exact t4 x hx
theorem CJ.bec {k w : Nat} {so : Int32} (l : CJ T L s tx n h m) (hk : k < 4) (hw : w ≤ 40) (f1 : ∀ p, p ≠ 30 + 2 * k → p ≠ 31 + 2 * k → m' p = m p) (f2 : m' (30 + 2 * k) 0 = so) (f3 : m' (30 + 2 * k) 1 = nI w) (f4 : ∀ x, x < w → m' (31 + 2 * k) x = nI 0) : CJ T L s tx n (z_shs h k so w (fun _ => nI 0)) m' := by
  obtain ⟨a, b, c, e, f, t, j⟩ := l
  refine ⟨a, b, c.fr (fun k' h1 h2 => f1 k' (by omega) (by omega)), e.fr a.2.2.2 (fun k' hk' => f1 k' (by omega) (by omega)), f.fr (f1 901 (by omega) (by omega)), fun k' hk' => ?_, by rw [f1 2 (by omega) (by omega)]; exact j⟩
  by_cases q : k' = k
  · subst q
    have e1 : (z_shs h k' so w (fun _ => nI 0)).1 k' = so := if_pos rfl
    have e2 : (z_shs h k' so w (fun _ => nI 0)).2.1 k' = w := if_pos rfl
    have e3 : ∀ i, (z_shs h k' so w (fun _ => nI 0)).2.2 k' i = nI 0 := fun i => if_pos rfl
    rw [e1, e2]
    exact ⟨hw, f2, f3, fun i hi => by rw [e3]; exact f4 i hi⟩
  · have e1 : (z_shs h k so w (fun _ => nI 0)).1 k' = h.1 k' := if_neg q
    have e2 : (z_shs h k so w (fun _ => nI 0)).2.1 k' = h.2.1 k' := if_neg q
    have e3 : ∀ i, (z_shs h k so w (fun _ => nI 0)).2.2 k' i = h.2.2 k' i := fun i => if_neg q
    rw [e1, e2, f1 _ (by omega) (by omega), f1 _ (by omega) (by omega)]
    obtain ⟨t1, t2, t3, t4⟩ := t k' hk'
    exact ⟨t1, t2, t3, fun i hi => by rw [e3]; exact t4 i hi⟩
theorem RJ.bec {k w : Nat} {so : Int32} (l : RJ s tx n h m) (hk : k < 4) (hw : w ≤ 40) (f1 : ∀ p, ¬ (47 ≤ p ∧ p < 50) → m' p = m p) (f2 : ∀ j, m' 47 j = if j = k then so else m 47 j) (f3 : ∀ j, m' 48 j = if j = k then nI w else m 48 j) (f4 : ∀ x, m' 49 x = if 40 * k ≤ x ∧ x < 40 * k + 40 then nI 0 else m 49 x) : RJ s tx n (z_shs h k so w (fun _ => nI 0)) m' := by
  obtain ⟨a, c, e, t, j⟩ := l
  refine ⟨a, c.fr (by rw [f1 38 (by decide)]) (by rw [f1 38 (by decide)]) (by rw [f1 38 (by decide)]) (fun k' h1 h2 => f1 k' (by omega)), e.fr (f1 44 (by decide)) (f1 45 (by decide)), fun k' hk' => ?_, by rw [f1 38 (by decide)]; exact j⟩
  rw [f2, f3]
  by_cases q : k' = k
  · subst q
    have e1 : (z_shs h k' so w (fun _ => nI 0)).1 k' = so := if_pos rfl
    have e2 : (z_shs h k' so w (fun _ => nI 0)).2.1 k' = w := if_pos rfl
    have e3 : ∀ i, (z_shs h k' so w (fun _ => nI 0)).2.2 k' i = nI 0 := fun i => if_pos rfl
    rw [e1, e2, if_pos rfl, if_pos rfl]
    exact ⟨hw, rfl, rfl, fun i hi => by rw [e3, f4, if_pos (by omega)]⟩
  · have e1 : (z_shs h k so w (fun _ => nI 0)).1 k' = h.1 k' := if_neg q
    have e2 : (z_shs h k so w (fun _ => nI 0)).2.1 k' = h.2.1 k' := if_neg q
    have e3 : ∀ i, (z_shs h k so w (fun _ => nI 0)).2.2 k' i = h.2.2 k' i := fun i => if_neg q
    rw [e1, e2, if_neg q, if_neg q]
    obtain ⟨t1, t2, t3, t4⟩ := t k' hk'
    exact ⟨t1, t2, t3, fun i hi => by rw [e3, f4, if_neg (by omega)]; exact t4 i hi⟩
theorem ISh.of (c : ISc h m) (r : ISr h m) (hs : ∀ k, k < 4 → (h.1 k = (-1 : Int32) ∨ h.1 k = nI 0 ∨ h.1 k = nI 1 ∨ h.1 k = nI 2) ∧ (h.1 k = (-1 : Int32) → h.2.1 k = 0)) : ISh h m := fun k hk => by
  obtain ⟨c1, c2, c3, c4⟩ := c k hk
  obtain ⟨r1, r2, r3, r4⟩ := r k hk
  exact ⟨(hs k hk).1, (hs k hk).2, c1, c2, r2, c3, r3, fun i hi => ⟨c4 i hi, r4 i hi⟩⟩
theorem l_film {k gu R : Nat} (hk : k < 4) (hg : gu < s.1 0) (hR : R ≤ 13) (hR4 : R ≤ 4 * s.1 0) (x1 : Option Value) (d : Nat) : ∀ c r m x6 x7, q_c1 x6 = true → q_c1 x7 = true → r + c = R → CJ T L s tx n (z_shs h k (nI 0) (3 * R) (z_fcs tx s gu r)) m → (∀ m', (∀ p, ¬ (13 ≤ p ∧ p < 15) → p ≠ 31 + 2 * k → m' p = m p) → CJ T L s tx n (z_shs h k (nI 0) (3 * R) (z_fcs tx s gu R)) m' → K (some (.int (nI R))) (GG T L) m') →
    q_R 88 55 (d + 5) [some (.ref 0), x1, some (.int (nI gu)), some (.ref (30 + 2 * k)), some (.int (nI R)), some (.int (nI r)), x6, x7] [] (GG T L) m K
  | 0, r, m, x6, x7, h6, h7, hc, l, hK => by
    have hr : r = R := by omega
    subst hr
    simp only [u88_55, u88_57, u88_59, u88_124, u88_126, q_push_s, q_push_n, q_sm_0, q_sm_i, q_sm_r, q_sm_n, q_sm_l, q_c1_0, q_c1_i, q_c1_r, q_c1_n, Nat.zero_add, Nat.reduceAdd, Nat.reduceMul, Nat.reduceSub, Nat.reduceLeDiff, Nat.reduceLT, Nat.reduceEqDiff, true_and, and_true, not_false_eq_true, if_true, if_false, ite_true, ite_false, or_true, true_or, or_false, false_or, not_true_eq_false, n_lt (i := r) (j := r) (by omega) (by omega), Nat.lt_irrefl]
    exact hK m (fun _ _ _ => rfl) l
  | c + 1, r, m, x6, x7, h6, h7, hc, l, hK => by
    have hr : r < R := by omega
    have z4 : (nI 4 = 0) = False := eq_false (by decide)
    have hdv := n_div (a := r) (d := 4) (by omega) (by decide) (by decide)
    have hrm := n_rem (a := r) (d := 4) (by omega) (by decide) (by decide)
    have hrm2 : nI r - nI (r / 4 * 4) = nI (r % 4) := by rw [← n_mul, hrm]
    have e30 : r * 3 = 3 * r := by omega
    have s0 : m (30 + 2 * k) 0 = nI 0 := by
      have := (l.2.2.2.2.2.1 k hk).2.1
      rw [this]
      exact if_pos rfl
    have la := l.wr (i := 3 * r) (v := nI (r / 4)) hk
    have lb := la.wr (i := 3 * r + 1) (v := nI (r % 4)) hk
    rw [u88_55]
    simp only [u88_57, u88_59, u88_62, u88_64, u88_65, u88_66, u88_68, u88_70, u88_71, u88_72, u88_74, u88_74n, u88_75, u88_77, u88_78, u88_79, u88_81, u88_84, u88_84n, u88_85, u88_87, u88_88, u88_89, u88_90, u88_91, u88_93, u88_96, u88_96n, u88_97, u88_99, u88_100, u88_101, u88_102, u88_103, u88_104, u88_107, u88_108, u88_110, u88_112, q_push_s, q_push_n, q_sm_0, q_sm_i, q_sm_r, q_sm_n, q_sm_l, q_c1_0, q_c1_i, q_c1_r, q_c1_n, Nat.zero_add, Nat.reduceAdd, Nat.reduceMul, Nat.reduceSub, Nat.reduceLeDiff, Nat.reduceLT, Nat.reduceEqDiff, true_and, and_true, not_false_eq_true, if_true, if_false, ite_true, ite_false, or_true, true_or, or_false, false_or, not_true_eq_false, n_lt (i := r) (j := R) (by omega) (by omega), hr, z4, hdv, hrm, hrm2, n_mul, e30, n_add, ios hk, io2, gf0_1, Nat.zero_le, Nat.reduceLeDiff, c_write hk (show 3 * r < 40 by omega) s0, c_write (so := nI 0) hk (show 3 * r + 1 < 40 by omega) (show q_up m (31 + 2 * k) (3 * r) (nI (r / 4)) (30 + 2 * k) 0 = nI 0 by rw [q_up_f _ _ _ (by omega)]; exact s0), z_w0 (v := r / 4) (by omega), z_w0 (v := r % 4) (by omega)]
    refine lb.doing (d := d) hg (show r / 4 < s.1 0 by omega) (show r % 4 < 4 by omega) (fun m1 f1 l1 => ?_)
    have hdo := z_do_lt tx s gu (r / 4) (r % 4)
    have s1 : m1 (30 + 2 * k) 0 = nI 0 := by
      have := (l1.2.2.2.2.2.1 k hk).2.1
      rw [this]
      exact if_pos rfl
    have lc := l1.wr (i := 3 * r + 2) (v := nI (z_do tx s gu (r / 4) (r % 4))) hk
    rw [z_fcs_s] at lc
    simp only [u88_115, u88_118, u88_121, q_push_s, q_push_n, q_sm_0, q_sm_i, q_sm_r, q_sm_n, q_sm_l, q_c1_0, q_c1_i, q_c1_r, q_c1_n, Nat.zero_add, Nat.reduceAdd, Nat.reduceMul, Nat.reduceSub, Nat.reduceLeDiff, Nat.reduceLT, Nat.reduceEqDiff, true_and, and_true, not_false_eq_true, if_true, if_false, ite_true, ite_false, or_true, true_or, or_false, false_or, not_true_eq_false, ios hk, n_add, Nat.zero_le, Nat.reduceLeDiff, c_write hk (show 3 * r + 2 < 40 by omega) s1, z_w0 (v := z_do tx s gu (r / 4) (r % 4)) (by omega)]
    refine l_film hk hg hR hR4 x1 d c (r + 1) _ _ _ (of_eq_true (q_c1_i _)) (of_eq_true (q_c1_i _)) (by omega) lc (fun m' f' l' => hK m' (fun p h1 h2 => ?_) l')
    rw [f' p h1 h2, q_up_f _ _ _ h2, f1 p h1, q_up_f _ _ _ h2, q_up_f _ _ _ h2]
theorem l_film8z {k : Nat} (hk : k < 4) (x2 : Option Value) (x3 : Int32) (d : Nat) : ∀ c i m, i + c = 40 → (∀ m', (∀ p, p ≠ 49 → m' p = m p) → (∀ x, m' 49 x = if 40 * k + i ≤ x ∧ x < 40 * k + 40 then nI 0 else m 49 x) → q_R 185 81 d [some (.ref 38), some (.int (nI k)), x2, some (.int x3), some (.int (nI 40))] [] (GG T L) m' K) →
    q_R 185 55 d [some (.ref 38), some (.int (nI k)), x2, some (.int x3), some (.int (nI i))] [] (GG T L) m K
  | 0, i, m, hi, hK => by
    have h6 : i = 40 := by omega
    have e36 : (nI 40 < nI 40) = False := eq_false (by decide)
    subst h6
    simp only [u185_55, u185_57, u185_59, q_push_s, q_push_n, q_sm_0, q_sm_i, q_sm_r, q_sm_n, q_sm_l, q_c1_0, q_c1_i, q_c1_r, q_c1_n, Nat.zero_add, Nat.reduceAdd, Nat.reduceMul, Nat.reduceSub, Nat.reduceLeDiff, Nat.reduceLT, Nat.reduceEqDiff, true_and, and_true, not_false_eq_true, if_true, if_false, ite_true, ite_false, or_true, true_or, or_false, false_or, not_true_eq_false, e36]
    exact hK m (fun _ _ => rfl) (fun g => by rw [if_neg (by omega)])
  | c + 1, i, m, hi, hK => by
    have h6 : i < 40 := by omega
    have ci : (nI (40 * k + i)).toNatClampNeg = 40 * k + i := n_cl (by omega)
    rw [u185_55]
    simp only [u185_57, u185_59, u185_62, u185_63, u185_66, u185_68, u185_69, u185_70, u185_72, u185_73, u185_74, u185_75, u185_78, q_push_s, q_push_n, q_sm_0, q_sm_i, q_sm_r, q_sm_n, q_sm_l, q_c1_0, q_c1_i, q_c1_r, q_c1_n, Nat.zero_add, Nat.reduceAdd, Nat.reduceMul, Nat.reduceSub, Nat.reduceLeDiff, Nat.reduceLT, Nat.reduceEqDiff, true_and, and_true, not_false_eq_true, if_true, if_false, ite_true, ite_false, or_true, true_or, or_false, false_or, not_true_eq_false, n_lt (i := i) (j := 40) (by omega) (by decide), h6, gf38_19, n_mul, n_add, is49 (i := 40 * k + i) (by omega), ci]
    refine l_film8z hk x2 x3 d c (i + 1) _ (by omega) (fun m' h1 h2 => hK m' (fun p hp => (h1 p hp).trans (q_up_f _ _ _ hp)) (fun x => ?_))
    rw [h2 x]
    by_cases q : x = 40 * k + i
    · subst q; rw [if_neg (by omega), if_pos (by omega), q_up_eq]
    · rw [q_up_i _ _ q]
      by_cases q2 : 40 * k + i ≤ x ∧ x < 40 * k + 40
      · rw [if_pos q2, if_pos (by omega)]
      · rw [if_neg q2, if_neg (by omega)]
theorem l_film8 {k gu R : Nat} (hk : k < 4) (hg : gu < s.1 0) (hR : R ≤ 13) (hR4 : R ≤ 4 * s.1 0) (d : Nat) : ∀ c r m, r + c = R → RJ s tx n (z_shs h k (nI 0) (3 * R) (z_fcs tx s gu r)) m → (∀ m', ((∀ p, p ≠ 38 → ¬ (53 ≤ p ∧ p < 55) → p ≠ 49 → m' p = m p) ∧ ∀ f, f < 21 → m' 38 f = m 38 f) → RJ s tx n (z_shs h k (nI 0) (3 * R) (z_fcs tx s gu R)) m' → K (some (.int (nI R))) (GG T L) m') →
    q_R 185 84 (d + 5) [some (.ref 38), some (.int (nI k)), some (.int (nI gu)), some (.int (nI R)), some (.int (nI r))] [] (GG T L) m K
  | 0, r, m, hc, l, hK => by
    have hr : r = R := by omega
    subst hr
    simp only [u185_84, u185_86, u185_87, u185_163, u185_164, q_push_s, q_push_n, q_sm_0, q_sm_i, q_sm_r, q_sm_n, q_sm_l, q_c1_0, q_c1_i, q_c1_r, q_c1_n, Nat.zero_add, Nat.reduceAdd, Nat.reduceMul, Nat.reduceSub, Nat.reduceLeDiff, Nat.reduceLT, Nat.reduceEqDiff, true_and, and_true, not_false_eq_true, if_true, if_false, ite_true, ite_false, or_true, true_or, or_false, false_or, not_true_eq_false, n_lt (i := r) (j := r) (by omega) (by omega), Nat.lt_irrefl]
    exact hK m ⟨fun _ _ _ _ => rfl, fun _ _ => rfl⟩ l
  | c + 1, r, m, hc, l, hK => by
    have hr : r < R := by omega
    have z4 : (nI 4 = 0) = False := eq_false (by decide)
    have hdv := n_div (a := r) (d := 4) (by omega) (by decide) (by decide)
    have hrm := n_rem (a := r) (d := 4) (by omega) (by decide) (by decide)
    have hrm2 : nI r - nI (r / 4 * 4) = nI (r % 4) := by rw [← n_mul, hrm]
    have c0 : (nI (40 * k + 3 * r)).toNatClampNeg = 40 * k + 3 * r := n_cl (by omega)
    have e1 : 40 * k + 3 * r + 1 = 40 * k + (3 * r + 1) := by omega
    have e2 : 40 * k + 3 * r + 2 = 40 * k + (3 * r + 2) := by omega
    have c1 : (nI (40 * k + (3 * r + 1))).toNatClampNeg = 40 * k + (3 * r + 1) := n_cl (by omega)
    have c2 : (nI (40 * k + (3 * r + 2))).toNatClampNeg = 40 * k + (3 * r + 2) := n_cl (by omega)
    have la := l.wr (i := 3 * r) (v := nI (r / 4)) hk (by omega)
    have lb := la.wr (i := 3 * r + 1) (v := nI (r % 4)) hk (by omega)
    rw [u185_84]
    simp only [u185_86, u185_87, u185_90, u185_91, u185_94, u185_96, u185_97, u185_98, u185_99, u185_101, u185_102, u185_103, u185_105, u185_106, u185_107, u185_108, u185_109, u185_112, u185_114, u185_115, u185_116, u185_117, u185_119, u185_120, u185_121, u185_122, u185_123, u185_125, u185_126, u185_127, u185_128, u185_129, u185_132, u185_134, u185_135, u185_136, u185_137, u185_139, u185_140, u185_141, u185_142, u185_143, u185_144, u185_145, u185_147, u185_148, u185_149, u185_151, u185_152, u185_153, q_push_s, q_push_n, q_sm_0, q_sm_i, q_sm_r, q_sm_n, q_sm_l, q_c1_0, q_c1_i, q_c1_r, q_c1_n, Nat.zero_add, Nat.reduceAdd, Nat.reduceMul, Nat.reduceSub, Nat.reduceLeDiff, Nat.reduceLT, Nat.reduceEqDiff, true_and, and_true, not_false_eq_true, if_true, if_false, ite_true, ite_false, or_true, true_or, or_false, false_or, not_true_eq_false, n_lt (i := r) (j := R) (by omega) (by omega), hr, z4, hdv, hrm, hrm2, n_mul, n_add, e1, e2, io38, gf38_19, is49 (i := 40 * k + 3 * r) (by omega), is49 (i := 40 * k + (3 * r + 1)) (by omega), c0, c1, Nat.zero_le, Nat.reduceLeDiff]
    refine lb.doesAs (d := d) hg (show r / 4 < s.1 0 by omega) (show r % 4 < 4 by omega) (fun m1 f1 l1 => ?_)
    have lc := l1.wr (i := 3 * r + 2) (v := nI (z_do tx s gu (r / 4) (r % 4))) hk (by omega)
    rw [z_fcs_s] at lc
    simp only [u185_156, u185_157, u185_160, q_push_s, q_push_n, q_sm_0, q_sm_i, q_sm_r, q_sm_n, q_sm_l, q_c1_0, q_c1_i, q_c1_r, q_c1_n, Nat.zero_add, Nat.reduceAdd, Nat.reduceMul, Nat.reduceSub, Nat.reduceLeDiff, Nat.reduceLT, Nat.reduceEqDiff, true_and, and_true, not_false_eq_true, if_true, if_false, ite_true, ite_false, or_true, true_or, or_false, false_or, not_true_eq_false, n_add, is49 (i := 40 * k + (3 * r + 2)) (by omega), c2]
    refine l_film8 hk hg hR hR4 d c (r + 1) _ (by omega) lc (fun m' f' l' => hK m' ⟨fun p h1 h2 h3 => ?_, fun f hf => ?_⟩ l')
    · rw [f'.1 p h1 h2 h3, q_up_f _ _ _ h3, f1.1 p h1 h2, q_up_f _ _ _ h3, q_up_f _ _ _ h3]
    · rw [f'.2 f hf, q_up_f _ _ _ (by decide), f1.2 f hf, q_up_f _ _ _ (by decide), q_up_f _ _ _ (by decide)]
end
section
variable {T : List Nat} {L d : Nat} {xs : Nat → Int32} {s : ZS} {tx : Nat → Nat → List Nat} {n : Nat} {tp : Nat → Nat} {z : Nat} {h : ZH} {wd : Nat → Int32} {m m1 m2 : q_M} {K : Option Value → Option Value → q_G → q_M → Prop}
theorem p_film (l : LJ T L xs s tx n tp z h wd m) (a b : Int32) (hK : ∀ r h' m', LJ T L xs s tx n tp z h' wd m' → K (some (.int r)) (some (.int r)) (GG T L) m') :
    q_C 88 (d + 5) [.ref 0, .int a, .int b] (GG T L) m (fun v g m => q_C 185 (d + 5) [.ref 38, .int a, .int b] g m (fun v' g m => K v v' g m)) := by
  have h6 := l.bz.1
  by_cases ha : z_is a 4
  · obtain ⟨k, hk, rfl⟩ := z_is_n ha
    have k0 := n_lt0 (j := k) (by omega)
    have k3 := n_le (i := k) (j := 3) (by omega) (by decide)
    have k3' : k ≤ 3 := by omega
    have h950 : (30 + 2 * k = 950) = False := eq_false (by omega)
    by_cases hb : z_is b (s.1 0)
    · obtain ⟨gu, hg, rfl⟩ := z_is_n hb
      obtain ⟨r1, r2⟩ := z_R_n (s.1 0) (by omega)
      obtain ⟨r3, r4⟩ := z_R_le (s.1 0)
      generalize z_R (s.1 0) = R at r1 r2 r3 r4
      have e30 : R * 3 = 3 * R := by omega
      simp only [u88_0, u88_1, u88_2, u88_5, u88_5n, u88_6, u88_6n, u88_7n, u88_7, u88_10, u88_12, u88_13, u88_14, u88_17, u88_18, u88_21, u88_24, u88_26, u88_27, u88_29, u88_30, u88_33, u88_36, u88_37, u88_38, u88_41, u88_43, u88_43n, u88_44, u88_45, u88_47, u88_48, u88_49, e88, q_push_s, q_push_n, q_sm_0, q_sm_i, q_sm_r, q_sm_n, q_sm_l, q_c1_0, q_c1_i, q_c1_r, q_c1_n, Nat.zero_add, Nat.reduceAdd, Nat.reduceMul, Nat.reduceSub, Nat.reduceLeDiff, Nat.reduceLT, Nat.reduceEqDiff, true_and, and_true, not_false_eq_true, if_true, if_false, ite_true, ite_false, or_true, true_or, or_false, false_or, not_true_eq_false, gf0_2, gf3_0, io0, io3, c_sheetAt hk, h950, l.has, hb, z_b_z, l.cl.n, n_mul, r1, e30, ios hk, Nat.zero_le, Nat.reduceLeDiff]
      refine c_becS hk (show 3 * R ≤ 40 by omega) _ (fun m1 f1 f2 f3 f4 => ?_)
      simp only [u88_52, u88_53, q_push_s, q_push_n, q_sm_0, q_sm_i, q_sm_r, q_sm_n, q_sm_l, q_c1_0, q_c1_i, q_c1_r, q_c1_n, Nat.zero_add, Nat.reduceAdd, Nat.reduceMul, Nat.reduceSub, Nat.reduceLeDiff, Nat.reduceLT, Nat.reduceEqDiff, true_and, and_true, not_false_eq_true, if_true, if_false, ite_true, ite_false, or_true, true_or, or_false, false_or, not_true_eq_false]
      have lc1 := l.cj.bec hk (show 3 * R ≤ 40 by omega) f1 f2 f3 f4
      have ef : (fun _ : Nat => nI 0) = z_fcs tx s gu 0 := by
        funext y
        unfold z_fcs
        rw [if_neg (by omega)]
      rw [ef] at lc1
      refine l_film (h := h) hk hg r3 r4 _ d R 0 m1 _ _ (of_eq_true q_c1_0) (of_eq_true q_c1_0) (by omega) lc1 (fun m2 g1 l2 => ?_)
      have hf2 : ∀ p, ¬ (13 ≤ p ∧ p < 15) → ¬ (30 ≤ p ∧ p < 38) → m2 p = m p := fun p h1 h2 => by rw [g1 p h1 (by omega), f1 p (by omega) (by omega)]
      have lr2 : RJ s tx n h m2 := ⟨l.iw, l.mo.fr (by rw [hf2 38 (by decide) (by decide)]) (by rw [hf2 38 (by decide) (by decide)]) (by rw [hf2 38 (by decide) (by decide)]) (fun k' h1 h2 => hf2 k' (by omega) (by omega)), l.tm.fr (hf2 44 (by decide) (by decide)) (hf2 45 (by decide) (by decide)), l.rj.2.2.2.1.fr (fun k' h1 h2 => hf2 k' (by omega) (by omega)), by rw [hf2 38 (by decide) (by decide)]; exact l.nn.2⟩
      have ck : (nI k).toNatClampNeg = k := n_cl (by omega)
      simp only [u185_0, u185_1, u185_2, u185_3, u185_6, u185_9, u185_11, u185_12, u185_13, u185_14, u185_17, u185_20, u185_22, u185_23, u185_24, u185_25, u185_28, u185_29, u185_30, u185_32, u185_35, u185_36, u185_37, u185_40, u185_41, u185_42, u185_43, u185_44, u185_47, u185_48, u185_49, u185_50, u185_51, u185_52, u185_53, e185, q_push_s, q_push_n, q_sm_0, q_sm_i, q_sm_r, q_sm_n, q_sm_l, q_c1_0, q_c1_i, q_c1_r, q_c1_n, Nat.zero_add, Nat.reduceAdd, Nat.reduceMul, Nat.reduceSub, Nat.reduceLeDiff, Nat.reduceLT, Nat.reduceEqDiff, true_and, and_true, not_false_eq_true, if_true, if_false, ite_true, ite_false, or_true, true_or, or_false, false_or, not_true_eq_false, c_in, and_self, k0, k3, k3', z_b_z, io38, lr2.isg, hb, gf38_0, lr2.mo.n, n_mul, c_within, r2, gf38_17, gf38_18, is47 hk, is48 hk, ck, Nat.zero_le, Nat.reduceLeDiff]
      refine l_film8z hk _ _ _ 40 0 _ rfl (fun m3 u1 u2 => ?_)
      simp only [u185_81, u185_82, q_push_s, q_push_n, q_sm_0, q_sm_i, q_sm_r, q_sm_n, q_sm_l, q_c1_0, q_c1_i, q_c1_r, q_c1_n, Nat.zero_add, Nat.reduceAdd, Nat.reduceMul, Nat.reduceSub, Nat.reduceLeDiff, Nat.reduceLT, Nat.reduceEqDiff, true_and, and_true, not_false_eq_true, if_true, if_false, ite_true, ite_false, or_true, true_or, or_false, false_or, not_true_eq_false]
      have hz : ∀ (k' x : Nat) (v : Int32) (m0 : q_M), (∀ j, q_up m0 k' x v k' j = if j = x then v else m0 k' j) := fun k' x v m0 j => by
        by_cases q : j = x
        · rw [if_pos q, q, q_up_eq]
        · rw [if_neg q, q_up_i _ _ q]
      have lr3 := lr2.bec (m' := m3) (so := nI 0) (w := 3 * R) hk (by omega) (fun p hp => by rw [u1 p (by omega), q_up_f _ _ _ (by omega), q_up_f _ _ _ (by omega)]) (fun j => by rw [u1 47 (by decide), q_up_f _ _ _ (by decide)]; exact hz _ _ _ _ j) (fun j => by rw [u1 48 (by decide), hz, q_up_f _ _ _ (by decide)]) (fun x => by rw [u2 x, q_up_f _ _ _ (by decide), q_up_f _ _ _ (by decide), Nat.add_zero])
      rw [ef] at lr3
      refine l_film8 (h := h) hk hg r3 r4 d R 0 m3 (by omega) lr3 (fun m4 v1 l4 => ?_)
      have h34 : ∀ p, p ≠ 38 → ¬ (53 ≤ p ∧ p < 55) → ¬ (47 ≤ p ∧ p < 50) → m4 p = m2 p := fun p h1 h2 h3 => by rw [v1.1 p h1 h2 (by omega), u1 p (by omega), q_up_f _ _ _ (by omega), q_up_f _ _ _ (by omega)]
      refine hK _ _ _ (l.fh (m' := m4) ⟨fun p h1 h2 h3 h4 h5 => ?_, ?_, fun f hf => ?_⟩ (ISh.of (l2.2.2.2.2.2.1.fr (fun p h1 h2 => h34 p (by omega) (by omega) (by omega))) l4.2.2.2.1 (fun k' hk' => ?_)))
      · rw [h34 p h5 (fun q => h1 (Or.inr (Or.inr ⟨by omega, by omega⟩))) h3, hf2 p (fun q => h1 (Or.inl ⟨q.1, by omega⟩)) h2]
      · rw [h34 26 (by decide) (by decide) (by decide), hf2 26 (by decide) (by decide)]
      · rw [v1.2 f hf, u1 38 (by decide), q_up_f _ _ _ (by decide), q_up_f _ _ _ (by decide), hf2 38 (by decide) (by decide)]
      · by_cases q : k' = k
        · subst q
          have e1 : ∀ cs, (z_shs h k' (nI 0) (3 * R) cs).1 k' = nI 0 := fun cs => if_pos rfl
          rw [e1]
          exact ⟨Or.inr (Or.inl rfl), fun e => absurd e (by decide)⟩
        · have e1 : ∀ cs, (z_shs h k (nI 0) (3 * R) cs).1 k' = h.1 k' := fun cs => if_neg q
          have e2 : ∀ cs, (z_shs h k (nI 0) (3 * R) cs).2.1 k' = h.2.1 k' := fun cs => if_neg q
          rw [e1, e2]
          obtain ⟨b1, b2, b3⟩ := l.sh k' hk'
          exact ⟨b1, b2⟩
    · simp only [u88_0, u88_1, u88_2, u88_5, u88_5n, u88_6, u88_6n, u88_7n, u88_7, u88_10, u88_12, u88_13, u88_14, u88_17, u88_18, u88_21, u88_24, u88_26, e88, u185_0, u185_1, u185_2, u185_3, u185_6, u185_9, u185_11, u185_12, u185_13, u185_14, u185_17, u185_20, u185_22, e185, q_push_s, q_push_n, q_sm_0, q_sm_i, q_sm_r, q_sm_n, q_sm_l, q_c1_0, q_c1_i, q_c1_r, q_c1_n, Nat.zero_add, Nat.reduceAdd, Nat.reduceMul, Nat.reduceSub, Nat.reduceLeDiff, Nat.reduceLT, Nat.reduceEqDiff, true_and, and_true, not_false_eq_true, if_true, if_false, ite_true, ite_false, or_true, true_or, or_false, false_or, not_true_eq_false, gf0_2, io0, io3, io38, c_sheetAt hk, h950, l.has, l.isg, hb, z_b_z, c_in, and_self, k0, k3, k3', Nat.zero_le, Nat.reduceLeDiff]
      exact hK _ _ _ l
  · rcases z_is_f (n := 3) (by decide) ha with q | ⟨q1, q2⟩
    · simp only [u88_0, u88_1, u88_2, u88_5, u88_5n, u88_6, u88_6n, u88_7n, u88_7, u88_10, u88_12, e88, u185_0, u185_1, u185_2, u185_3, u185_6, u185_9, u185_11, e185, q_push_s, q_push_n, q_sm_0, q_sm_i, q_sm_r, q_sm_n, q_sm_l, q_c1_0, q_c1_i, q_c1_r, q_c1_n, Nat.zero_add, Nat.reduceAdd, Nat.reduceMul, Nat.reduceSub, Nat.reduceLeDiff, Nat.reduceLT, Nat.reduceEqDiff, true_and, and_true, not_false_eq_true, if_true, if_false, ite_true, ite_false, or_true, true_or, or_false, false_or, not_true_eq_false, io0, c_sheetAt0 ha, q, c_in, false_and, z_b_z, Nat.zero_le, Nat.reduceLeDiff]
      exact hK _ _ _ l
    · simp only [u88_0, u88_1, u88_2, u88_5, u88_5n, u88_6, u88_6n, u88_7n, u88_7, u88_10, u88_12, e88, u185_0, u185_1, u185_2, u185_3, u185_6, u185_9, u185_11, e185, q_push_s, q_push_n, q_sm_0, q_sm_i, q_sm_r, q_sm_n, q_sm_l, q_c1_0, q_c1_i, q_c1_r, q_c1_n, Nat.zero_add, Nat.reduceAdd, Nat.reduceMul, Nat.reduceSub, Nat.reduceLeDiff, Nat.reduceLT, Nat.reduceEqDiff, true_and, and_true, not_false_eq_true, if_true, if_false, ite_true, ite_false, or_true, true_or, or_false, false_or, not_true_eq_false, io0, c_sheetAt0 ha, q1, q2, c_in, and_false, z_b_z, Nat.zero_le, Nat.reduceLeDiff]
      exact hK _ _ _ l
end
