/-! ===== each side alone ===== -/
/-- the class's sheets; the reference's -/
def ISc (h : ZH) (m : q_M) : Prop := ∀ k, k < 4 → h.2.1 k ≤ 40 ∧ m (30 + 2 * k) 0 = h.1 k ∧ m (30 + 2 * k) 1 = nI (h.2.1 k) ∧ ∀ i, i < h.2.1 k → m (31 + 2 * k) i = h.2.2 k i
def ISr (h : ZH) (m : q_M) : Prop := ∀ k, k < 4 → h.2.1 k ≤ 40 ∧ m 47 k = h.1 k ∧ m 48 k = nI (h.2.1 k) ∧ ∀ i, i < h.2.1 k → m 49 (40 * k + i) = h.2.2 k i
def CJ (T : List Nat) (L : Nat) (s : ZS) (tx : Nat → Nat → List Nat) (n : Nat) (h : ZH) (m : q_M) : Prop := IW s tx n ∧ T.length + 1 = n ∧ ICl 3 s m ∧ TXC T L tx n m ∧ KA m ∧ ISc h m ∧ m 2 3 = nI n
def RJ (s : ZS) (tx : Nat → Nat → List Nat) (n : Nat) (h : ZH) (m : q_M) : Prop := IW s tx n ∧ IMo s m ∧ TXM tx n m ∧ ISr h m ∧ m 38 10 = nI n
/-- what a question may change, of the class; of the reference -/
def FC (m m' : q_M) : Prop := ∀ k, ¬ (13 ≤ k ∧ k < 15) → m' k = m k
def FM (m m' : q_M) : Prop := (∀ k, k ≠ 38 → ¬ (53 ≤ k ∧ k < 55) → m' k = m k) ∧ ∀ f, f < 21 → m' 38 f = m 38 f
theorem FC.refl (m : q_M) : FC m m := fun _ _ => rfl
theorem FC.trans {a b c : q_M} (h : FC a b) (h' : FC b c) : FC a c := fun k hk => (h' k hk).trans (h k hk)
theorem FM.refl (m : q_M) : FM m m := ⟨fun _ _ _ => rfl, fun _ _ => rfl⟩
theorem FM.trans {a b c : q_M} (h : FM a b) (h' : FM b c) : FM a c := ⟨fun k h1 h2 => (h'.1 k h1 h2).trans (h.1 k h1 h2), fun f hf => (h'.2 f hf).trans (h.2 f hf)⟩
theorem FC.fr {m m' : q_M} (h : FC m m') : FR m m' := FR.of (fun k hk => h k (by unfold z_scr at hk; omega))
theorem FM.fr {m m' : q_M} (h : FM m m') : FR m m' := ⟨fun k h1 _ h3 => h.1 k h3 (by unfold z_scr at h1; omega), by rw [h.1 26 (by decide) (by decide)], h.2⟩
theorem FC.of13 {m m' : q_M} (h : ∀ k, k ≠ 13 → k ≠ 14 → m' k = m k) : FC m m' := fun k hk => h k (by omega) (by omega)
theorem FM.of53 {m m' : q_M} (h : ∀ k, k ≠ 53 → k ≠ 54 → m' k = m k) : FM m m' := ⟨fun k _ h2 => h k (by omega) (by omega), fun f _ => by rw [h 38 (by decide) (by decide)]⟩
section
variable {T : List Nat} {L : Nat} {xs : Nat → Int32} {s s' : ZS} {tx : Nat → Nat → List Nat} {n : Nat} {tp : Nat → Nat} {z : Nat} {h : ZH} {wd : Nat → Int32} {m m' : q_M} {K : Option Value → q_G → q_M → Prop}
theorem LJ.cj (l : LJ T L xs s tx n tp z h wd m) : CJ T L s tx n h m := ⟨l.iw, l.t, l.cl, l.tc, l.ka, fun k hk => by
  obtain ⟨b1, b2, b3, b4, b5, b6, b7, b8⟩ := l.sh k hk
  exact ⟨b3, b4, b6, fun i hi => (b8 i hi).1⟩, l.nn.1⟩
theorem LJ.rj (l : LJ T L xs s tx n tp z h wd m) : RJ s tx n h m := ⟨l.iw, l.mo, l.tm, fun k hk => by
  obtain ⟨b1, b2, b3, b4, b5, b6, b7, b8⟩ := l.sh k hk
  exact ⟨b3, b5, b7, fun i hi => (b8 i hi).2⟩, l.nn.2⟩
theorem KA.fr (hA : KA m) (e : m' 901 = m 901) : KA m' := by
  unfold KA at hA ⊢
  rw [e]
  exact hA
theorem ISc.fr (t : ISc h m) (e : ∀ k, 30 ≤ k → k < 38 → m' k = m k) : ISc h m' := fun k hk => by
  rw [e (30 + 2 * k) (by omega) (by omega), e (31 + 2 * k) (by omega) (by omega)]
  exact t k hk
theorem ISr.fr (t : ISr h m) (e : ∀ k, 47 ≤ k → k < 50 → m' k = m k) : ISr h m' := fun k hk => by
  rw [e 47 (by omega) (by omega), e 48 (by omega) (by omega), e 49 (by omega) (by omega)]
  exact t k hk
/-- another state, the rest as it is -/
theorem CJ.to (l : CJ T L s tx n h m) (hB : BZ s') (hl : s'.1 2 < n) (hC : ICl 3 s' m') (f : ∀ k, ¬ (13 ≤ k ∧ k < 15) → ¬ (3 ≤ k ∧ k < 10) → m' k = m k) : CJ T L s' tx n h m' := by
  obtain ⟨⟨a1, a2, a3, a4⟩, b, c, e, g, i, j⟩ := l
  exact ⟨⟨hB, a2, hl, a4⟩, b, hC, e.fr a4 (fun k hk => f k (by omega) (by omega)), g.fr (f 901 (by decide) (by decide)), i.fr (fun k h1 h2 => f k (by omega) (by omega)), by rw [f 2 (by decide) (by decide)]; exact j⟩
theorem RJ.to (l : RJ s tx n h m) (hB : BZ s') (hl : s'.1 2 < n) (hM : IMo s' m') (f : ∀ k, k ≠ 38 → ¬ (53 ≤ k ∧ k < 55) → ¬ (39 ≤ k ∧ k < 43) → m' k = m k) (f2 : m' 38 10 = m 38 10) : RJ s' tx n h m' := by
  obtain ⟨⟨a1, a2, a3, a4⟩, c, e, i, j⟩ := l
  exact ⟨⟨hB, a2, hl, a4⟩, hM, e.fr (f 44 (by decide) (by decide) (by decide)) (f 45 (by decide) (by decide) (by decide)), i.fr (fun k h1 h2 => f k (by omega) (by omega) (by omega)), f2.trans j⟩
theorem CJ.fr (l : CJ T L s tx n h m) (f : FC m m') : CJ T L s tx n h m' := l.to l.1.1 l.1.2.2.1 (l.2.2.1.fr (fun k h1 h2 => f k (by omega))) (fun k h1 _ => f k h1)
theorem RJ.fr (l : RJ s tx n h m) (f : FM m m') : RJ s tx n h m' := l.to l.1.1 l.1.2.2.1 (l.2.1.fr (f.2 0 (by decide)) (f.2 5 (by decide)) (f.2 11 (by decide)) (fun k h1 h2 => f.1 k (by omega) (by omega))) (fun k h1 h2 _ => f.1 k h1 h2) (f.2 10 (by decide))
theorem CJ.bz (l : CJ T L s tx n h m) : BZ s := l.1.1
theorem CJ.cl (l : CJ T L s tx n h m) : ICl 3 s m := l.2.2.1
theorem RJ.bz (l : RJ s tx n h m) : BZ s := l.1.1
theorem RJ.mo (l : RJ s tx n h m) : IMo s m := l.2.1
theorem CJ.has (l : CJ T L s tx n h m) (d : Nat) (K : Option Value → q_G → q_M → Prop) (v : Int32) : q_C 3 d [.ref 3, .int v] (GG T L) m K ↔ K (some (.int (z_b (z_is v (s.1 0))))) (GG T L) m := c_has (by have := l.bz.1; omega) l.cl.n v
theorem RJ.isg (l : RJ s tx n h m) (d : Nat) (K : Option Value → q_G → q_M → Prop) (v : Int32) : q_C 119 (d + 1) [.ref 38, .int v] (GG T L) m K ↔ K (some (.int (z_b (z_is v (s.1 0))))) (GG T L) m := c_isGuest (by have := l.bz.1; omega) l.mo.n v
theorem CJ.doing {d : Nat} (l : CJ T L s tx n h m) {gu o j : Nat} (hg : gu < s.1 0) (ho : o < s.1 0) (hj : j < 4) (hK : ∀ m', FC m m' → CJ T L s tx n h m' → K (some (.int (nI (z_do tx s gu o j)))) (GG T L) m') : q_C 52 (d + 4) [.ref 2, .int (nI gu), .int (nI o), .int (nI j)] (GG T L) m K :=
  c_doing l.cl l.2.2.2.1 l.1 l.2.2.2.2.1 l.2.1 hg ho hj (fun m' e => hK m' (FC.of13 e) (l.fr (FC.of13 e)))
theorem RJ.doesAs {d : Nat} (l : RJ s tx n h m) {gu o j : Nat} (hg : gu < s.1 0) (ho : o < s.1 0) (hj : j < 4) (hK : ∀ m', FM m m' → RJ s tx n h m' → K (some (.int (nI (z_do tx s gu o j)))) (GG T L) m') : q_C 149 (d + 4) [.ref 38, .int (nI gu), .int (nI o), .int (nI j)] (GG T L) m K :=
  c_doesAs l.mo l.2.2.1 l.1 hg ho hj (fun m' e => hK m' (FM.of53 e) (l.fr (FM.of53 e)))
end
/-! ===== what a sheet tells ===== -/
noncomputable def z_pick (p : Prop) (a b : Int32) : Int32 := @ite Int32 p (Classical.propDecidable p) a b
theorem z_pick_1 {p : Prop} (h : p) (a b : Int32) : z_pick p a b = a := by unfold z_pick; exact if_pos h
theorem z_pick_0 {p : Prop} (h : ¬ p) (a b : Int32) : z_pick p a b = b := by unfold z_pick; exact if_neg h
theorem z_pick_t (a b : Int32) : z_pick True a b = a := z_pick_1 trivial a b
theorem z_pick_f (a b : Int32) : z_pick False a b = b := z_pick_0 (fun h => h) a b
theorem z_pick_c {p q : Prop} (h : p ↔ q) (a b : Int32) : z_pick p a b = z_pick q a b := by rw [propext h]
/-- row r of a sheet tells a guest and a matter -/
def z_row (s : ZS) (h : ZH) (k r : Nat) : Prop := z_is (h.2.2 k (3 * r)) (s.1 0) ∧ z_is (h.2.2 k (3 * r + 1)) 4
def z_good (s : ZS) (h : ZH) (k : Nat) : Prop := h.2.1 k % 3 = 0 ∧ ∀ r, 3 * r + 1 < h.2.1 k → z_row s h k r
noncomputable def z_rf (s : ZS) (h : ZH) (k : Nat) : Int32 := if h.1 k = (-1 : Int32) then (-11 : Int32) else z_pick (z_good s h k) (nI 0) (-2 : Int32)
noncomputable def z_rfv (s : ZS) (h : ZH) (v : Int32) : Int32 := z_pick (z_is v 4) (z_rf s h v.toInt.toNat) (-2 : Int32)
theorem z_rfv_k {s : ZS} {h : ZH} {k : Nat} (hk : k < 4) : z_rfv s h (nI k) = z_rf s h k := by
  unfold z_rfv
  rw [z_pick_1 (by rw [z_is_j (by omega)]; exact hk), nI_toInt (by omega)]
  rfl
theorem z_rfv_0 {s : ZS} {h : ZH} {v : Int32} (hv : z_rfv s h v = nI 0) : ∃ k, k < 4 ∧ v = nI k ∧ z_good s h k := by
  by_cases q : z_is v 4
  · obtain ⟨k, hk, rfl⟩ := z_is_n q
    rw [z_rfv_k hk] at hv
    refine ⟨k, hk, rfl, ?_⟩
    unfold z_rf at hv
    by_cases q1 : h.1 k = (-1 : Int32)
    · rw [if_pos q1] at hv; exact absurd hv (by decide)
    · rw [if_neg q1] at hv
      by_cases q2 : z_good s h k
      · exact q2
      · rw [z_pick_0 q2] at hv; exact absurd hv (by decide)
  · unfold z_rfv at hv
    rw [z_pick_0 q] at hv
    exact absurd hv (by decide)
section
variable {T : List Nat} {L : Nat} {s : ZS} {tx : Nat → Nat → List Nat} {n : Nat} {h : ZH} {m : q_M} {K : Option Value → q_G → q_M → Prop}
theorem l_refu {k : Nat} (l : CJ T L s tx n h m) (hk : k < 4) (h3 : h.2.1 k % 3 = 0) (x1 : Option Value) (d : Nat) : ∀ c r, h.2.1 k = 3 * r + 3 * c →
    (q_R 113 38 (d + 2) [some (.ref 0), x1, some (.ref (30 + 2 * k)), some (.int (nI (3 * r)))] [] (GG T L) m K ↔ K (some (.int (z_pick (∀ r', r ≤ r' → 3 * r' + 1 < h.2.1 k → z_row s h k r') (nI 0) (-2 : Int32)))) (GG T L) m)
  | 0, r, hc => by
    obtain ⟨b3, b4, b6, b8⟩ := l.2.2.2.2.2.1 k hk
    rw [z_pick_1 (fun r' q1 q2 => by omega)]
    simp only [u113_38, u113_39, u113_39n, u113_40, u113_43, u113_89, u113_90, q_push_s, q_push_n, q_sm_0, q_sm_i, q_sm_r, q_sm_n, q_sm_l, q_c1_0, q_c1_i, q_c1_r, q_c1_n, Nat.zero_add, Nat.reduceAdd, Nat.reduceMul, Nat.reduceSub, Nat.reduceLeDiff, Nat.reduceLT, Nat.reduceEqDiff, true_and, and_true, not_false_eq_true, if_true, if_false, ite_true, ite_false, or_true, true_or, or_false, false_or, not_true_eq_false, gfs1 hk, b6, n_lt (i := 3 * r) (j := h.2.1 k) (by omega) (by omega), (show ¬ 3 * r < h.2.1 k by omega)]
  | c + 1, r, hc => by
    obtain ⟨b3, b4, b6, b8⟩ := l.2.2.2.2.2.1 k hk
    have e3 : 3 * r + 3 = 3 * (r + 1) := by omega
    have step : q_R 113 83 (d + 2) [some (.ref 0), x1, some (.ref (30 + 2 * k)), some (.int (nI (3 * r)))] [] (GG T L) m K ↔ q_R 113 38 (d + 2) [some (.ref 0), x1, some (.ref (30 + 2 * k)), some (.int (nI (3 * (r + 1))))] [] (GG T L) m K := by
      simp only [u113_83, u113_86, q_push_s, q_push_n, q_sm_0, q_sm_i, q_sm_r, q_sm_n, q_sm_l, q_c1_0, q_c1_i, q_c1_r, q_c1_n, Nat.zero_add, Nat.reduceAdd, Nat.reduceMul, Nat.reduceSub, Nat.reduceLeDiff, Nat.reduceLT, Nat.reduceEqDiff, true_and, and_true, not_false_eq_true, if_true, if_false, ite_true, ite_false, or_true, true_or, or_false, false_or, not_true_eq_false, n_add, e3]
    rw [u113_38]
    by_cases q1 : z_is (h.2.2 k (3 * r)) (s.1 0)
    · by_cases q2 : z_is (h.2.2 k (3 * r + 1)) 4
      · simp only [u113_39, u113_39n, u113_40, u113_43, u113_46, u113_47, u113_50, u113_50n, u113_51, u113_54, u113_55, u113_58, u113_61, u113_64, u113_64n, u113_65, u113_68, u113_69, u113_70, u113_71, u113_74, u113_77, u113_80, u113_82, q_push_s, q_push_n, q_sm_0, q_sm_i, q_sm_r, q_sm_n, q_sm_l, q_c1_0, q_c1_i, q_c1_r, q_c1_n, Nat.zero_add, Nat.reduceAdd, Nat.reduceMul, Nat.reduceSub, Nat.reduceLeDiff, Nat.reduceLT, Nat.reduceEqDiff, true_and, and_true, not_false_eq_true, if_true, if_false, ite_true, ite_false, or_true, true_or, or_false, false_or, not_true_eq_false, gf0_2, gfs1 hk, gfs2 hk, b6, n_lt (i := 3 * r) (j := h.2.1 k) (by omega) (by omega), (show 3 * r < h.2.1 k by omega), Nat.zero_le, Nat.reduceLeDiff, io3, l.has, z_b_z, q1, q2, c_isMatter, n_add, c_at (j := 3 * r) (shs hk) (show 31 + 2 * k < 930 by omega) (by decide) (show 3 * r < 40 by omega), c_at (j := 3 * r + 1) (shs hk) (show 31 + 2 * k < 930 by omega) (by decide) (show 3 * r + 1 < 40 by omega), b8 (3 * r) (by omega), b8 (3 * r + 1) (by omega)]
        rw [step, l_refu l hk h3 x1 d c (r + 1) (by omega)]
        rw [z_pick_c (p := ∀ r', r + 1 ≤ r' → 3 * r' + 1 < h.2.1 k → z_row s h k r') (q := ∀ r', r ≤ r' → 3 * r' + 1 < h.2.1 k → z_row s h k r')]
        constructor
        · intro q r' h1 h2
          by_cases e : r' = r
          · subst e; exact ⟨q1, q2⟩
          · exact q r' (by omega) h2
        · intro q r' h1 h2
          exact q r' (by omega) h2
      · simp only [u113_39, u113_39n, u113_40, u113_43, u113_46, u113_47, u113_50, u113_50n, u113_51, u113_54, u113_55, u113_58, u113_61, u113_64, u113_64n, u113_65, u113_68, u113_69, u113_70, u113_71, u113_74, u113_77, u113_80, u113_82, q_push_s, q_push_n, q_sm_0, q_sm_i, q_sm_r, q_sm_n, q_sm_l, q_c1_0, q_c1_i, q_c1_r, q_c1_n, Nat.zero_add, Nat.reduceAdd, Nat.reduceMul, Nat.reduceSub, Nat.reduceLeDiff, Nat.reduceLT, Nat.reduceEqDiff, true_and, and_true, not_false_eq_true, if_true, if_false, ite_true, ite_false, or_true, true_or, or_false, false_or, not_true_eq_false, gf0_2, gfs1 hk, gfs2 hk, b6, n_lt (i := 3 * r) (j := h.2.1 k) (by omega) (by omega), (show 3 * r < h.2.1 k by omega), Nat.zero_le, Nat.reduceLeDiff, io3, l.has, z_b_z, q1, q2, c_isMatter, n_add, c_at (j := 3 * r) (shs hk) (show 31 + 2 * k < 930 by omega) (by decide) (show 3 * r < 40 by omega), c_at (j := 3 * r + 1) (shs hk) (show 31 + 2 * k < 930 by omega) (by decide) (show 3 * r + 1 < 40 by omega), b8 (3 * r) (by omega), b8 (3 * r + 1) (by omega)]
        rw [z_pick_0 (fun q => q2 (q r (Nat.le_refl r) (by omega)).2)]
    · simp only [u113_39, u113_39n, u113_40, u113_43, u113_46, u113_47, u113_50, u113_50n, u113_51, u113_54, u113_55, u113_58, u113_61, u113_64, u113_64n, u113_65, u113_68, u113_69, u113_70, u113_71, u113_74, u113_77, u113_80, u113_82, q_push_s, q_push_n, q_sm_0, q_sm_i, q_sm_r, q_sm_n, q_sm_l, q_c1_0, q_c1_i, q_c1_r, q_c1_n, Nat.zero_add, Nat.reduceAdd, Nat.reduceMul, Nat.reduceSub, Nat.reduceLeDiff, Nat.reduceLT, Nat.reduceEqDiff, true_and, and_true, not_false_eq_true, if_true, if_false, ite_true, ite_false, or_true, true_or, or_false, false_or, not_true_eq_false, gf0_2, gfs1 hk, gfs2 hk, b6, n_lt (i := 3 * r) (j := h.2.1 k) (by omega) (by omega), (show 3 * r < h.2.1 k by omega), Nat.zero_le, Nat.reduceLeDiff, io3, l.has, z_b_z, q1, c_isMatter, n_add, c_at (j := 3 * r) (shs hk) (show 31 + 2 * k < 930 by omega) (by decide) (show 3 * r < 40 by omega), c_at (j := 3 * r + 1) (shs hk) (show 31 + 2 * k < 930 by omega) (by decide) (show 3 * r + 1 < 40 by omega), b8 (3 * r) (by omega), b8 (3 * r + 1) (by omega)]
      rw [z_pick_0 (fun q => q1 (q r (Nat.le_refl r) (by omega)).1)]
theorem CJ.refusal {d : Nat} (l : CJ T L s tx n h m) (v : Int32) : q_C 113 (d + 2) [.ref 0, .int v] (GG T L) m K ↔ K (some (.int (z_rfv s h v))) (GG T L) m := by
  by_cases hv : z_is v 4
  · obtain ⟨k, hk, rfl⟩ := z_is_n hv
    obtain ⟨b3, b4, b6, b8⟩ := l.2.2.2.2.2.1 k hk
    have h950 : (30 + 2 * k = 950) = False := eq_false (by omega)
    have z3 : (nI 3 = 0) = False := eq_false (by decide)
    have hdv := n_div (a := h.2.1 k) (d := 3) (by omega) (by decide) (by decide)
    have hrm := n_rem (a := h.2.1 k) (d := 3) (by omega) (by decide) (by decide)
    have hr0 := n_eq (i := h.2.1 k % 3) (j := 0) (by omega) (by decide)
    rw [z_rfv_k hk]
    unfold z_rf
    by_cases q1 : h.1 k = (-1 : Int32)
    · rw [if_pos q1]
      simp only [u113_0, u113_1, u113_2, u113_5, u113_5n, u113_6, u113_6n, u113_7n, u113_7, u113_10, u113_12, u113_13, u113_13n, u113_14, u113_17, u113_18, u113_21, u113_23, e113, q_push_s, q_push_n, q_sm_0, q_sm_i, q_sm_r, q_sm_n, q_sm_l, q_c1_0, q_c1_i, q_c1_r, q_c1_n, Nat.zero_add, Nat.reduceAdd, Nat.reduceMul, Nat.reduceSub, Nat.reduceLeDiff, Nat.reduceLT, Nat.reduceEqDiff, true_and, and_true, not_false_eq_true, if_true, if_false, ite_true, ite_false, or_true, true_or, or_false, false_or, not_true_eq_false, io0, c_sheetAt hk, h950, gfs0 hk, b4, q1, Nat.zero_le, Nat.reduceLeDiff]
    · rw [if_neg q1]
      by_cases q2 : h.2.1 k % 3 = 0
      · simp only [u113_0, u113_1, u113_2, u113_5, u113_5n, u113_6, u113_6n, u113_7n, u113_7, u113_10, u113_12, u113_13, u113_13n, u113_14, u113_17, u113_18, u113_21, u113_23, u113_24, u113_24n, u113_25, u113_28, u113_29, u113_30, u113_33, u113_35, u113_36, u113_37, e113, q_push_s, q_push_n, q_sm_0, q_sm_i, q_sm_r, q_sm_n, q_sm_l, q_c1_0, q_c1_i, q_c1_r, q_c1_n, Nat.zero_add, Nat.reduceAdd, Nat.reduceMul, Nat.reduceSub, Nat.reduceLeDiff, Nat.reduceLT, Nat.reduceEqDiff, true_and, and_true, not_false_eq_true, if_true, if_false, ite_true, ite_false, or_true, true_or, or_false, false_or, not_true_eq_false, io0, c_sheetAt hk, h950, gfs0 hk, gfs1 hk, b4, b6, q1, z3, hdv, hrm, hr0, q2, Nat.zero_le, Nat.reduceLeDiff]
        rw [show nI 0 = nI (3 * 0) from rfl, l_refu l hk q2 _ d (h.2.1 k / 3) 0 (by omega)]
        rw [z_pick_c (p := ∀ r', 0 ≤ r' → 3 * r' + 1 < h.2.1 k → z_row s h k r') (q := z_good s h k)]
        exact ⟨fun q => ⟨q2, fun r hr => q r (Nat.zero_le r) hr⟩, fun q r _ hr => q.2 r hr⟩
      · rw [z_pick_0 (fun q => q2 q.1)]
        simp only [u113_0, u113_1, u113_2, u113_5, u113_5n, u113_6, u113_6n, u113_7n, u113_7, u113_10, u113_12, u113_13, u113_13n, u113_14, u113_17, u113_18, u113_21, u113_23, u113_24, u113_24n, u113_25, u113_28, u113_29, u113_30, u113_33, u113_35, e113, q_push_s, q_push_n, q_sm_0, q_sm_i, q_sm_r, q_sm_n, q_sm_l, q_c1_0, q_c1_i, q_c1_r, q_c1_n, Nat.zero_add, Nat.reduceAdd, Nat.reduceMul, Nat.reduceSub, Nat.reduceLeDiff, Nat.reduceLT, Nat.reduceEqDiff, true_and, and_true, not_false_eq_true, if_true, if_false, ite_true, ite_false, or_true, true_or, or_false, false_or, not_true_eq_false, io0, c_sheetAt hk, h950, gfs0 hk, gfs1 hk, b4, b6, q1, z3, hdv, hrm, hr0, q2, Nat.zero_le, Nat.reduceLeDiff]
  · unfold z_rfv
    rw [z_pick_0 hv]
    simp only [u113_0, u113_1, u113_2, u113_5, u113_5n, u113_6, u113_6n, u113_7n, u113_7, u113_10, u113_12, e113, q_push_s, q_push_n, q_sm_0, q_sm_i, q_sm_r, q_sm_n, q_sm_l, q_c1_0, q_c1_i, q_c1_r, q_c1_n, Nat.zero_add, Nat.reduceAdd, Nat.reduceMul, Nat.reduceSub, Nat.reduceLeDiff, Nat.reduceLT, Nat.reduceEqDiff, true_and, and_true, not_false_eq_true, if_true, if_false, ite_true, ite_false, or_true, true_or, or_false, false_or, not_true_eq_false, io0, c_sheetAt0 hv, Nat.zero_le, Nat.reduceLeDiff]
theorem z_b_and (p q : Prop) : z_b p &&& z_b q = z_b (p ∧ q) := by
  by_cases h1 : p
  · by_cases h2 : q
    · rw [z_b_1 h1, z_b_1 h2, z_b_1 ⟨h1, h2⟩]; decide
    · rw [z_b_1 h1, z_b_0 h2, z_b_0 (fun e => h2 e.2)]; decide
  · by_cases h2 : q
    · rw [z_b_0 h1, z_b_1 h2, z_b_0 (fun e => h1 e.1)]; decide
    · rw [z_b_0 h1, z_b_0 h2, z_b_0 (fun e => h2 e.2)]; decide
theorem l_swr {k : Nat} (l : RJ s tx n h m) (hk : k < 4) (d : Nat) : ∀ c r (p : Prop), r < 1000 → h.2.1 k ≤ 3 * r + 1 + 3 * c →
    (q_R 177 44 (d + 2) [some (.ref 38), some (.int (nI k)), some (.int (z_b p)), some (.int (nI (3 * r)))] [] (GG T L) m K ↔ K (some (.int (z_pick (p ∧ ∀ r', r ≤ r' → 3 * r' + 1 < h.2.1 k → z_row s h k r') (nI 0) (-2 : Int32)))) (GG T L) m)
  | 0, r, p, hr, hc => by
    obtain ⟨b3, b5, b7, b8⟩ := l.2.2.2.1 k hk
    by_cases q : p
    · rw [z_pick_1 ⟨q, fun r' q1 q2 => by omega⟩]; simp only [u177_44, u177_45, u177_46, u177_47, u177_48, u177_51, u177_52, u177_53, u177_107, u177_108, u177_111, u177_112, u177_115, u177_117, q_push_s, q_push_n, q_sm_0, q_sm_i, q_sm_r, q_sm_n, q_sm_l, q_c1_0, q_c1_i, q_c1_r, q_c1_n, Nat.zero_add, Nat.reduceAdd, Nat.reduceMul, Nat.reduceSub, Nat.reduceLeDiff, Nat.reduceLT, Nat.reduceEqDiff, true_and, and_true, not_false_eq_true, if_true, if_false, ite_true, ite_false, or_true, true_or, or_false, false_or, not_true_eq_false, gf38_18, ia48 hk, b7, n_add, n_lt (i := 3 * r + 1) (j := h.2.1 k) (by omega) (by omega), (show ¬ 3 * r + 1 < h.2.1 k by omega), z_b_z, q]
    · rw [z_pick_0 (fun e => q e.1)]; simp only [u177_44, u177_45, u177_46, u177_47, u177_48, u177_51, u177_52, u177_53, u177_107, u177_108, u177_111, u177_112, u177_115, u177_117, q_push_s, q_push_n, q_sm_0, q_sm_i, q_sm_r, q_sm_n, q_sm_l, q_c1_0, q_c1_i, q_c1_r, q_c1_n, Nat.zero_add, Nat.reduceAdd, Nat.reduceMul, Nat.reduceSub, Nat.reduceLeDiff, Nat.reduceLT, Nat.reduceEqDiff, true_and, and_true, not_false_eq_true, if_true, if_false, ite_true, ite_false, or_true, true_or, or_false, false_or, not_true_eq_false, gf38_18, ia48 hk, b7, n_add, n_lt (i := 3 * r + 1) (j := h.2.1 k) (by omega) (by omega), (show ¬ 3 * r + 1 < h.2.1 k by omega), z_b_z, q]
  | c + 1, r, p, hr, hc => by
    obtain ⟨b3, b5, b7, b8⟩ := l.2.2.2.1 k hk
    by_cases hlt : 3 * r + 1 < h.2.1 k
    · have e3 : 3 * r + 3 = 3 * (r + 1) := by omega
      have e4 : 40 * k + 3 * r + 1 = 40 * k + (3 * r + 1) := by omega
      have fin : ∀ q : Prop, (q ↔ z_row s h k r) → (q_R 177 99 (d + 2) [some (.ref 38), some (.int (nI k)), some (.int (z_b p)), some (.int (nI (3 * r)))] [.int (z_b q), .int (z_b p)] (GG T L) m K ↔ K (some (.int (z_pick (p ∧ ∀ r', r ≤ r' → 3 * r' + 1 < h.2.1 k → z_row s h k r') (nI 0) (-2 : Int32)))) (GG T L) m) := by
        intro q hq
        simp only [u177_99, u177_100, u177_101, u177_104, q_push_s, q_push_n, q_sm_0, q_sm_i, q_sm_r, q_sm_n, q_sm_l, q_c1_0, q_c1_i, q_c1_r, q_c1_n, Nat.zero_add, Nat.reduceAdd, Nat.reduceMul, Nat.reduceSub, Nat.reduceLeDiff, Nat.reduceLT, Nat.reduceEqDiff, true_and, and_true, not_false_eq_true, if_true, if_false, ite_true, ite_false, or_true, true_or, or_false, false_or, not_true_eq_false, n_add, e3, z_b_and]
        rw [l_swr l hk d c (r + 1) (p ∧ q) (by omega) (by omega)]
        rw [z_pick_c]
        constructor
        · rintro ⟨⟨p1, p2⟩, p3⟩
          refine ⟨p1, fun r' h1 h2 => ?_⟩
          by_cases e : r' = r
          · subst e; exact hq.mp p2
          · exact p3 r' (by omega) h2
        · rintro ⟨p1, p3⟩
          exact ⟨⟨p1, hq.mpr (p3 r (Nat.le_refl r) hlt)⟩, fun r' h1 h2 => p3 r' (by omega) h2⟩
      rw [u177_44]
      by_cases q1 : z_is (h.2.2 k (3 * r)) (s.1 0)
      · by_cases q2 : z_is (h.2.2 k (3 * r + 1)) 4
        · simp only [u177_45, u177_46, u177_47, u177_48, u177_51, u177_52, u177_53, u177_56, u177_57, u177_58, u177_59, u177_62, u177_64, u177_65, u177_66, u177_67, u177_68, u177_69, u177_72, u177_75, u177_76, u177_79, u177_81, u177_82, u177_83, u177_84, u177_85, u177_86, u177_87, u177_88, u177_91, u177_94, u177_95, u177_98, q_push_s, q_push_n, q_sm_0, q_sm_i, q_sm_r, q_sm_n, q_sm_l, q_c1_0, q_c1_i, q_c1_r, q_c1_n, Nat.zero_add, Nat.reduceAdd, Nat.reduceMul, Nat.reduceSub, Nat.reduceLeDiff, Nat.reduceLT, Nat.reduceEqDiff, true_and, and_true, not_false_eq_true, if_true, if_false, ite_true, ite_false, or_true, true_or, or_false, false_or, not_true_eq_false, gf38_18, gf38_19, ia48 hk, b7, n_mul, n_add, e4, io38, Nat.zero_le, Nat.reduceLeDiff, n_lt (i := 3 * r + 1) (j := h.2.1 k) (by omega) (by omega), hlt, ia49 (i := 40 * k + 3 * r) (by omega), ia49 (i := 40 * k + (3 * r + 1)) (by omega), b8 (3 * r) (by omega), b8 (3 * r + 1) (by omega), l.isg, c_isMatter8, z_b_z, q1, q2]
          have := fin True ⟨fun _ => ⟨q1, q2⟩, fun _ => trivial⟩
          rw [z_b_t] at this
          exact this
        · simp only [u177_45, u177_46, u177_47, u177_48, u177_51, u177_52, u177_53, u177_56, u177_57, u177_58, u177_59, u177_62, u177_64, u177_65, u177_66, u177_67, u177_68, u177_69, u177_72, u177_75, u177_76, u177_79, u177_81, u177_82, u177_83, u177_84, u177_85, u177_86, u177_87, u177_88, u177_91, u177_94, u177_95, u177_98, q_push_s, q_push_n, q_sm_0, q_sm_i, q_sm_r, q_sm_n, q_sm_l, q_c1_0, q_c1_i, q_c1_r, q_c1_n, Nat.zero_add, Nat.reduceAdd, Nat.reduceMul, Nat.reduceSub, Nat.reduceLeDiff, Nat.reduceLT, Nat.reduceEqDiff, true_and, and_true, not_false_eq_true, if_true, if_false, ite_true, ite_false, or_true, true_or, or_false, false_or, not_true_eq_false, gf38_18, gf38_19, ia48 hk, b7, n_mul, n_add, e4, io38, Nat.zero_le, Nat.reduceLeDiff, n_lt (i := 3 * r + 1) (j := h.2.1 k) (by omega) (by omega), hlt, ia49 (i := 40 * k + 3 * r) (by omega), ia49 (i := 40 * k + (3 * r + 1)) (by omega), b8 (3 * r) (by omega), b8 (3 * r + 1) (by omega), l.isg, c_isMatter8, z_b_z, q1, q2]
          have := fin False ⟨fun e => e.elim, fun e => q2 e.2⟩
          rw [z_b_f] at this
          exact this
      · simp only [u177_45, u177_46, u177_47, u177_48, u177_51, u177_52, u177_53, u177_56, u177_57, u177_58, u177_59, u177_62, u177_64, u177_65, u177_66, u177_67, u177_68, u177_69, u177_72, u177_75, u177_76, u177_79, u177_81, u177_82, u177_83, u177_84, u177_85, u177_86, u177_87, u177_88, u177_91, u177_94, u177_95, u177_98, q_push_s, q_push_n, q_sm_0, q_sm_i, q_sm_r, q_sm_n, q_sm_l, q_c1_0, q_c1_i, q_c1_r, q_c1_n, Nat.zero_add, Nat.reduceAdd, Nat.reduceMul, Nat.reduceSub, Nat.reduceLeDiff, Nat.reduceLT, Nat.reduceEqDiff, true_and, and_true, not_false_eq_true, if_true, if_false, ite_true, ite_false, or_true, true_or, or_false, false_or, not_true_eq_false, gf38_18, gf38_19, ia48 hk, b7, n_mul, n_add, e4, io38, Nat.zero_le, Nat.reduceLeDiff, n_lt (i := 3 * r + 1) (j := h.2.1 k) (by omega) (by omega), hlt, ia49 (i := 40 * k + 3 * r) (by omega), ia49 (i := 40 * k + (3 * r + 1)) (by omega), b8 (3 * r) (by omega), b8 (3 * r + 1) (by omega), l.isg, c_isMatter8, z_b_z, q1]
        have := fin False ⟨fun e => e.elim, fun e => q1 e.1⟩
        rw [z_b_f] at this
        exact this
    · by_cases q : p
      · rw [z_pick_1 ⟨q, fun r' q1 q2 => by omega⟩]; simp only [u177_44, u177_45, u177_46, u177_47, u177_48, u177_51, u177_52, u177_53, u177_107, u177_108, u177_111, u177_112, u177_115, u177_117, q_push_s, q_push_n, q_sm_0, q_sm_i, q_sm_r, q_sm_n, q_sm_l, q_c1_0, q_c1_i, q_c1_r, q_c1_n, Nat.zero_add, Nat.reduceAdd, Nat.reduceMul, Nat.reduceSub, Nat.reduceLeDiff, Nat.reduceLT, Nat.reduceEqDiff, true_and, and_true, not_false_eq_true, if_true, if_false, ite_true, ite_false, or_true, true_or, or_false, false_or, not_true_eq_false, gf38_18, ia48 hk, b7, n_add, n_lt (i := 3 * r + 1) (j := h.2.1 k) (by omega) (by omega), hlt, z_b_z, q]
      · rw [z_pick_0 (fun e => q e.1)]; simp only [u177_44, u177_45, u177_46, u177_47, u177_48, u177_51, u177_52, u177_53, u177_107, u177_108, u177_111, u177_112, u177_115, u177_117, q_push_s, q_push_n, q_sm_0, q_sm_i, q_sm_r, q_sm_n, q_sm_l, q_c1_0, q_c1_i, q_c1_r, q_c1_n, Nat.zero_add, Nat.reduceAdd, Nat.reduceMul, Nat.reduceSub, Nat.reduceLeDiff, Nat.reduceLT, Nat.reduceEqDiff, true_and, and_true, not_false_eq_true, if_true, if_false, ite_true, ite_false, or_true, true_or, or_false, false_or, not_true_eq_false, gf38_18, ia48 hk, b7, n_add, n_lt (i := 3 * r + 1) (j := h.2.1 k) (by omega) (by omega), hlt, z_b_z, q]
theorem RJ.sheetWrong {d : Nat} (l : RJ s tx n h m) (v : Int32) : q_C 177 (d + 2) [.ref 38, .int v] (GG T L) m K ↔ K (some (.int (z_rfv s h v))) (GG T L) m := by
  by_cases hv : z_is v 4
  · obtain ⟨k, hk, rfl⟩ := z_is_n hv
    obtain ⟨b3, b5, b7, b8⟩ := l.2.2.2.1 k hk
    have k0 := n_lt0 (j := k) (by omega)
    have k3 := n_le (i := k) (j := 3) (by omega) (by decide)
    have k3' : k ≤ 3 := by omega
    have z3 : (nI 3 = 0) = False := eq_false (by decide)
    have hdv := n_div (a := h.2.1 k) (d := 3) (by omega) (by decide) (by decide)
    have hrm := n_rem (a := h.2.1 k) (d := 3) (by omega) (by decide) (by decide)
    have hr0 := n_eq (i := h.2.1 k % 3) (j := 0) (by omega) (by decide)
    rw [z_rfv_k hk]
    unfold z_rf
    by_cases q1 : h.1 k = (-1 : Int32)
    · rw [if_pos q1]
      simp only [u177_0, u177_1, u177_2, u177_3, u177_6, u177_9, u177_11, u177_12, u177_13, u177_16, u177_17, u177_18, u177_19, u177_22, u177_24, e177, q_push_s, q_push_n, q_sm_0, q_sm_i, q_sm_r, q_sm_n, q_sm_l, q_c1_0, q_c1_i, q_c1_r, q_c1_n, Nat.zero_add, Nat.reduceAdd, Nat.reduceMul, Nat.reduceSub, Nat.reduceLeDiff, Nat.reduceLT, Nat.reduceEqDiff, true_and, and_true, not_false_eq_true, if_true, if_false, ite_true, ite_false, or_true, true_or, or_false, false_or, not_true_eq_false, c_in, k0, k3, k3', and_self, z_b_z, gf38_17, ia47 hk, b5, q1, Nat.zero_le, Nat.reduceLeDiff]
    · rw [if_neg q1]
      have fin : ∀ p : Prop, (p ↔ h.2.1 k % 3 = 0) → (q_R 177 41 (d + 2) [some (.ref 38), some (.int (nI k)), none, none] [.int (z_b p)] (GG T L) m K ↔ K (some (.int (z_pick (z_good s h k) (nI 0) (-2 : Int32)))) (GG T L) m) := by
        intro p hp
        simp only [u177_41, u177_42, u177_43, q_push_s, q_push_n, q_sm_0, q_sm_i, q_sm_r, q_sm_n, q_sm_l, q_c1_0, q_c1_i, q_c1_r, q_c1_n, Nat.zero_add, Nat.reduceAdd, Nat.reduceMul, Nat.reduceSub, Nat.reduceLeDiff, Nat.reduceLT, Nat.reduceEqDiff, true_and, and_true, not_false_eq_true, if_true, if_false, ite_true, ite_false, or_true, true_or, or_false, false_or, not_true_eq_false]
        rw [show nI 0 = nI (3 * 0) from rfl, l_swr l hk d (h.2.1 k) 0 p (by omega) (by omega)]
        rw [z_pick_c]
        exact ⟨fun q => ⟨hp.mp q.1, fun r hr => q.2 r (Nat.zero_le r) hr⟩, fun q => ⟨hp.mpr q.1, fun r _ hr => q.2 r hr⟩⟩
      simp only [u177_0, u177_1, u177_2, u177_3, u177_6, u177_9, u177_11, u177_12, u177_13, u177_16, u177_17, u177_18, u177_19, u177_22, u177_24, u177_25, u177_26, u177_29, u177_30, u177_31, u177_32, u177_33, u177_36, u177_37, u177_40, e177, q_push_s, q_push_n, q_sm_0, q_sm_i, q_sm_r, q_sm_n, q_sm_l, q_c1_0, q_c1_i, q_c1_r, q_c1_n, Nat.zero_add, Nat.reduceAdd, Nat.reduceMul, Nat.reduceSub, Nat.reduceLeDiff, Nat.reduceLT, Nat.reduceEqDiff, true_and, and_true, not_false_eq_true, if_true, if_false, ite_true, ite_false, or_true, true_or, or_false, false_or, not_true_eq_false, c_in, k0, k3, k3', and_self, z_b_z, gf38_17, gf38_18, ia47 hk, ia48 hk, b5, b7, q1, z3, hdv, hrm, hr0, Nat.zero_le, Nat.reduceLeDiff]
      by_cases q2 : h.2.1 k % 3 = 0
      · simp only [q2, if_true]
        have := fin True ⟨fun _ => q2, fun _ => trivial⟩
        rw [z_b_t] at this
        exact this
      · simp only [q2, if_false]
        have := fin False ⟨fun e => e.elim, fun e => q2 e⟩
        rw [z_b_f] at this
        exact this
  · unfold z_rfv
    rw [z_pick_0 hv]
    have e : (¬ v < nI 0 ∧ v ≤ nI 3) = False := by rw [z_is_le (by decide)]; exact eq_false hv
    simp only [u177_0, u177_1, u177_2, u177_3, u177_6, u177_9, u177_11, e177, q_push_s, q_push_n, q_sm_0, q_sm_i, q_sm_r, q_sm_n, q_sm_l, q_c1_0, q_c1_i, q_c1_r, q_c1_n, Nat.zero_add, Nat.reduceAdd, Nat.reduceMul, Nat.reduceSub, Nat.reduceLeDiff, Nat.reduceLT, Nat.reduceEqDiff, true_and, and_true, not_false_eq_true, if_true, if_false, ite_true, ite_false, or_true, true_or, or_false, false_or, not_true_eq_false, c_in, e, z_b_z, Nat.zero_le, Nat.reduceLeDiff]
theorem RJ.toldWrong {d : Nat} (l : RJ s tx n h m) (v g : Int32) : q_C 178 (d + 3) [.ref 38, .int v, .int g] (GG T L) m K ↔ K (some (.int (if z_rfv s h v = nI 0 then z_pick (z_is g (s.1 0)) (nI 0) (-5 : Int32) else z_rfv s h v))) (GG T L) m := by
  by_cases q : z_rfv s h v = nI 0
  · rw [if_pos q]
    by_cases q2 : z_is g (s.1 0)
    · rw [z_pick_1 q2]; simp only [e178, u178_0, u178_1, u178_2, u178_5, u178_6, u178_7, u178_10, u178_11, u178_14, u178_15, u178_16, u178_19, u178_22, u178_23, u178_26, u178_28, e178, q_push_s, q_push_n, q_sm_0, q_sm_i, q_sm_r, q_sm_n, q_sm_l, q_c1_0, q_c1_i, q_c1_r, q_c1_n, Nat.zero_add, Nat.reduceAdd, Nat.reduceMul, Nat.reduceSub, Nat.reduceLeDiff, Nat.reduceLT, Nat.reduceEqDiff, true_and, and_true, not_false_eq_true, if_true, if_false, ite_true, ite_false, or_true, true_or, or_false, false_or, not_true_eq_false, io38, l.sheetWrong, l.isg, z_b_z, q, q2, Nat.zero_le, Nat.reduceLeDiff]
    · rw [z_pick_0 q2]; simp only [e178, u178_0, u178_1, u178_2, u178_5, u178_6, u178_7, u178_10, u178_11, u178_14, u178_15, u178_16, u178_19, u178_22, u178_23, u178_26, u178_28, e178, q_push_s, q_push_n, q_sm_0, q_sm_i, q_sm_r, q_sm_n, q_sm_l, q_c1_0, q_c1_i, q_c1_r, q_c1_n, Nat.zero_add, Nat.reduceAdd, Nat.reduceMul, Nat.reduceSub, Nat.reduceLeDiff, Nat.reduceLT, Nat.reduceEqDiff, true_and, and_true, not_false_eq_true, if_true, if_false, ite_true, ite_false, or_true, true_or, or_false, false_or, not_true_eq_false, io38, l.sheetWrong, l.isg, z_b_z, q, q2, Nat.zero_le, Nat.reduceLeDiff]
  · rw [if_neg q]
    simp only [e178, u178_0, u178_1, u178_2, u178_5, u178_6, u178_7, u178_10, u178_11, u178_14, u178_15, u178_16, u178_19, u178_22, u178_23, u178_26, u178_28, e178, q_push_s, q_push_n, q_sm_0, q_sm_i, q_sm_r, q_sm_n, q_sm_l, q_c1_0, q_c1_i, q_c1_r, q_c1_n, Nat.zero_add, Nat.reduceAdd, Nat.reduceMul, Nat.reduceSub, Nat.reduceLeDiff, Nat.reduceLT, Nat.reduceEqDiff, true_and, and_true, not_false_eq_true, if_true, if_false, ite_true, ite_false, or_true, true_or, or_false, false_or, not_true_eq_false, io38, l.sheetWrong, l.isg, z_b_z, q, Nat.zero_le, Nat.reduceLeDiff]
end
