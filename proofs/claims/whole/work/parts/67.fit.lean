/-! ===== how many draws fit, the first ===== -/
def z_cb (c : Nat → Nat) (g d : Nat) : Bool := decide (c g / 2 ^ d % 2 = 1)
theorem z_cbT {c : Nat → Nat} {g d : Nat} : z_cb c g d = true ↔ c g / 2 ^ d % 2 = 1 := decide_eq_true_iff
def z_W (c : Nat → Nat) (n : Nat) : Nat → Nat → Nat → Nat
  | 0, _, _ => 1
  | r + 1, k, t => z_fo (fun d a => a + (if (decide (t / 2 ^ d % 2 = 0) && z_cb c k d) then z_W c n r (k + 1) (t ||| 2 ^ d) else 0)) n 0 0
def z_w (c : Nat → Nat) (n r k t d : Nat) : Nat := if (decide (t / 2 ^ d % 2 = 0) && z_cb c k d) then z_W c n r (k + 1) (t ||| 2 ^ d) else 0
theorem z_W_s (c : Nat → Nat) (n r k t : Nat) : z_W c n (r + 1) k t = z_fo (fun d a => a + z_w c n r k t d) n 0 0 := rfl
/-- the first of c from i on of which it is so, or 0 -/
def z_min (P : Nat → Bool) : Nat → Nat → Nat
  | 0, _ => 0
  | c + 1, i => if P i then i else z_min P c (i + 1)
theorem z_min_lt (P : Nat → Bool) {n : Nat} (hn : 0 < n) : ∀ c i, i + c ≤ n → z_min P c i < n
  | 0, _, _ => hn
  | c + 1, i, h => by
    unfold z_min
    split
    · omega
    · exact z_min_lt P hn c (i + 1) (by omega)
def z_gd (c : Nat → Nat) (n : Nat) : Nat → Nat → Nat → (Nat → Nat) → (Nat → Nat)
  | 0, _, _, dd => dd
  | r + 1, k, t, dd => z_gd c n r (k + 1) (t ||| 2 ^ z_min (fun d => decide (0 < z_w c n r k t d)) n 0) (fun i => if i = k then z_min (fun d => decide (0 < z_w c n r k t d)) n 0 else dd i)
def z_fA (n : Nat) (dd : Nat → Nat) (a : Nat × Nat) : Nat × Nat := (a.1 + 1, if a.1 = 0 then z_dg dd n else a.2)
theorem z_fo_sum (w : Nat → Nat) : ∀ c i b, z_fo (fun d a => a + w d) c i b = b + z_fo (fun d a => a + w d) c i 0
  | 0, _, _ => rfl
  | c + 1, i, b => by
    show z_fo (fun d a => a + w d) c (i + 1) (b + w i) = b + z_fo (fun d a => a + w d) c (i + 1) (0 + w i)
    rw [z_fo_sum w c (i + 1) (b + w i), z_fo_sum w c (i + 1) (0 + w i)]
    omega
theorem z_fo_fit (w X : Nat → Nat) (f : Nat → Nat × Nat → Nat × Nat) (hf : ∀ d a, f d a = (a.1 + w d, if a.1 = 0 ∧ 0 < w d then X d else a.2)) : ∀ c i a, z_fo f c i a = (a.1 + z_fo (fun d a => a + w d) c i 0, if a.1 = 0 ∧ 0 < z_fo (fun d a => a + w d) c i 0 then X (z_min (fun d => decide (0 < w d)) c i) else a.2)
  | 0, i, a => by
    have e0 : z_fo (fun d a => a + w d) 0 i 0 = 0 := rfl
    rw [e0, if_neg (fun h => absurd h.2 (by decide))]
    rfl
  | c + 1, i, a => by
    have e1 : z_fo (fun d a => a + w d) (c + 1) i 0 = w i + z_fo (fun d a => a + w d) c (i + 1) 0 := by
      show z_fo (fun d a => a + w d) c (i + 1) (0 + w i) = _
      rw [z_fo_sum, Nat.zero_add]
    have e2 : z_min (fun d => decide (0 < w d)) (c + 1) i = if decide (0 < w i) = true then i else z_min (fun d => decide (0 < w d)) c (i + 1) := rfl
    show z_fo f c (i + 1) (f i a) = _
    rw [z_fo_fit w X f hf c (i + 1), hf, e1, e2]
    generalize z_fo (fun d a => a + w d) c (i + 1) 0 = S
    refine Prod.ext (by show a.1 + w i + S = a.1 + (w i + S); omega) ?_
    show (if a.1 + w i = 0 ∧ 0 < S then X (z_min (fun d => decide (0 < w d)) c (i + 1)) else if a.1 = 0 ∧ 0 < w i then X i else a.2) = if a.1 = 0 ∧ 0 < w i + S then X (if decide (0 < w i) = true then i else z_min (fun d => decide (0 < w d)) c (i + 1)) else a.2
    by_cases q0 : a.1 = 0
    · by_cases q1 : 0 < w i
      · rw [if_neg (by omega), if_pos ⟨q0, q1⟩, if_pos ⟨q0, by omega⟩, if_pos (decide_eq_true q1)]
      · rw [if_neg (show ¬ (a.1 = 0 ∧ 0 < w i) from fun h => q1 h.2), if_neg (show ¬ decide (0 < w i) = true from fun h => q1 (of_decide_eq_true h))]
        by_cases q2 : 0 < S
        · rw [if_pos ⟨by omega, q2⟩, if_pos ⟨q0, by omega⟩]
        · rw [if_neg (fun h => q2 h.2), if_neg (by omega)]
    · rw [if_neg (by omega), if_neg (fun h => q0 h.1), if_neg (fun h => q0 h.1)]
theorem z_fit_DT (c : Nat → Nat) (n : Nat) : ∀ r k t dd a, k + r = n → z_DT (z_cb c) (z_fA n) n r k t dd a = (a.1 + z_W c n r k t, if a.1 = 0 ∧ 0 < z_W c n r k t then z_dg (z_gd c n r k t dd) n else a.2)
  | 0, k, t, dd, a, h => by
    have e0 : z_W c n 0 k t = 1 := rfl
    have e1 : z_DT (z_cb c) (z_fA n) n 0 k t dd a = (a.1 + 1, if a.1 = 0 then z_dg dd n else a.2) := rfl
    have e2 : z_gd c n 0 k t dd = dd := rfl
    rw [e0, e1, e2]
    by_cases q : a.1 = 0
    · rw [if_pos q, if_pos ⟨q, by decide⟩]
    · rw [if_neg q, if_neg (fun e => q e.1)]
  | r + 1, k, t, dd, a, h => by
    refine (z_fo_fit (z_w c n r k t) (fun d => z_dg (z_gd c n r (k + 1) (t ||| 2 ^ d) (fun i => if i = k then d else dd i)) n) _ (fun d a => ?_) n 0 a).trans ?_
    · show (if (decide (t / 2 ^ d % 2 = 0) && z_cb c k d) = true then z_DT (z_cb c) (z_fA n) n r (k + 1) (t ||| 2 ^ d) (fun i => if i = k then d else dd i) a else a) = _
      unfold z_w
      by_cases q : (decide (t / 2 ^ d % 2 = 0) && z_cb c k d) = true
      · rw [if_pos q, if_pos q, z_fit_DT c n r (k + 1) _ _ a (by omega)]
      · rw [if_neg q, if_neg q, if_neg (fun e => absurd e.2 (by decide))]
        rfl
    · rfl
/-- how many draws fit; the first -/
def z_fit (tx : Nat → Nat → List Nat) (s : ZS) (mt : Nat) : Nat := z_W (fun g => z_may tx s g mt) (s.1 0) (s.1 0) 0 0
def z_ff (tx : Nat → Nat → List Nat) (s : ZS) (mt : Nat) : Nat := if 0 < z_fit tx s mt then z_dg (z_gd (fun g => z_may tx s g mt) (s.1 0) (s.1 0) 0 0 (fun _ => 0)) (s.1 0) else 0
theorem z_fo_le (w : Nat → Nat) (B : Nat) (hw : ∀ d, w d ≤ B) : ∀ c i a, z_fo (fun d a => a + w d) c i a ≤ a + c * B
  | 0, _, a => Nat.le_add_right a _
  | c + 1, i, a => by
    have h1 := z_fo_le w B hw c (i + 1) (a + w i)
    have h2 := hw i
    have h3 : (c + 1) * B = c * B + B := Nat.succ_mul c B
    show z_fo (fun d a => a + w d) c (i + 1) (a + w i) ≤ _
    omega
theorem z_W_le (c : Nat → Nat) (n : Nat) : ∀ r k t, z_W c n r k t ≤ n ^ r
  | 0, _, _ => Nat.le_refl _
  | r + 1, k, t => by
    have h := z_fo_le (z_w c n r k t) (n ^ r) (fun d => by
      unfold z_w
      split
      · exact z_W_le c n r (k + 1) _
      · exact Nat.zero_le _) n 0 0
    rw [Nat.zero_add, Nat.mul_comm, ← Nat.pow_succ] at h
    exact h
theorem z_W_b {c : Nat → Nat} {n r k t : Nat} (hn : n ≤ 6) (hr : r ≤ 6) : z_W c n r k t < 2 ^ 31 := by
  have h1 := z_W_le c n r k t
  have h2 : n ^ r ≤ 6 ^ r := Nat.pow_le_pow_left hn r
  have h3 : 6 ^ r ≤ 6 ^ 6 := Nat.pow_le_pow_right (by decide) hr
  have h4 : 6 ^ 6 < 2 ^ 31 := by decide
  omega
theorem z_fr : ∀ c, c < 64 → ∀ t, t < 64 → nI c &&& (nI t ^^^ (-1 : Int32)) = nI (c &&& (63 ^^^ t)) ∧ c &&& (63 ^^^ t) < 64 := by decide +kernel
theorem z_frb : ∀ c, c < 64 → ∀ t, t < 64 → ∀ d, d < 6 → ((c &&& (63 ^^^ t)) / 2 ^ d % 2 = 0 ↔ ¬ (t / 2 ^ d % 2 = 0 ∧ c / 2 ^ d % 2 = 1)) := by decide +kernel
theorem z_popl : ∀ n, n < 7 → ∀ t, t < 64 → t < 2 ^ n → z_pop t ≤ n := by decide +kernel
theorem z_orl : ∀ t, t < 64 → ∀ d, d < 6 → t / 2 ^ d % 2 = 0 → t < t ||| 2 ^ d := by decide +kernel
section
variable {T : List Nat} {L : Nat} {s : ZS} {tx : Nat → Nat → List Nat} {n : Nat} {h : ZH} {m : q_M} {K : Option Value → q_G → q_M → Prop}
/-- what the class's draws may change -/
def FU (m m' : q_M) : Prop := ∀ k, ¬ (13 ≤ k ∧ k < 19) → m' k = m k
theorem FU.refl (m : q_M) : FU m m := fun _ _ => rfl
theorem FU.trans {a b c : q_M} (h : FU a b) (h' : FU b c) : FU a c := fun k hk => (h' k hk).trans (h k hk)
theorem FT.fu {a b : q_M} (h : FT a b) : FU a b := fun k hk => h k (by omega)
theorem FU.up {p : Nat} (hp : 13 ≤ p ∧ p < 19) (i : Nat) (v : Int32) (m : q_M) : FU m (q_up m p i v) := fun k hk => q_up_f _ _ _ (by omega)
theorem FU.fr {a b : q_M} (h : FU a b) : FR a b := FR.of (fun k hk => h k (by unfold z_scr at hk; omega))
theorem CJ.fu {m' : q_M} (l : CJ T L s tx n h m) (f : FU m m') : CJ T L s tx n h m' := by
  obtain ⟨a, b, c, e, g, i, j⟩ := l
  exact ⟨a, b, c.fr (fun k h1 h2 => f k (by omega)), e.fr a.2.2.2 (fun k hk => f k (by omega)), g.fr (f 901 (by decide)), i.fr (fun k h1 h2 => f k (by omega)), by rw [f 2 (by decide)]; exact j⟩
theorem z_may_lt (tx : Nat → Nat → List Nat) {s : ZS} (h6 : s.1 0 ≤ 6) (g mt : Nat) : z_may tx s g mt < 64 := Nat.lt_of_lt_of_le (z_bs_lt _ _) (Nat.pow_le_pow_right (by decide) (show s.1 0 ≤ 6 from h6))
theorem l_cmpA (d : Nat) : ∀ c i m, i + c = s.1 0 → CJ T L s tx n h m → (∀ g, g < i → ∀ o, o < s.1 0 → m 15 (g * 6 + o) = nI (z_lk tx s g o 4)) → (∀ m', FT m m' → CJ T L s tx n h m' → (∀ g, g < s.1 0 → ∀ o, o < s.1 0 → m' 15 (g * 6 + o) = nI (z_lk tx s g o 4)) → K none (GG T L) m') →
    q_R 12 2 (d + 6) [some (.ref 1), some (.int (nI i))] [] (GG T L) m K
  | 0, i, m, hi, l, ht, hK => by
    have h6 := l.bz.1
    have e : i = s.1 0 := by omega
    have e2 : ¬ i < s.1 0 := by omega
    simp only [u12_2, u12_3, u12_4, u12_7, u12_10, u12_24, q_push_s, q_push_n, q_sm_0, q_sm_i, q_sm_r, q_sm_n, q_sm_l, q_c1_0, q_c1_i, q_c1_r, q_c1_n, Nat.zero_add, Nat.reduceAdd, Nat.reduceMul, Nat.reduceSub, Nat.reduceLeDiff, Nat.reduceLT, Nat.reduceEqDiff, true_and, and_true, not_false_eq_true, if_true, if_false, ite_true, ite_false, or_true, true_or, or_false, false_or, not_true_eq_false, gf1_1, gf3_0, l.cl.n, n_lt (i := i) (j := s.1 0) (by omega) (by omega), e2]
    exact hK m (FT.refl m) l (fun g hg => ht g (by omega))
  | c + 1, i, m, hi, l, ht, hK => by
    have h6 := l.bz.1
    have e : i < s.1 0 := by omega
    rw [u12_2]
    simp only [u12_3, u12_4, u12_7, u12_10, u12_13, u12_14, u12_15, q_push_s, q_push_n, q_sm_0, q_sm_i, q_sm_r, q_sm_n, q_sm_l, q_c1_0, q_c1_i, q_c1_r, q_c1_n, Nat.zero_add, Nat.reduceAdd, Nat.reduceMul, Nat.reduceSub, Nat.reduceLeDiff, Nat.reduceLT, Nat.reduceEqDiff, true_and, and_true, not_false_eq_true, if_true, if_false, ite_true, ite_false, or_true, true_or, or_false, false_or, not_true_eq_false, gf1_1, gf3_0, l.cl.n, n_lt (i := i) (j := s.1 0) (by omega) (by omega), e, io1, Nat.zero_le, Nat.reduceLeDiff]
    refine l.compare (d := d) e (fun m1 f1 l1 k1 k2 => ?_)
    simp only [u12_18, u12_21, q_push_s, q_push_n, q_sm_0, q_sm_i, q_sm_r, q_sm_n, q_sm_l, q_c1_0, q_c1_i, q_c1_r, q_c1_n, Nat.zero_add, Nat.reduceAdd, Nat.reduceMul, Nat.reduceSub, Nat.reduceLeDiff, Nat.reduceLT, Nat.reduceEqDiff, true_and, and_true, not_false_eq_true, if_true, if_false, ite_true, ite_false, or_true, true_or, or_false, false_or, not_true_eq_false, n_add]
    refine l_cmpA d c (i + 1) m1 (by omega) l1 (fun g hg o ho => ?_) (fun m' f' l' => hK m' (f1.trans f') l')
    by_cases q : g = i
    · rw [q]; exact k1 o ho
    · rw [k2 _ (fun o' ho' => by omega)]; exact ht g (by omega) o ho
theorem CJ.compareAll {d : Nat} (l : CJ T L s tx n h m) (hK : ∀ m', FT m m' → CJ T L s tx n h m' → (∀ g, g < s.1 0 → ∀ o, o < s.1 0 → m' 15 (g * 6 + o) = nI (z_lk tx s g o 4)) → K none (GG T L) m') : q_C 12 (d + 6) [.ref 1] (GG T L) m K := by
  simp only [e12, u12_0, u12_1, q_push_s, q_push_n, q_sm_0, q_sm_i, q_sm_r, q_sm_n, q_sm_l, q_c1_0, q_c1_i, q_c1_r, q_c1_n, Nat.zero_add, Nat.reduceAdd, Nat.reduceMul, Nat.reduceSub, Nat.reduceLeDiff, Nat.reduceLT, Nat.reduceEqDiff, true_and, and_true, not_false_eq_true, if_true, if_false, ite_true, ite_false, or_true, true_or, or_false, false_or, not_true_eq_false]
  exact l_cmpA d (s.1 0) 0 m (by omega) l (fun g hg => absurd hg (Nat.not_lt_zero g)) hK
theorem l_fit1 {mt al : Nat} (hm : mt < 16) (d : Nat) : ∀ c i m, i + c = s.1 0 → CJ T L s tx n h m → (∀ g, g < s.1 0 → ∀ o, o < s.1 0 → m 15 (g * 6 + o) = nI (z_lk tx s g o 4)) → (∀ m', (∀ p, p ≠ 17 → m' p = m p) → CJ T L s tx n h m' → (∀ g, g < s.1 0 → m' 17 g = if i ≤ g then nI (z_may tx s g mt) else m 17 g) → q_R 14 45 (d + 2) [some (.ref 1), some (.int (nI mt)), some (.int (nI al)), some (.int (nI (s.1 0))), none, none, none] [] (GG T L) m' K) →
    q_R 14 14 (d + 2) [some (.ref 1), some (.int (nI mt)), some (.int (nI al)), some (.int (nI i)), none, none, none] [] (GG T L) m K
  | 0, i, m, hi, l, ht, hK => by
    have h6 := l.bz.1
    have e : i = s.1 0 := by omega
    have e2 : ¬ i < s.1 0 := by omega
    simp only [u14_14, u14_15, u14_16, u14_19, u14_22, q_push_s, q_push_n, q_sm_0, q_sm_i, q_sm_r, q_sm_n, q_sm_l, q_c1_0, q_c1_i, q_c1_r, q_c1_n, Nat.zero_add, Nat.reduceAdd, Nat.reduceMul, Nat.reduceSub, Nat.reduceLeDiff, Nat.reduceLT, Nat.reduceEqDiff, true_and, and_true, not_false_eq_true, if_true, if_false, ite_true, ite_false, or_true, true_or, or_false, false_or, not_true_eq_false, gf1_1, gf3_0, l.cl.n, n_lt (i := i) (j := s.1 0) (by omega) (by omega), e2]
    have := hK m (fun _ _ => rfl) l (fun g hg => by rw [if_neg (by omega)])
    rw [← e] at this
    exact this
  | c + 1, i, m, hi, l, ht, hK => by
    have h6 := l.bz.1
    have e : i < s.1 0 := by omega
    rw [u14_14]
    simp only [u14_15, u14_16, u14_19, u14_22, u14_25, u14_26, u14_29, u14_30, u14_31, u14_32, u14_33, u14_36, u14_39, u14_42, q_push_s, q_push_n, q_sm_0, q_sm_i, q_sm_r, q_sm_n, q_sm_l, q_c1_0, q_c1_i, q_c1_r, q_c1_n, Nat.zero_add, Nat.reduceAdd, Nat.reduceMul, Nat.reduceSub, Nat.reduceLeDiff, Nat.reduceLT, Nat.reduceEqDiff, true_and, and_true, not_false_eq_true, if_true, if_false, ite_true, ite_false, or_true, true_or, or_false, false_or, not_true_eq_false, gf1_1, gf1_4, gf3_0, l.cl.n, n_lt (i := i) (j := s.1 0) (by omega) (by omega), e, io1, l.canBe e hm (ht i e), c_put (j := i) sh17 (by decide) (by decide) (show i < 6 by omega), n_add, Nat.zero_le, Nat.reduceLeDiff]
    refine l_fit1 hm d c (i + 1) _ (by omega) (l.fu (FU.up (by decide) i _ m)) (fun g hg o ho => by rw [q_up_f _ _ _ (by decide)]; exact ht g hg o ho) (fun m' f1 l' f2 => hK m' (fun p hp => (f1 p hp).trans (q_up_f _ _ _ hp)) l' (fun g hg => ?_))
    rw [f2 g hg]
    by_cases q : g = i
    · subst q; rw [if_neg (by omega), if_pos (by omega), q_up_eq]
    · rw [q_up_i _ _ q]
      by_cases q2 : i ≤ g
      · rw [if_pos q2, if_pos (by omega)]
      · rw [if_neg q2, if_neg (by omega)]
/-- the inner loop: the ways with these played already -/
theorem l_fit2 {N t r k : Nat} {c : Nat → Nat} {x1 x2 : Option Value} (hN : N ≤ 6) (ht : t < 2 ^ N) (ht64 : t < 64) (hk : k < N) (hck : c k < 64) (h0 : m 3 0 = nI N) (hr : ∀ d, d < N → t / 2 ^ d % 2 = 0 → m 16 (t ||| 2 ^ d) = nI (z_W c N r (k + 1) (t ||| 2 ^ d))) (d : Nat) : ∀ cc i a, i + cc = N → (q_R 14 131 (d + 2) [some (.ref 1), x1, x2, some (.int (nI t)), some (.int (nI (c k &&& (63 ^^^ t)))), some (.int (nI (z_fo (fun d a => a + z_w c N r k t d) cc i a))), some (.int (nI N))] [] (GG T L) m K) →
    q_R 14 85 (d + 2) [some (.ref 1), x1, x2, some (.int (nI t)), some (.int (nI (c k &&& (63 ^^^ t)))), some (.int (nI a)), some (.int (nI i))] [] (GG T L) m K
  | 0, i, a, hi, hK => by
    have e : i = N := by omega
    subst e
    simp only [u14_85, u14_87, u14_88, u14_91, u14_94, q_push_s, q_push_n, q_sm_0, q_sm_i, q_sm_r, q_sm_n, q_sm_l, q_c1_0, q_c1_i, q_c1_r, q_c1_n, Nat.zero_add, Nat.reduceAdd, Nat.reduceMul, Nat.reduceSub, Nat.reduceLeDiff, Nat.reduceLT, Nat.reduceEqDiff, true_and, and_true, not_false_eq_true, if_true, if_false, ite_true, ite_false, or_true, true_or, or_false, false_or, not_true_eq_false, gf1_1, gf3_0, h0, n_lt (i := i) (j := i) (by omega) (by omega), Nat.lt_irrefl]
    exact hK
  | cc + 1, i, a, hi, hK => by
    have e : i < N := by omega
    obtain ⟨q1, q2⟩ := z_fr (c k) hck t ht64
    have qb := z_frb (c k) hck t ht64 i (by omega)
    have hdl : (c k &&& (63 ^^^ t)) / 2 ^ i ≤ c k &&& (63 ^^^ t) := Nat.div_le_self _ _
    have n_and1 : nI ((c k &&& (63 ^^^ t)) / 2 ^ i) &&& nI 1 = nI ((c k &&& (63 ^^^ t)) / 2 ^ i % 2) := pk_andN (by omega) 1 (by decide +kernel)
    have e0 := n_eq (i := (c k &&& (63 ^^^ t)) / 2 ^ i % 2) (j := 0) (by omega) (by decide)
    have hor := (z_popb t ht64 i (by omega)).2
    rw [show z_fo (fun d a => a + z_w c N r k t d) (cc + 1) i a = z_fo (fun d a => a + z_w c N r k t d) cc (i + 1) (a + z_w c N r k t i) from rfl] at hK
    rw [u14_85]
    by_cases q : (c k &&& (63 ^^^ t)) / 2 ^ i % 2 = 0
    · have qw : z_w c N r k t i = 0 := by
        unfold z_w
        rw [if_neg]
        rw [Bool.and_eq_true, decide_eq_true_iff, z_cbT]
        exact qb.mp q
      rw [qw, Nat.add_zero] at hK
      simp only [u14_87, u14_88, u14_91, u14_94, u14_97, u14_99, u14_101, u14_102, u14_103, u14_104, u14_107, u14_109, u14_110, u14_113, u14_114, u14_115, u14_117, u14_118, u14_119, u14_122, u14_123, u14_125, u14_128, q_push_s, q_push_n, q_sm_0, q_sm_i, q_sm_r, q_sm_n, q_sm_l, q_c1_0, q_c1_i, q_c1_r, q_c1_n, Nat.zero_add, Nat.reduceAdd, Nat.reduceMul, Nat.reduceSub, Nat.reduceLeDiff, Nat.reduceLT, Nat.reduceEqDiff, true_and, and_true, not_false_eq_true, if_true, if_false, ite_true, ite_false, or_true, true_or, or_false, false_or, not_true_eq_false, gf1_1, gf3_0, h0, n_lt (i := i) (j := N) (by omega) (by omega), e, n_shr (a := c k &&& (63 ^^^ t)) (k := i) (by omega) (by omega), n_and1, e0, q, n_add]
      exact l_fit2 hN ht ht64 hk hck h0 hr d cc (i + 1) a (by omega) hK
    · have qq : t / 2 ^ i % 2 = 0 ∧ c k / 2 ^ i % 2 = 1 := Classical.not_not.mp (fun e => q (qb.mpr e))
      have qw : z_w c N r k t i = z_W c N r (k + 1) (t ||| 2 ^ i) := by
        unfold z_w
        rw [if_pos]
        rw [Bool.and_eq_true, decide_eq_true_iff, z_cbT]
        exact qq
      rw [qw] at hK
      simp only [u14_87, u14_88, u14_91, u14_94, u14_97, u14_99, u14_101, u14_102, u14_103, u14_104, u14_107, u14_109, u14_110, u14_113, u14_114, u14_115, u14_117, u14_118, u14_119, u14_122, u14_123, u14_125, u14_128, q_push_s, q_push_n, q_sm_0, q_sm_i, q_sm_r, q_sm_n, q_sm_l, q_c1_0, q_c1_i, q_c1_r, q_c1_n, Nat.zero_add, Nat.reduceAdd, Nat.reduceMul, Nat.reduceSub, Nat.reduceLeDiff, Nat.reduceLT, Nat.reduceEqDiff, true_and, and_true, not_false_eq_true, if_true, if_false, ite_true, ite_false, or_true, true_or, or_false, false_or, not_true_eq_false, gf1_1, gf1_3, gf3_0, h0, n_lt (i := i) (j := N) (by omega) (by omega), e, n_shr (a := c k &&& (63 ^^^ t)) (k := i) (by omega) (by omega), n_and1, e0, q, n_s1 i (by omega), n_or, c_at (j := t ||| 2 ^ i) sh16 (by decide) (by decide) hor, hr i e qq.1, n_add, Nat.zero_le, Nat.reduceLeDiff]
      exact l_fit2 hN ht ht64 hk hck h0 hr d cc (i + 1) _ (by omega) hK
theorem l_fit3 {N : Nat} {c : Nat → Nat} {x1 x2 : Option Value} (hx2 : q_c1 x2 = true) (hN : N ≤ 6) (hc : ∀ g, g < N → c g < 64) (d : Nat) : ∀ cc m x4 x5 x6, q_c1 x4 = true → q_c1 x5 = true → q_c1 x6 = true → cc ≤ 2 ^ N - 1 → m 3 0 = nI N → (∀ g, g < N → m 17 g = nI (c g)) → (∀ t, cc ≤ t → t < 2 ^ N → m 16 t = nI (z_W c N (N - z_pop t) (z_pop t) t)) → (∀ m', (∀ p, p ≠ 16 → m' p = m p) → (∀ t, t < 2 ^ N → m' 16 t = nI (z_W c N (N - z_pop t) (z_pop t) t)) → K (some (.int (nI (z_W c N N 0 0)))) (GG T L) m') →
    q_R 14 58 (d + 2) [some (.ref 1), x1, x2, some (.int (z_ct cc)), x4, x5, x6] [] (GG T L) m K
  | 0, m, x4, x5, x6, h4, h5, h6, hcc, h0, hch, ht, hK => by
    have e1 : ((-1 : Int32) < nI 0) = True := eq_true (by decide)
    have e2 : z_ct 0 = (-1 : Int32) := rfl
    have e3 : z_pop 0 = 0 := by decide +kernel
    have e4 := ht 0 (Nat.le_refl 0) (Nat.two_pow_pos N)
    rw [e3, Nat.sub_zero] at e4
    rw [e2]
    simp only [u14_58, u14_59, u14_147, u14_148, u14_151, u14_152, u14_155, q_push_s, q_push_n, q_sm_0, q_sm_i, q_sm_r, q_sm_n, q_sm_l, q_c1_0, q_c1_i, q_c1_r, q_c1_n, Nat.zero_add, Nat.reduceAdd, Nat.reduceMul, Nat.reduceSub, Nat.reduceLeDiff, Nat.reduceLT, Nat.reduceEqDiff, true_and, and_true, not_false_eq_true, if_true, if_false, ite_true, ite_false, or_true, true_or, or_false, false_or, not_true_eq_false, e1, gf1_3, c_at (j := 0) sh16 (by decide) (by decide) (by decide), e4, Nat.zero_le, Nat.reduceLeDiff]
    exact hK m (fun _ _ => rfl) (fun t h => ht t (Nat.zero_le t) h)
  | t + 1, m, x4, x5, x6, h4, h5, h6, hcc, h0, hch, ht, hK => by
    have e2 : z_ct (t + 1) = nI t := rfl
    have h64 : 2 ^ N ≤ 64 := Nat.pow_le_pow_right (by decide) (show N ≤ 6 from hN)
    have htl : t < 2 ^ N := by omega
    have hpl := z_popl N (by omega) t (by omega) htl
    have hpn : z_pop t ≠ N := fun e => by
      have := (z_popf N (by omega) t (by omega) htl).mpr e
      omega
    have hp : z_pop t < N := by omega
    have hcp := hc (z_pop t) hp
    have e3 : N - z_pop t = (N - z_pop t - 1) + 1 := by omega
    obtain ⟨q1, q2⟩ := z_fr (c (z_pop t)) hcp t (by omega)
    rw [e2, u14_58]
    simp only [u14_59, u14_62, u14_63, u14_66, u14_67, u14_70, u14_73, u14_74, u14_75, u14_76, u14_77, u14_79, u14_80, u14_82, u14_83, q_push_s, q_push_n, q_sm_0, q_sm_i, q_sm_r, q_sm_n, q_sm_l, q_c1_0, q_c1_i, q_c1_r, q_c1_n, Nat.zero_add, Nat.reduceAdd, Nat.reduceMul, Nat.reduceSub, Nat.reduceLeDiff, Nat.reduceLT, Nat.reduceEqDiff, true_and, and_true, not_false_eq_true, if_true, if_false, ite_true, ite_false, or_true, true_or, or_false, false_or, not_true_eq_false, n_lt0 (j := t) (by omega), gf1_4, c_bits (v := t) (by omega), c_at (j := z_pop t) sh17 (by decide) (by decide) (show z_pop t < 6 by omega), hch (z_pop t) hp, q1, Nat.zero_le, Nat.reduceLeDiff]
    refine l_fit2 (r := N - z_pop t - 1) hN htl (by omega) hp hcp h0 (fun dd hd hb => ?_) d N 0 0 (by omega) ?_
    · have hlt := z_orl t (by omega) dd (by omega) hb
      have hpo := (z_popb t (by omega) dd (by omega)).1
      rw [if_pos hb] at hpo
      have hor : t ||| 2 ^ dd < 2 ^ N := Nat.or_lt_two_pow htl (Nat.pow_lt_pow_right (by decide) hd)
      rw [ht (t ||| 2 ^ dd) (by omega) hor, hpo, show N - (z_pop t + 1) = N - z_pop t - 1 by omega]
    · rw [← z_W_s, ← e3]
      simp only [u14_131, u14_132, u14_135, u14_136, u14_138, u14_141, u14_144, q_push_s, q_push_n, q_sm_0, q_sm_i, q_sm_r, q_sm_n, q_sm_l, q_c1_0, q_c1_i, q_c1_r, q_c1_n, Nat.zero_add, Nat.reduceAdd, Nat.reduceMul, Nat.reduceSub, Nat.reduceLeDiff, Nat.reduceLT, Nat.reduceEqDiff, true_and, and_true, not_false_eq_true, if_true, if_false, ite_true, ite_false, or_true, true_or, or_false, false_or, not_true_eq_false, gf1_3, c_put (j := t) sh16 (by decide) (by decide) (show t < 64 by omega), z_ct_s, hx2, Nat.zero_le, Nat.reduceLeDiff]
      refine l_fit3 hx2 hN hc d t _ _ _ _ (of_eq_true (q_c1_i _)) (of_eq_true (q_c1_i _)) (of_eq_true (q_c1_i _)) (by omega) (by rw [q_up_f _ _ _ (by decide)]; exact h0) (fun g hg => by rw [q_up_f _ _ _ (by decide)]; exact hch g hg) (fun t' h1 h2 => ?_) (fun m' f1 f2 => hK m' (fun p hp => (f1 p hp).trans (q_up_f _ _ _ hp)) f2)
      by_cases q : t' = t
      · rw [q, q_up_eq]
      · rw [q_up_i _ _ q]; exact ht t' (by omega) h2
theorem CJ.fitting {d mt : Nat} (l : CJ T L s tx n h m) (hm : mt < 16) (ht : ∀ g, g < s.1 0 → ∀ o, o < s.1 0 → m 15 (g * 6 + o) = nI (z_lk tx s g o 4)) (hK : ∀ m', (∀ p, p ≠ 16 → p ≠ 17 → m' p = m p) → (∀ g, g < s.1 0 → m' 17 g = nI (z_may tx s g mt)) → (∀ t, t < 2 ^ s.1 0 → m' 16 t = nI (z_W (fun g => z_may tx s g mt) (s.1 0) (s.1 0 - z_pop t) (z_pop t) t)) → K (some (.int (nI (z_fit tx s mt)))) (GG T L) m') : q_C 14 (d + 2) [.ref 1, .int (nI mt)] (GG T L) m K := by
  have h6 := l.bz.1
  have h64 : 2 ^ s.1 0 ≤ 64 := Nat.pow_le_pow_right (by decide) (show s.1 0 ≤ 6 from h6)
  have h1 : 1 ≤ 2 ^ s.1 0 := Nat.two_pow_pos _
  simp only [e14, u14_0, u14_1, u14_2, u14_5, u14_8, u14_9, u14_10, u14_11, u14_12, u14_13, q_push_s, q_push_n, q_sm_0, q_sm_i, q_sm_r, q_sm_n, q_sm_l, q_c1_0, q_c1_i, q_c1_r, q_c1_n, Nat.zero_add, Nat.reduceAdd, Nat.reduceMul, Nat.reduceSub, Nat.reduceLeDiff, Nat.reduceLT, Nat.reduceEqDiff, true_and, and_true, not_false_eq_true, if_true, if_false, ite_true, ite_false, or_true, true_or, or_false, false_or, not_true_eq_false, gf1_1, gf3_0, l.cl.n, n_s1 (s.1 0) (by omega), n_sub h1]
  refine l_fit1 (al := 2 ^ s.1 0 - 1) hm d (s.1 0) 0 m (by omega) l ht (fun m1 f1 l1 g1 => ?_)
  have hp : z_pop (2 ^ s.1 0 - 1) = s.1 0 := (z_popf (s.1 0) (by omega) _ (by omega) (by omega)).mp rfl
  have g17 : ∀ g, g < s.1 0 → m1 17 g = nI (z_may tx s g mt) := fun g hg => by rw [g1 g hg, if_pos (Nat.zero_le g)]
  simp only [u14_45, u14_46, u14_49, u14_50, u14_51, u14_54, u14_55, u14_56, u14_57, q_push_s, q_push_n, q_sm_0, q_sm_i, q_sm_r, q_sm_n, q_sm_l, q_c1_0, q_c1_i, q_c1_r, q_c1_n, Nat.zero_add, Nat.reduceAdd, Nat.reduceMul, Nat.reduceSub, Nat.reduceLeDiff, Nat.reduceLT, Nat.reduceEqDiff, true_and, and_true, not_false_eq_true, if_true, if_false, ite_true, ite_false, or_true, true_or, or_false, false_or, not_true_eq_false, gf1_3, c_put (j := 2 ^ s.1 0 - 1) sh16 (by decide) (by decide) (show 2 ^ s.1 0 - 1 < 64 by omega), z_ct_n, Nat.zero_le, Nat.reduceLeDiff]
  refine l_fit3 (N := s.1 0) (c := fun g => z_may tx s g mt) (of_eq_true (q_c1_i _)) h6 (fun g _ => z_may_lt tx h6 g mt) d (2 ^ s.1 0 - 1) _ _ _ _ (of_eq_true q_c1_0) (of_eq_true q_c1_0) (of_eq_true q_c1_0) (Nat.le_refl _) (by rw [q_up_f _ _ _ (by decide)]; exact l1.cl.n) (fun g hg => by rw [q_up_f _ _ _ (by decide)]; exact g17 g hg) (fun t h2 h3 => ?_) (fun m' f2 g2 => hK m' (fun p p1 p2 => by rw [f2 p p1, q_up_f _ _ _ p1, f1 p p2]) (fun g hg => by rw [f2 17 (by decide), q_up_f _ _ _ (by decide)]; exact g17 g hg) g2)
  have e : t = 2 ^ s.1 0 - 1 := by omega
  rw [e, q_up_eq, hp, Nat.sub_self]
  rfl
end
