/-! ===== the texts on both sides ===== -/
def z_off (f : Nat → List Nat) : Nat → Nat
  | 0 => 0
  | p + 1 => z_off f p + (f p).length
/-- all texts are sound -/
def TXW (tx : Nat → Nat → List Nat) (n : Nat) : Prop := ∀ t, t < n → z_off (tx t) 3 ≤ 157 ∧ ∀ p, p < 3 → z_rp (tx t p) 0 1
/-- the reference's -/
def TXM (tx : Nat → Nat → List Nat) (n : Nat) (m : q_M) : Prop := ∀ t, t < n → (∀ p, p < 4 → m 45 (4 * t + p) = nI (z_off (tx t) p)) ∧ ∀ p, p < 3 → ∀ i (h : i < (tx t p).length), m 44 (200 * t + (z_off (tx t) p + i)) = nI (tx t p)[i]
/-- where the class's text t stands, and its steps -/
def z_pl (t : Nat) : Nat := if t = 0 then 10 else 56 + 2 * t
def z_ps (t : Nat) : Nat := if t = 0 then 11 else 57 + 2 * t
def TXC (T : List Nat) (L : Nat) (tx : Nat → Nat → List Nat) (n : Nat) (m : q_M) : Prop := ∀ t, t < n → (GG T L).1 (z_ps t) = .inl (z_off (tx t) 3 + 3) ∧ (GG T L).1 (z_pl t) = .inr (.inr (6, [some (.ref (z_ps t)), none, none])) ∧
  m (z_pl t) 1 = nI (z_off (tx t) 1 + 1) ∧ m (z_pl t) 2 = nI (z_off (tx t) 2 + 2) ∧ ∀ p, p < 3 → m (z_ps t) (z_off (tx t) (p + 1) + p) = (-20 : Int32) ∧ ∀ i (h : i < (tx t p).length), m (z_ps t) (z_off (tx t) p + p + i) = z_cc (tx t p)[i]
theorem z_off3 (f : Nat → List Nat) {p : Nat} (h : p < 3) : z_off f p + (f p).length ≤ z_off f 3 := by
  match p, h with
  | 0, _ => simp only [z_off]; omega
  | 1, _ => simp only [z_off]; omega
  | 2, _ => simp only [z_off]; omega
section
variable {T : List Nat} {L d : Nat} {m : q_M} {K : Option Value → q_G → q_M → Prop}
theorem c_says8 {tx : Nat → Nat → List Nat} {n r p : Nat} {nm : Nat → Int32} (hx : TXM tx n m) (hw : TXW tx n) (hr : r < n) (hn6 : n ≤ 6) (hp : p < 3) (hrr : m 38 11 = nI r) (hn : ∀ c, c < 6 → m 54 c = nm c)
    (hK : ∀ m', (∀ j, j ≠ 53 → m' j = m j) → K (some (.int (z_ev nm (tx r p) (fun _ => 0) 0 0))) (GG T L) m') :
    q_C 138 (d + 1) [.ref 38, .int (nI p)] (GG T L) m K := by
  obtain ⟨h1, h2⟩ := hx r hr
  obtain ⟨h3, h4⟩ := hw r hr
  have h5 := z_off3 (tx r) hp
  simp only [e138, u138_0, u138_1, u138_2, u138_3, u138_6, u138_7, u138_8, u138_11, u138_12, u138_13, u138_14, u138_15, q_push_s, q_push_n, q_sm_0, q_sm_i, q_sm_r, q_sm_n, q_sm_l, q_c1_0, q_c1_i, q_c1_r, q_c1_n, Nat.zero_add, Nat.reduceAdd, Nat.reduceMul, Nat.reduceSub, Nat.reduceLeDiff, Nat.reduceLT, Nat.reduceEqDiff, true_and, and_true, not_false_eq_true, if_true, if_false, ite_true, ite_false, or_true, true_or, or_false, false_or, not_true_eq_false, gf38_9, gf38_11, hrr, n_mul, n_add, ia45 (i := 4 * r + p) (by omega), h1 p (by omega)]
  refine l_says8 (by omega) hp nm d (tx r p) m (z_off (tx r) p) 0 1 (fun _ => 0) none (h2 p hp) ?_ (by omega) hrr hn (fun i hi => absurd hi (by omega)) (by omega) (h4 p hp) (fun m' k' n' a4 e1 e2 => ?_)
  · exact h1 (p + 1) (by omega)
  · simp only [u138_197, u138_198, u138_201, u138_202, u138_203, q_push_s, q_push_n, q_sm_0, q_sm_i, q_sm_r, q_sm_n, q_sm_l, q_c1_0, q_c1_i, q_c1_r, q_c1_n, Nat.zero_add, Nat.reduceAdd, Nat.reduceMul, Nat.reduceSub, Nat.reduceLeDiff, Nat.reduceLT, Nat.reduceEqDiff, true_and, and_true, not_false_eq_true, if_true, if_false, ite_true, ite_false, or_true, true_or, or_false, false_or, not_true_eq_false, gf38_30]
    have e3 : q_ia (GG T L) m' 53 (nI 0) (fun x => K (some (.int x)) (GG T L) m') := (ia53 (i := 0) (by decide)).mpr (by rw [e2 0 (by decide)]; exact hK m' e1)
    exact e3
end
