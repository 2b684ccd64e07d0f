/-! ===== all draws, told by numbers ===== -/
def z_fo {α : Type} (F : Nat → α → α) : Nat → Nat → α → α
  | 0, _, a => a
  | c + 1, i, a => z_fo F c (i + 1) (F i a)
theorem z_fo_add {α : Type} (F : Nat → α → α) : ∀ c c' i a, z_fo F (c + c') i a = z_fo F c' (i + c) (z_fo F c i a)
  | 0, c', i, a => by rw [Nat.zero_add]; rfl
  | c + 1, c', i, a => by
    have e : c + 1 + c' = (c + c') + 1 := by omega
    have e2 : i + (c + 1) = i + 1 + c := by omega
    rw [e, e2]
    exact z_fo_add F c c' (i + 1) (F i a)
theorem z_fo_blk {α : Type} (F : Nat → α → α) (M : Nat) : ∀ k i a, z_fo F (k * M) (i * M) a = z_fo (fun j a => z_fo F M (j * M) a) k i a
  | 0, i, a => by rw [Nat.zero_mul]; rfl
  | k + 1, i, a => by
    have e : (k + 1) * M = M + k * M := by rw [Nat.succ_mul, Nat.add_comm]
    have e2 : i * M + M = (i + 1) * M := by rw [Nat.succ_mul]
    rw [e, z_fo_add, e2]
    exact z_fo_blk F M k (i + 1) _
theorem z_fo_c {α : Type} {F G : Nat → α → α} : ∀ c i a, (∀ j, i ≤ j → j < i + c → ∀ a, F j a = G j a) → z_fo F c i a = z_fo G c i a
  | 0, _, _, _ => rfl
  | c + 1, i, a, h => by
    show z_fo F c (i + 1) (F i a) = z_fo G c (i + 1) (G i a)
    rw [h i (Nat.le_refl i) (by omega) a]
    exact z_fo_c c (i + 1) _ (fun j h1 h2 => h j (by omega) (by omega))
theorem z_fo_id {α : Type} {F : Nat → α → α} : ∀ c i a, (∀ j, i ≤ j → j < i + c → ∀ a, F j a = a) → z_fo F c i a = a
  | 0, _, _, _ => rfl
  | c + 1, i, a, h => by
    show z_fo F c (i + 1) (F i a) = a
    rw [h i (Nat.le_refl i) (by omega) a]
    exact z_fo_id c (i + 1) _ (fun j h1 h2 => h j (by omega) (by omega))
theorem z_fo_sh {α : Type} (F : Nat → α → α) (b : Nat) : ∀ c i a, z_fo F c (b + i) a = z_fo (fun j => F (b + j)) c i a
  | 0, _, _ => rfl
  | c + 1, i, a => z_fo_sh F b c (i + 1) (F (b + i) a)
theorem z_fo_s {α : Type} (F : Nat → α → α) : ∀ c i a, z_fo F (c + 1) i a = F (i + c) (z_fo F c i a)
  | 0, _, _ => rfl
  | c + 1, i, a => by
    have e : i + (c + 1) = i + 1 + c := by omega
    rw [e]
    exact z_fo_s F c (i + 1) (F i a)
/-- the numbers of a number's digits: who is played; whom each plays -/
def z_sn (n : Nat) : Nat → Nat → Nat
  | 0, _ => 0
  | k + 1, x => z_sn n k (x / n) ||| 2 ^ (x % n)
def z_dd (n : Nat) : Nat → Nat → Nat → Nat
  | 0, _ => fun _ => 0
  | k + 1, x => fun i => if i = k then x % n else z_dd n k (x / n) i
def z_ok (e : Nat → Nat → Bool) (n : Nat) : Nat → Nat → Bool
  | 0, _ => true
  | k + 1, x => z_ok e n k (x / n) && (decide (z_sn n k (x / n) / 2 ^ (x % n) % 2 = 0) && e k (x % n))
def z_tt (_ _ : Nat) : Bool := true
theorem z_ok_iff (e : Nat → Nat → Bool) (n : Nat) : ∀ k x, z_ok e n k x = true ↔ (z_ok z_tt n k x = true ∧ ∀ i, i < k → e i (z_dd n k x i) = true)
  | 0, x => ⟨fun _ => ⟨rfl, fun i h => absurd h (Nat.not_lt_zero i)⟩, fun _ => rfl⟩
  | k + 1, x => by
    have ih := z_ok_iff e n k (x / n)
    have e1 : ∀ e, z_ok e n (k + 1) x = (z_ok e n k (x / n) && (decide (z_sn n k (x / n) / 2 ^ (x % n) % 2 = 0) && e k (x % n))) := fun _ => rfl
    have e2 : ∀ i, z_dd n (k + 1) x i = if i = k then x % n else z_dd n k (x / n) i := fun _ => rfl
    rw [e1, e1, Bool.and_eq_true, Bool.and_eq_true, Bool.and_eq_true, Bool.and_eq_true, ih]
    constructor
    · rintro ⟨⟨a, b⟩, c, f⟩
      refine ⟨⟨a, c, rfl⟩, fun i hi => ?_⟩
      rw [e2]
      by_cases q : i = k
      · rw [if_pos q, q]; exact f
      · rw [if_neg q]; exact b i (by omega)
    · rintro ⟨⟨a, c, _⟩, b⟩
      refine ⟨⟨a, fun i hi => ?_⟩, c, ?_⟩
      · have := b i (by omega)
        rw [e2, if_neg (by omega)] at this
        exact this
      · have := b k (by omega)
        rw [e2, if_pos rfl] at this
        exact this
theorem z_popb : ∀ t, t < 64 → ∀ d, d < 6 → z_pop (t ||| 2 ^ d) = z_pop t + (if t / 2 ^ d % 2 = 0 then 1 else 0) ∧ t ||| 2 ^ d < 64 := by decide +kernel
theorem z_popf : ∀ n, n < 7 → ∀ t, t < 64 → t < 2 ^ n → (t = 2 ^ n - 1 ↔ z_pop t = n) := by decide +kernel
theorem z_sn_b {n : Nat} (hn : n ≤ 6) (h0 : 0 < n) : ∀ k x, z_sn n k x < 2 ^ n ∧ z_pop (z_sn n k x) ≤ k ∧ (z_pop (z_sn n k x) = k ↔ z_ok z_tt n k x = true)
  | 0, x => ⟨Nat.two_pow_pos n, by show z_pop 0 ≤ 0; decide +kernel, ⟨fun _ => rfl, fun _ => by show z_pop 0 = 0; decide +kernel⟩⟩
  | k + 1, x => by
    obtain ⟨h1, h2, h3⟩ := z_sn_b hn h0 k (x / n)
    have h64 : 2 ^ n ≤ 64 := Nat.pow_le_pow_right (by decide) (show n ≤ 6 from hn)
    have hd := Nat.mod_lt x h0
    obtain ⟨p1, p2⟩ := z_popb (z_sn n k (x / n)) (by omega) (x % n) (by omega)
    have e1 : z_sn n (k + 1) x = z_sn n k (x / n) ||| 2 ^ (x % n) := rfl
    have e2 : z_ok z_tt n (k + 1) x = (z_ok z_tt n k (x / n) && (decide (z_sn n k (x / n) / 2 ^ (x % n) % 2 = 0) && true)) := rfl
    rw [e1, e2, p1]
    refine ⟨Nat.or_lt_two_pow h1 (Nat.pow_lt_pow_right (by decide) hd), ?_, ?_⟩
    · split <;> omega
    · rw [Bool.and_true, Bool.and_eq_true, decide_eq_true_iff, ← h3]
      by_cases q : z_sn n k (x / n) / 2 ^ (x % n) % 2 = 0
      · rw [if_pos q]
        exact ⟨fun a => ⟨by omega, q⟩, fun a => by omega⟩
      · rw [if_neg q]
        exact ⟨fun a => by omega, fun a => absurd a.2 q⟩
theorem z_sn_f {n x : Nat} (hn : n ≤ 6) : z_sn n n x = 2 ^ n - 1 ↔ z_ok z_tt n n x = true := by
  by_cases h0 : n = 0
  · subst h0
    exact ⟨fun _ => rfl, fun _ => rfl⟩
  · obtain ⟨h1, h2, h3⟩ := z_sn_b hn (by omega) n x
    have h64 : 2 ^ n ≤ 64 := Nat.pow_le_pow_right (by decide) (show n ≤ 6 from hn)
    rw [z_popf n (by omega) _ (by omega) h1, h3]
/-- prefixes one behind the other -/
def z_D {α : Type} (ok : Nat → Nat → Bool) (A : Nat → α → α) (n : Nat) : Nat → Nat → Nat → α → α
  | 0, k, p, a => if ok k p then A p a else a
  | r + 1, k, p, a => if ok k p then z_fo (fun q a => z_D ok A n r (k + 1) q a) n (p * n) a else a
theorem z_D_n {α : Type} {ok : Nat → Nat → Bool} {A : Nat → α → α} {n r k p : Nat} {a : α} (h : ¬ ok k p = true) : z_D ok A n r k p a = a := by
  cases r with
  | zero => exact if_neg h
  | succ r => exact if_neg h
theorem z_D_e {α : Type} {ok : Nat → Nat → Bool} {A F : Nat → α → α} {n N : Nat} (hn : 0 < n) (her : ∀ k q, ok (k + 1) q = true → ok k (q / n) = true) (hF : ∀ x a, F x a = if ok N x then A x a else a) : ∀ r k p a, k + r = N → z_fo F (n ^ r) (p * n ^ r) a = z_D ok A n r k p a
  | 0, k, p, a, h => by
    have e : k = N := by omega
    subst e
    rw [Nat.pow_zero, Nat.mul_one]
    exact hF p a
  | r + 1, k, p, a, h => by
    have e1 : n ^ (r + 1) = n * n ^ r := by rw [Nat.pow_succ, Nat.mul_comm]
    have e2 : p * n ^ (r + 1) = p * n * n ^ r := by rw [e1, Nat.mul_assoc]
    rw [e2, e1, z_fo_blk]
    have e3 : z_fo (fun j a => z_fo F (n ^ r) (j * n ^ r) a) n (p * n) a = z_fo (fun q a => z_D ok A n r (k + 1) q a) n (p * n) a := z_fo_c n (p * n) a (fun j _ _ a => z_D_e hn her hF r (k + 1) j a (by omega))
    rw [e3]
    by_cases q : ok k p = true
    · exact (if_pos q).symm
    · rw [z_D_n q]
      refine z_fo_id n (p * n) a (fun j h1 h2 a => z_D_n (fun q2 => q ?_))
      have := her k j q2
      have e4 : j / n = p := by
        rw [Nat.div_eq_iff (by omega)]
        omega
      rw [e4] at this
      exact this
/-- the same by whom all play -/
def z_DT {α : Type} (e : Nat → Nat → Bool) (A : (Nat → Nat) → α → α) (n : Nat) : Nat → Nat → Nat → (Nat → Nat) → α → α
  | 0, _, _, dd, a => A dd a
  | r + 1, k, t, dd, a => z_fo (fun d a => if (decide (t / 2 ^ d % 2 = 0) && e k d) then z_DT e A n r (k + 1) (t ||| 2 ^ d) (fun i => if i = k then d else dd i) a else a) n 0 a
theorem z_D_T {α : Type} {e : Nat → Nat → Bool} {A : (Nat → Nat) → α → α} {n N : Nat} (hn : 0 < n) : ∀ r k p a, k + r = N → z_ok e n k p = true → z_D (z_ok e n) (fun x => A (z_dd n N x)) n r k p a = z_DT e A n r k (z_sn n k p) (z_dd n k p) a
  | 0, k, p, a, h, hok => by
    have e1 : k = N := by omega
    subst e1
    exact if_pos hok
  | r + 1, k, p, a, h, hok => by
    refine (if_pos hok).trans ?_
    rw [show p * n = p * n + 0 from rfl, z_fo_sh]
    refine z_fo_c n 0 a (fun d _ hd a => ?_)
    have e1 : (p * n + d) / n = p := by
      rw [Nat.add_comm, Nat.add_mul_div_right _ _ hn, Nat.div_eq_of_lt (by omega), Nat.zero_add]
    have e2 : (p * n + d) % n = d := by
      rw [Nat.add_comm, Nat.add_mul_mod_self_right, Nat.mod_eq_of_lt (by omega)]
    have e3 : z_ok e n (k + 1) (p * n + d) = (decide (z_sn n k p / 2 ^ d % 2 = 0) && e k d) := by
      show (z_ok e n k ((p * n + d) / n) && (decide (z_sn n k ((p * n + d) / n) / 2 ^ ((p * n + d) % n) % 2 = 0) && e k ((p * n + d) % n))) = _
      rw [e1, e2, hok, Bool.true_and]
    by_cases q : (decide (z_sn n k p / 2 ^ d % 2 = 0) && e k d) = true
    · rw [if_pos q, z_D_T hn r (k + 1) (p * n + d) a (by omega) (by rw [e3]; exact q)]
      show z_DT e A n r (k + 1) (z_sn n k ((p * n + d) / n) ||| 2 ^ ((p * n + d) % n)) (fun i => if i = k then (p * n + d) % n else z_dd n k ((p * n + d) / n) i) a = _
      rw [e1, e2]
    · rw [if_neg q]
      exact z_D_n (by rw [e3]; exact q)
theorem z_enum {α : Type} (e : Nat → Nat → Bool) (A : (Nat → Nat) → α → α) {n : Nat} (hn : n ≤ 6) (a : α) : z_fo (fun x a => if z_ok e n n x then A (z_dd n n x) a else a) (n ^ n) 0 a = z_DT e A n n 0 0 (fun _ => 0) a := by
  by_cases h0 : n = 0
  · subst h0
    rfl
  · have hn0 : 0 < n := by omega
    have h1 := z_D_e (ok := z_ok e n) (A := fun x => A (z_dd n n x)) (F := fun x a => if z_ok e n n x then A (z_dd n n x) a else a) (N := n) hn0 (fun k q h => by
      have e1 : z_ok e n (k + 1) q = (z_ok e n k (q / n) && (decide (z_sn n k (q / n) / 2 ^ (q % n) % 2 = 0) && e k (q % n))) := rfl
      rw [e1, Bool.and_eq_true] at h
      exact h.1) (fun x a => rfl) n 0 0 a (by omega)
    rw [Nat.zero_mul] at h1
    rw [h1, z_D_T hn0 n 0 0 a (by omega) rfl]
    rfl
theorem z_dd_lt {n : Nat} (hn : 0 < n) : ∀ k x i, z_dd n k x i < n
  | 0, _, _ => hn
  | k + 1, x, i => by
    show (if i = k then x % n else z_dd n k (x / n) i) < n
    split
    · exact Nat.mod_lt _ hn
    · exact z_dd_lt hn k _ i
/-- a counter that goes down to -1 -/
def z_ct (c : Nat) : Int32 := if c = 0 then (-1 : Int32) else nI (c - 1)
theorem z_ct_s (c : Nat) : nI c + (-1 : Int32) = z_ct c := by
  cases c with
  | zero => decide
  | succ c => exact pk_m1 c
theorem z_ct_n (c : Nat) : nI c - nI 1 = z_ct c := by
  cases c with
  | zero => decide
  | succ c => rw [n_sub (by omega)]; rfl
section
variable {T : List Nat} {L : Nat} {m : q_M} {K : Option Value → q_G → q_M → Prop}
theorem l_num {N : Nat} (hN : N ≤ 6) (h0 : m 38 0 = nI N) (d : Nat) : ∀ c i, i + c = N → (q_R 161 4 d [some (.ref 38), some (.int (nI (N ^ i))), some (.int (nI i))] [] (GG T L) m K ↔ K (some (.int (nI (N ^ N)))) (GG T L) m)
  | 0, i, hi => by
    have e : i = N := by omega
    subst e
    simp only [u161_4, u161_5, u161_6, u161_9, u161_25, u161_26, q_push_s, q_push_n, q_sm_0, q_sm_i, q_sm_r, q_sm_n, q_sm_l, q_c1_0, q_c1_i, q_c1_r, q_c1_n, Nat.zero_add, Nat.reduceAdd, Nat.reduceMul, Nat.reduceSub, Nat.reduceLeDiff, Nat.reduceLT, Nat.reduceEqDiff, true_and, and_true, not_false_eq_true, if_true, if_false, ite_true, ite_false, or_true, true_or, or_false, false_or, not_true_eq_false, gf38_0, h0, n_lt (i := i) (j := i) (by omega) (by omega), Nat.lt_irrefl]
  | c + 1, i, hi => by
    have e : i < N := by omega
    rw [u161_4]
    simp only [u161_5, u161_6, u161_9, u161_12, u161_13, u161_14, u161_17, u161_18, u161_19, u161_22, q_push_s, q_push_n, q_sm_0, q_sm_i, q_sm_r, q_sm_n, q_sm_l, q_c1_0, q_c1_i, q_c1_r, q_c1_n, Nat.zero_add, Nat.reduceAdd, Nat.reduceMul, Nat.reduceSub, Nat.reduceLeDiff, Nat.reduceLT, Nat.reduceEqDiff, true_and, and_true, not_false_eq_true, if_true, if_false, ite_true, ite_false, or_true, true_or, or_false, false_or, not_true_eq_false, gf38_0, h0, n_lt (i := i) (j := N) (by omega) (by omega), e, n_mul, n_add, ← Nat.pow_succ]
    exact l_num hN h0 d c (i + 1) (by omega)
theorem c_num {N : Nat} (hN : N ≤ 6) (h0 : m 38 0 = nI N) (d : Nat) : q_C 161 d [.ref 38] (GG T L) m K ↔ K (some (.int (nI (N ^ N)))) (GG T L) m := by
  simp only [e161, u161_0, u161_1, u161_2, u161_3, q_push_s, q_push_n, q_sm_0, q_sm_i, q_sm_r, q_sm_n, q_sm_l, q_c1_0, q_c1_i, q_c1_r, q_c1_n, Nat.zero_add, Nat.reduceAdd, Nat.reduceMul, Nat.reduceSub, Nat.reduceLeDiff, Nat.reduceLT, Nat.reduceEqDiff, true_and, and_true, not_false_eq_true, if_true, if_false, ite_true, ite_false, or_true, true_or, or_false, false_or, not_true_eq_false]
  exact l_num hN h0 d N 0 (by omega)
theorem z_wn : ∀ n, n < 7 → 0 < n → z_win (nI n) (nI 1) (nI 6) = nI n := by decide +kernel
theorem l_tells {N : Nat} (hN : N ≤ 6) (hN0 : 0 < N) (x1 : Int32) (d : Nat) : ∀ c y t m, c ≤ N → y < 2 ^ 31 → m 38 0 = nI N → (∀ m', (∀ p, p ≠ 56 → m' p = m p) → (∀ i, i < 6 → m' 56 i = if i < c then nI (z_dd N c y i) else m 56 i) → ∀ x2, q_R 162 67 (d + 1) [some (.ref 38), some (.int x1), x2, some (.int (nI (t ||| z_sn N c y))), some (.int (-1 : Int32))] [] (GG T L) m' K) →
    q_R 162 12 (d + 1) [some (.ref 38), some (.int x1), some (.int (nI y)), some (.int (nI t)), some (.int (z_ct c))] [] (GG T L) m K
  | 0, y, t, m, hc, hy, h0, hK => by
    have e1 : ((-1 : Int32) < nI 0) = True := eq_true (by decide)
    have e2 : z_ct 0 = (-1 : Int32) := rfl
    have e3 : z_sn N 0 y = 0 := rfl
    rw [e3, Nat.or_zero] at hK
    rw [e2]
    simp only [u162_12, u162_14, q_push_s, q_push_n, q_sm_0, q_sm_i, q_sm_r, q_sm_n, q_sm_l, q_c1_0, q_c1_i, q_c1_r, q_c1_n, Nat.zero_add, Nat.reduceAdd, Nat.reduceMul, Nat.reduceSub, Nat.reduceLeDiff, Nat.reduceLT, Nat.reduceEqDiff, true_and, and_true, not_false_eq_true, if_true, if_false, ite_true, ite_false, or_true, true_or, or_false, false_or, not_true_eq_false, e1]
    exact hK m (fun _ _ => rfl) (fun i hi => by rw [if_neg (by omega)]) _
  | c + 1, y, t, m, hc, hy, h0, hK => by
    have e1 : (nI c < nI 0) = False := n_lt0 (by omega)
    have e2 : z_ct (c + 1) = nI c := rfl
    have hd := Nat.mod_lt y hN0
    have ec : (nI c).toNatClampNeg = c := n_cl (by omega)
    have ez : (nI N = 0) = False := n_ne0 (by omega) hN0
    have hdv := n_div (a := y) (d := N) hy hN0 (by omega)
    have hrm := n_rem (a := y) (d := N) hy hN0 (by omega)
    have hle : y / N ≤ y := Nat.div_le_self _ _
    rw [e2, u162_12]
    simp only [u162_14, u162_17, u162_18, u162_21, u162_23, u162_24, u162_25, u162_28, u162_29, u162_31, u162_34, u162_35, u162_36, u162_37, u162_38, u162_41, u162_42, u162_44, u162_47, u162_48, u162_49, u162_50, u162_51, u162_52, u162_55, u162_57, u162_58, u162_59, u162_60, u162_61, u162_64, q_push_s, q_push_n, q_sm_0, q_sm_i, q_sm_r, q_sm_n, q_sm_l, q_c1_0, q_c1_i, q_c1_r, q_c1_n, Nat.zero_add, Nat.reduceAdd, Nat.reduceMul, Nat.reduceSub, Nat.reduceLeDiff, Nat.reduceLT, Nat.reduceEqDiff, true_and, and_true, not_false_eq_true, if_true, if_false, ite_true, ite_false, or_true, true_or, or_false, false_or, not_true_eq_false, e1, gf38_0, gf38_35, h0, q_up_f, ne_eq, Nat.reduceEqDiff, c_within, z_wn N (by omega) hN0, ez, hdv, hrm, is56 (i := c) (by omega), ia56 (i := c) (by omega), ec, q_up_eq, n_s1 (y % N) (by omega), n_or, z_ct_s, Nat.zero_le]
    refine l_tells hN hN0 x1 d c (y / N) _ _ (by omega) (by omega) ?_ (fun m' f1 f2 x2 => ?_)
    · rw [q_up_f _ _ _ (by decide)]; exact h0
    have e4 : z_sn N (c + 1) y = z_sn N c (y / N) ||| 2 ^ (y % N) := rfl
    rw [e4, Nat.or_comm (z_sn N c (y / N)), ← Nat.or_assoc] at hK
    refine hK m' (fun p hp => (f1 p hp).trans (q_up_f _ _ _ hp)) (fun i hi => ?_) x2
    rw [f2 i hi]
    have e5 : z_dd N (c + 1) y i = if i = c then y % N else z_dd N c (y / N) i := rfl
    rw [e5]
    by_cases q : i = c
    · subst q
      rw [if_neg (by omega), if_pos (by omega), if_pos rfl, q_up_eq]
    · rw [q_up_i _ _ q]
      by_cases q2 : i < c
      · rw [if_pos q2, if_pos (by omega), if_neg q]
      · rw [if_neg q2, if_neg (by omega)]
theorem c_tells {N x d : Nat} (hN : N ≤ 6) (hx : x < 46657) (h0 : m 38 0 = nI N) (hK : ∀ m', (∀ p, p ≠ 56 → m' p = m p) → (∀ i, i < N → m' 56 i = nI (z_dd N N x i)) → K (some (.int (z_b (z_ok z_tt N N x = true)))) (GG T L) m') : q_C 162 (d + 1) [.ref 38, .int (nI x)] (GG T L) m K := by
  have hb := @z_sn_f N x hN
  have fin : ∀ m1, (∀ p, p ≠ 56 → m1 p = m p) → (∀ i, i < N → m1 56 i = nI (z_dd N N x i)) → z_sn N N x < 64 → ∀ (x1 : Int32) x2, q_R 162 67 (d + 1) [some (.ref 38), some (.int x1), x2, some (.int (nI (z_sn N N x))), some (.int (-1 : Int32))] [] (GG T L) m1 K := by
    intro m1 f1 f2 h64 x1 x2
    have e0 : m1 38 0 = nI N := by rw [f1 38 (by decide)]; exact h0
    have h2 : 2 ^ N ≤ 64 := Nat.pow_le_pow_right (by decide) (show N ≤ 6 from hN)
    have h1 : 1 ≤ 2 ^ N := Nat.two_pow_pos N
    have hq := hK m1 f1 f2
    by_cases q : z_ok z_tt N N x = true
    · rw [z_b_1 q] at hq
      simp only [u162_67, u162_68, u162_69, u162_70, u162_73, u162_74, u162_75, u162_76, u162_79, u162_80, u162_83, u162_84, q_push_s, q_push_n, q_sm_0, q_sm_i, q_sm_r, q_sm_n, q_sm_l, q_c1_0, q_c1_i, q_c1_r, q_c1_n, Nat.zero_add, Nat.reduceAdd, Nat.reduceMul, Nat.reduceSub, Nat.reduceLeDiff, Nat.reduceLT, Nat.reduceEqDiff, true_and, and_true, not_false_eq_true, if_true, if_false, ite_true, ite_false, or_true, true_or, or_false, false_or, not_true_eq_false, gf38_0, e0, n_s1 N (by omega), n_sub h1, n_eq (i := z_sn N N x) (j := 2 ^ N - 1) (by omega) (by omega), hb.mpr q, z_r1]
      exact hq
    · rw [z_b_0 q] at hq
      have q2 : ¬ z_sn N N x = 2 ^ N - 1 := fun e => q (hb.mp e)
      simp only [u162_67, u162_68, u162_69, u162_70, u162_73, u162_74, u162_75, u162_76, u162_79, u162_80, u162_83, u162_84, q_push_s, q_push_n, q_sm_0, q_sm_i, q_sm_r, q_sm_n, q_sm_l, q_c1_0, q_c1_i, q_c1_r, q_c1_n, Nat.zero_add, Nat.reduceAdd, Nat.reduceMul, Nat.reduceSub, Nat.reduceLeDiff, Nat.reduceLT, Nat.reduceEqDiff, true_and, and_true, not_false_eq_true, if_true, if_false, ite_true, ite_false, or_true, true_or, or_false, false_or, not_true_eq_false, gf38_0, e0, n_s1 N (by omega), n_sub h1, n_eq (i := z_sn N N x) (j := 2 ^ N - 1) (by omega) (by omega), q2, z_r0]
      exact hq
  simp only [e162, u162_0, u162_1, u162_2, u162_3, u162_4, u162_5, u162_8, u162_9, u162_10, q_push_s, q_push_n, q_sm_0, q_sm_i, q_sm_r, q_sm_n, q_sm_l, q_c1_0, q_c1_i, q_c1_r, q_c1_n, Nat.zero_add, Nat.reduceAdd, Nat.reduceMul, Nat.reduceSub, Nat.reduceLeDiff, Nat.reduceLT, Nat.reduceEqDiff, true_and, and_true, not_false_eq_true, if_true, if_false, ite_true, ite_false, or_true, true_or, or_false, false_or, not_true_eq_false, gf38_0, h0, z_ct_n]
  by_cases hN0 : N = 0
  · subst hN0
    have e1 : ((-1 : Int32) < nI 0) = True := eq_true (by decide)
    have e2 : z_ct 0 = (-1 : Int32) := rfl
    rw [e2]
    simp only [u162_12, u162_14, q_push_s, q_push_n, q_sm_0, q_sm_i, q_sm_r, q_sm_n, q_sm_l, q_c1_0, q_c1_i, q_c1_r, q_c1_n, Nat.zero_add, Nat.reduceAdd, Nat.reduceMul, Nat.reduceSub, Nat.reduceLeDiff, Nat.reduceLT, Nat.reduceEqDiff, true_and, and_true, not_false_eq_true, if_true, if_false, ite_true, ite_false, or_true, true_or, or_false, false_or, not_true_eq_false, e1]
    exact fin m (fun _ _ => rfl) (fun i hi => absurd hi (by omega)) (by show 0 < 64; decide) _ _
  · obtain ⟨h1, h2, h3⟩ := z_sn_b hN (by omega) N x
    have h4 : 2 ^ N ≤ 64 := Nat.pow_le_pow_right (by decide) (show N ≤ 6 from hN)
    refine l_tells hN (by omega) _ d N x 0 m (Nat.le_refl N) (by omega) h0 (fun m' f1 f2 x2 => ?_)
    rw [Nat.zero_or]
    exact fin m' f1 (fun i hi => by rw [f2 i (by omega), if_pos hi]) (by omega) _ x2
end
