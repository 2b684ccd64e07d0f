/-! ===== the least sum: numbers that may be below 0 ===== -/
def jI (x : Int) : Int32 := Int32.ofInt x
theorem jI_t {x : Int} (h1 : -2000000 ≤ x) (h2 : x ≤ 2000000) : (jI x).toInt = x := Int32.toInt_ofInt_of_le (by omega) (by omega)
theorem jI_n (n : Nat) : nI n = jI (n : Int) := Int32.ofInt_eq_ofNat.symm
theorem jI_add (a b : Int) : jI a + jI b = jI (a + b) := (Int32.ofInt_add a b).symm
theorem jI_neg (a : Int) : -jI a = jI (-a) := (Int32.ofInt_neg a).symm
theorem jI_lt {a b : Int} (h1 : -2000000 ≤ a) (h2 : a ≤ 2000000) (h3 : -2000000 ≤ b) (h4 : b ≤ 2000000) : (jI a < jI b) = (a < b) := by
  rw [Int32.lt_iff_toInt_lt, jI_t h1 h2, jI_t h3 h4]
theorem jI_eq {a b : Int} (h1 : -2000000 ≤ a) (h2 : a ≤ 2000000) (h3 : -2000000 ≤ b) (h4 : b ≤ 2000000) : (jI a = jI b) = (a = b) := by
  rw [← Int32.toInt_inj, jI_t h1 h2, jI_t h3 h4]
def z_far : Int := 1000000
theorem jI_far : nI 1000000 = jI z_far := jI_n 1000000
def z_e (n g d : Nat) : Bool := decide (n ≤ 1 ∨ g ≠ d)
theorem z_eT {n g d : Nat} : z_e n g d = true ↔ (n ≤ 1 ∨ g ≠ d) := decide_eq_true_iff
def z_imin (a b : Int) : Int := if b < a then b else a
def z_L (w : Nat → Nat → Int) (n : Nat) : Nat → Nat → Nat → Int
  | 0, _, _ => 0
  | r + 1, k, t => z_fo (fun d a => z_imin a (if (decide (t / 2 ^ d % 2 = 0) && z_e n k d) then (if z_L w n r (k + 1) (t ||| 2 ^ d) = z_far then z_far else z_L w n r (k + 1) (t ||| 2 ^ d) + w k d) else z_far)) n 0 z_far
def z_sb (w : Nat → Nat → Int) (n r k t d : Nat) : Int := if (decide (t / 2 ^ d % 2 = 0) && z_e n k d) then (if z_L w n r (k + 1) (t ||| 2 ^ d) = z_far then z_far else z_L w n r (k + 1) (t ||| 2 ^ d) + w k d) else z_far
theorem z_L_s (w : Nat → Nat → Int) (n r k t : Nat) : z_L w n (r + 1) k t = z_fo (fun d a => z_imin a (z_sb w n r k t d)) n 0 z_far := rfl
/-- the least of c from i on -/
def z_mx (f : Nat → Int) : Nat → Nat → Int
  | 0, _ => z_far
  | c + 1, i => z_imin (f i) (z_mx f c (i + 1))
theorem z_imin_a (a b c : Int) : z_imin (z_imin a b) c = z_imin a (z_imin b c) := by
  unfold z_imin
  by_cases h1 : b < a <;> by_cases h2 : c < b <;> by_cases h3 : c < a <;> simp only [h1, h2, h3, if_true, if_false] <;> omega
theorem z_fo_mx (f : Nat → Int) (hf : ∀ d, f d ≤ z_far) : ∀ c i a, a ≤ z_far → z_fo (fun d a => z_imin a (f d)) c i a = z_imin a (z_mx f c i)
  | 0, i, a, ha => by
    show a = z_imin a z_far
    unfold z_imin
    rw [if_neg (by omega)]
  | c + 1, i, a, ha => by
    have h1 : z_imin a (f i) ≤ z_far := by unfold z_imin; have := hf i; split <;> omega
    show z_fo (fun d a => z_imin a (f d)) c (i + 1) (z_imin a (f i)) = z_imin a (z_imin (f i) (z_mx f c (i + 1)))
    rw [z_fo_mx f hf c (i + 1) _ h1, z_imin_a]
theorem z_mx_le (f : Nat → Int) (hf : ∀ d, f d ≤ z_far) : ∀ c i, z_mx f c i ≤ z_far
  | 0, _ => Int.le_refl _
  | c + 1, i => by
    show z_imin (f i) (z_mx f c (i + 1)) ≤ z_far
    have := hf i
    unfold z_imin
    split <;> omega
/-- between -100 r and 100 r, or far -/
def z_bd (r : Nat) (x : Int) : Prop := x = z_far ∨ (-(100 * (r : Int)) ≤ x ∧ x ≤ 100 * (r : Int))
theorem z_mx_bd (f : Nat → Int) {r : Nat} (hf : ∀ d, z_bd r (f d)) : ∀ c i, z_bd r (z_mx f c i)
  | 0, _ => Or.inl rfl
  | c + 1, i => by
    show z_bd r (z_imin (f i) (z_mx f c (i + 1)))
    have h1 := hf i
    have h2 := z_mx_bd f hf c (i + 1)
    unfold z_imin
    split
    · exact h2
    · exact h1
theorem z_L_bd {w : Nat → Nat → Int} {n : Nat} (hw : ∀ g d, -100 ≤ w g d ∧ w g d ≤ 100) : ∀ r k t, r ≤ 6 → z_bd r (z_L w n r k t)
  | 0, k, t, _ => Or.inr (by show -(100 * (0 : Int)) ≤ 0 ∧ (0 : Int) ≤ 100 * (0 : Int); omega)
  | r + 1, k, t, hr => by
    have hsb : ∀ d, z_bd (r + 1) (z_sb w n r k t d) := by
      intro d
      unfold z_sb
      split
      · have h1 := z_L_bd (n := n) hw r (k + 1) (t ||| 2 ^ d) (by omega)
        have h2 := hw k d
        split
        · exact Or.inl rfl
        · next q =>
          rcases h1 with h1 | h1
          · exact absurd h1 q
          · refine Or.inr ?_
            have e : ((r + 1 : Nat) : Int) = (r : Int) + 1 := rfl
            rw [e]
            omega
      · exact Or.inl rfl
    have hfar : ∀ d, z_sb w n r k t d ≤ z_far := by
      intro d
      rcases hsb d with h | h
      · omega
      · have e : z_far = 1000000 := rfl
        have e2 : ((r + 1 : Nat) : Int) = (r : Int) + 1 := rfl
        rw [e2] at h
        omega
    rw [z_L_s, z_fo_mx _ hfar n 0 z_far (Int.le_refl _)]
    have := z_mx_bd _ hsb n 0
    have hle := z_mx_le _ hfar n 0
    unfold z_imin
    split
    · exact this
    · exact Or.inl rfl
theorem z_sb_bd {w : Nat → Nat → Int} {n : Nat} (hw : ∀ g d, -100 ≤ w g d ∧ w g d ≤ 100) {r k t d : Nat} (hr : r ≤ 5) : z_bd (r + 1) (z_sb w n r k t d) := by
  unfold z_sb
  split
  · have h1 := z_L_bd hw (n := n) r (k + 1) (t ||| 2 ^ d) (by omega)
    have h2 := hw k d
    split
    · exact Or.inl rfl
    · next q =>
      rcases h1 with h1 | h1
      · exact absurd h1 q
      · refine Or.inr ?_
        have e : ((r + 1 : Nat) : Int) = (r : Int) + 1 := rfl
        rw [e]
        omega
  · exact Or.inl rfl
theorem z_bd_r {r : Nat} {x : Int} (h : z_bd r x) (hr : r ≤ 6) : -2000000 ≤ x ∧ x ≤ 2000000 ∧ x ≤ z_far ∧ (x ≠ z_far → -600 ≤ x ∧ x ≤ 600) := by
  have e : z_far = 1000000 := rfl
  rcases h with h | h
  · exact ⟨by omega, by omega, by omega, fun q => absurd h q⟩
  · exact ⟨by omega, by omega, by omega, fun _ => by omega⟩
theorem z_L_mx {w : Nat → Nat → Int} {n : Nat} (hw : ∀ g d, -100 ≤ w g d ∧ w g d ≤ 100) (r k t : Nat) (hr : r ≤ 5) : z_L w n (r + 1) k t = z_mx (z_sb w n r k t) n 0 := by
  have hfar : ∀ d, z_sb w n r k t d ≤ z_far := fun d => (z_bd_r (z_sb_bd hw hr) (by omega)).2.2.1
  rw [z_L_s, z_fo_mx _ hfar n 0 z_far (Int.le_refl _)]
  have hle := z_mx_le _ hfar n 0
  unfold z_imin
  split
  · rfl
  · omega
/-- which is chosen -/
def z_pk (f : Nat → Int) (M : Int) (d : Nat) : Bool := decide (f d ≠ z_far ∧ f d = M)
theorem z_pkT {f : Nat → Int} {M : Int} {d : Nat} : z_pk f M d = true ↔ (f d ≠ z_far ∧ f d = M) := decide_eq_true_iff
def z_gl (w : Nat → Nat → Int) (n : Nat) : Nat → Nat → Nat → (Nat → Nat) → (Nat → Nat)
  | 0, _, _, dd => dd
  | r + 1, k, t, dd => z_gl w n r (k + 1) (t ||| 2 ^ z_min (z_pk (z_sb w n r k t) (z_L w n (r + 1) k t)) n 0) (fun i => if i = k then z_min (z_pk (z_sb w n r k t) (z_L w n (r + 1) k t)) n 0 else dd i)
def z_sm' (w : Nat → Nat → Int) (dd : Nat → Nat) : Nat → Int
  | 0 => 0
  | k + 1 => z_sm' w dd k + w k (dd k)
theorem z_sm_c (w : Nat → Nat → Int) {dd dd2 : Nat → Nat} : ∀ k, (∀ i, i < k → dd i = dd2 i) → z_sm' w dd k = z_sm' w dd2 k
  | 0, _ => rfl
  | k + 1, h => by
    show z_sm' w dd k + w k (dd k) = z_sm' w dd2 k + w k (dd2 k)
    rw [z_sm_c w k (fun i hi => h i (by omega)), h k (by omega)]
/-- the best so far: whether there is one, its digits, how much -/
def z_bt' (v : Int) (g : Nat) (a : Bool × Nat × Int) : Bool × Nat × Int := if a.1 = false ∨ v < a.2.2 then (true, g, v) else (true, a.2.1, a.2.2)
def z_bA (w : Nat → Nat → Int) (n : Nat) (dd : Nat → Nat) (a : Bool × Nat × Int) : Bool × Nat × Int := z_bt' (z_sm' w dd n) (z_dg dd n) a
theorem z_bt_bt (v v' : Int) (g g' : Nat) (a : Bool × Nat × Int) : z_bt' v' g' (z_bt' v g a) = if v' < v then z_bt' v' g' a else z_bt' v g a := by
  obtain ⟨b, x, y⟩ := a
  unfold z_bt'
  cases b
  · rw [if_pos (Or.inl rfl), if_pos (Or.inl rfl)]
    show (if true = false ∨ v' < v then (true, g', v') else (true, g, v)) = _
    by_cases q : v' < v
    · rw [if_pos (Or.inr q), if_pos q]
    · rw [if_neg (fun e => e.elim (fun e => by cases e) q), if_neg q]
  · show (if (if true = false ∨ v < y then (true, g, v) else (true, x, y)).1 = false ∨ v' < (if true = false ∨ v < y then (true, g, v) else (true, x, y)).2.2 then (true, g', v') else (true, (if true = false ∨ v < y then (true, g, v) else (true, x, y)).2.1, (if true = false ∨ v < y then (true, g, v) else (true, x, y)).2.2)) = if v' < v then (if true = false ∨ v' < y then (true, g', v') else (true, x, y)) else (if true = false ∨ v < y then (true, g, v) else (true, x, y))
    have hz : ∀ p : Prop, (true = false ∨ p) ↔ p := fun p => ⟨fun e => e.elim (fun e => by cases e) id, Or.inr⟩
    by_cases q1 : v < y
    · rw [if_pos ((hz _).mpr q1)]
      by_cases q2 : v' < v
      · rw [if_pos ((hz _).mpr q2), if_pos q2, if_pos ((hz _).mpr (by omega))]
      · rw [if_neg (fun e => q2 ((hz _).mp e)), if_neg q2]
    · rw [if_neg (fun e => q1 ((hz _).mp e))]
      by_cases q2 : v' < v
      · rw [if_pos q2]
      · rw [if_neg q2, if_neg (fun e => by have := (hz _).mp e; have h : v' < y := this; omega)]
theorem z_fo_bst (f : Nat → Int) (hf : ∀ d, f d ≤ z_far) (S : Int) (X : Nat → Nat) (F : Nat → Bool × Nat × Int → Bool × Nat × Int) (hF : ∀ d a, F d a = if f d = z_far then a else z_bt' (S + f d) (X d) a) : ∀ c i a, z_fo F c i a = if z_mx f c i = z_far then a else z_bt' (S + z_mx f c i) (X (z_min (z_pk f (z_mx f c i)) c i)) a
  | 0, i, a => by
    have e : z_mx f 0 i = z_far := rfl
    rw [e, if_pos rfl]
    rfl
  | c + 1, i, a => by
    have e1 : z_mx f (c + 1) i = z_imin (f i) (z_mx f c (i + 1)) := rfl
    have e2 : ∀ P, z_min P (c + 1) i = if P i = true then i else z_min P c (i + 1) := fun _ => rfl
    show z_fo F c (i + 1) (F i a) = _
    rw [z_fo_bst f hf S X F hF c (i + 1), hF, e1, e2]
    have h1 := hf i
    have h2 := z_mx_le f hf c (i + 1)
    generalize z_mx f c (i + 1) = M at h2 ⊢
    by_cases q1 : f i = z_far
    · by_cases q2 : M = z_far
      · have e3 : z_imin (f i) M = z_far := by unfold z_imin; rw [if_neg (by omega)]; exact q1
        rw [if_pos q1, if_pos q2, e3, if_pos rfl]
      · have e3 : z_imin (f i) M = M := by unfold z_imin; rw [if_pos (by omega)]
        rw [if_pos q1, if_neg q2, e3, if_neg q2, if_neg (show ¬ z_pk f M i = true from fun e => (z_pkT.mp e).1 q1)]
    · by_cases q2 : M = z_far
      · have e3 : z_imin (f i) M = f i := by unfold z_imin; rw [if_neg (by omega)]
        rw [if_neg q1, if_pos q2, e3, if_neg q1, if_pos (z_pkT.mpr ⟨q1, rfl⟩)]
      · rw [if_neg q1, if_neg q2, z_bt_bt]
        by_cases q3 : M < f i
        · have e3 : z_imin (f i) M = M := by unfold z_imin; rw [if_pos q3]
          rw [e3, if_neg q2, if_neg (show ¬ z_pk f M i = true from fun e => by have := (z_pkT.mp e).2; omega), if_pos (show S + M < S + f i by omega)]
        · have e3 : z_imin (f i) M = f i := by unfold z_imin; rw [if_neg q3]
          rw [e3, if_neg q1, if_pos (z_pkT.mpr ⟨q1, rfl⟩), if_neg (show ¬ S + M < S + f i by omega)]
theorem z_best_DT {w : Nat → Nat → Int} {n : Nat} (hw : ∀ g d, -100 ≤ w g d ∧ w g d ≤ 100) (hn : n ≤ 6) : ∀ r k t dd a, k + r = n → z_DT (z_e n) (z_bA w n) n r k t dd a = if z_L w n r k t = z_far then a else z_bt' (z_sm' w dd k + z_L w n r k t) (z_dg (z_gl w n r k t dd) n) a
  | 0, k, t, dd, a, h => by
    have e0 : z_L w n 0 k t = 0 := rfl
    have e1 : z_DT (z_e n) (z_bA w n) n 0 k t dd a = z_bt' (z_sm' w dd n) (z_dg dd n) a := rfl
    have e2 : z_gl w n 0 k t dd = dd := rfl
    have e3 : k = n := by omega
    rw [e0, e1, e2, if_neg (by decide), Int.add_zero, e3]
  | r + 1, k, t, dd, a, h => by
    have hsb : ∀ d, z_sb w n r k t d ≤ z_far := fun d => (z_bd_r (z_sb_bd hw (by omega)) (by omega)).2.2.1
    rw [z_L_mx hw r k t (by omega)]
    refine (z_fo_bst (z_sb w n r k t) hsb (z_sm' w dd k) (fun d => z_dg (z_gl w n r (k + 1) (t ||| 2 ^ d) (fun i => if i = k then d else dd i)) n) _ (fun d a => ?_) n 0 a).trans ?_
    · show (if (decide (t / 2 ^ d % 2 = 0) && z_e n k d) = true then z_DT (z_e n) (z_bA w n) n r (k + 1) (t ||| 2 ^ d) (fun i => if i = k then d else dd i) a else a) = _
      unfold z_sb
      by_cases q : (decide (t / 2 ^ d % 2 = 0) && z_e n k d) = true
      · rw [if_pos q, if_pos q, z_best_DT hw hn r (k + 1) _ _ a (by omega)]
        have hb := z_bd_r (z_L_bd hw (n := n) r (k + 1) (t ||| 2 ^ d) (by omega)) (by omega)
        have hwd := hw k d
        by_cases q2 : z_L w n r (k + 1) (t ||| 2 ^ d) = z_far
        · rw [if_pos q2, if_pos q2, if_pos rfl]
        · have hb2 := hb.2.2.2 q2
          have e : z_far = 1000000 := rfl
          rw [if_neg q2, if_neg q2, if_neg (by omega)]
          have e1 : z_sm' w (fun i => if i = k then d else dd i) (k + 1) = z_sm' w dd k + w k d := by
            show z_sm' w (fun i => if i = k then d else dd i) k + w k (if k = k then d else dd k) = _
            rw [if_pos rfl, z_sm_c w k (fun i hi => if_neg (by omega))]
          rw [e1]
          congr 1
          omega
      · rw [if_neg q, if_neg q, if_pos rfl]
    · rw [← z_L_mx hw r k t (by omega)]
      rfl
