/-! ===== WHAT A STATE IS: scalars (0 how many guests, 1 the night, 2 the law), rows (0 kind, 1 more, 2 manners, 3 plays, 4 purse) by guest, often ===== -/
abbrev ZS : Type := (Nat → Nat) × (Nat → Nat → Nat) × (Nat → Int32)
/-- a club of the class at place c, its rows behind it -/
def ICl (c : Nat) (s : ZS) (m : q_M) : Prop := (∀ f, f < 3 → m c f = nI (s.1 f)) ∧ (∀ r, r < 5 → ∀ g, g < s.1 0 → m (c + 1 + r) g = nI (s.2.1 r g)) ∧ ∀ i, i < 36 → m (c + 6) i = s.2.2 i
/-- the reference's -/
def IMo (s : ZS) (m : q_M) : Prop := (m 38 0 = nI (s.1 0) ∧ m 38 5 = nI (s.1 1) ∧ m 38 11 = nI (s.1 2)) ∧ (∀ g, g < s.1 0 → m 39 g = nI (s.2.1 0 g) ∧ m 40 g = nI (s.2.1 1 g)) ∧ (∀ g, g < s.1 0 → ∀ r, r < 3 → m 41 (3 * g + r) = nI (s.2.1 (2 + r) g)) ∧ ∀ i, i < 36 → m 42 i = s.2.2 i
/-- of who has not come often is 0 -/
def BO (s : ZS) : Prop := ∀ i, i < 36 → s.1 0 ≤ i / 6 ∨ s.1 0 ≤ i % 6 → s.2.2 i = nI 0
def BZ (s : ZS) : Prop := s.1 0 ≤ 6 ∧ (s.1 1 ≤ 99 ∧ BO s) ∧ s.1 2 < 6 ∧ ∀ g, g < s.1 0 → s.2.1 0 g < 6 ∧ s.2.1 1 g < 10 ∧ s.2.1 2 g < 256 ∧ s.2.1 3 g < s.1 0 ∧ s.2.1 4 g ≤ 9999
theorem BZ.n6 {s : ZS} (h : BZ s) : s.1 0 ≤ 6 := h.1
theorem BZ.bo {s : ZS} (h : BZ s) : BO s := h.2.1.2
/-- a kept club of the class: who was there never goes, so KIND and MORE are not kept -/
def ICk (c : Nat) (s : ZS) (m : q_M) : Prop := (∀ f, f < 3 → m c f = nI (s.1 f)) ∧ (∀ r, r < 5 → 2 ≤ r → ∀ g, g < s.1 0 → m (c + 1 + r) g = nI (s.2.1 r g)) ∧ ∀ i, i < 36 → m (c + 6) i = s.2.2 i
theorem ICl.ck {c : Nat} {s : ZS} {m : q_M} (h : ICl c s m) : ICk c s m := ⟨h.1, fun r hr _ => h.2.1 r hr, h.2.2⟩
section
variable {s : ZS} {m m' : q_M}
theorem ICl.n (h : ICl 3 s m) : m 3 0 = nI (s.1 0) := h.1 0 (by decide)
theorem ICl.nt (h : ICl 3 s m) : m 3 1 = nI (s.1 1) := h.1 1 (by decide)
theorem ICl.lw (h : ICl 3 s m) : m 3 2 = nI (s.1 2) := h.1 2 (by decide)
theorem ICl.k (h : ICl 3 s m) : ∀ g, g < s.1 0 → m 4 g = nI (s.2.1 0 g) := h.2.1 0 (by decide)
theorem ICl.mo (h : ICl 3 s m) : ∀ g, g < s.1 0 → m 5 g = nI (s.2.1 1 g) := h.2.1 1 (by decide)
theorem ICl.ma (h : ICl 3 s m) : ∀ g, g < s.1 0 → m 6 g = nI (s.2.1 2 g) := h.2.1 2 (by decide)
theorem ICl.pl (h : ICl 3 s m) : ∀ g, g < s.1 0 → m 7 g = nI (s.2.1 3 g) := h.2.1 3 (by decide)
theorem ICl.pu (h : ICl 3 s m) : ∀ g, g < s.1 0 → m 8 g = nI (s.2.1 4 g) := h.2.1 4 (by decide)
theorem ICl.of (h : ICl 3 s m) : ∀ i, i < 36 → m 9 i = s.2.2 i := h.2.2
theorem ICl.fr (h : ICl 3 s m) (hm : ∀ k, 3 ≤ k → k < 10 → m' k = m k) : ICl 3 s m' := by
  refine ⟨fun f hf => ?_, fun r hr g hg => ?_, fun i hi => ?_⟩
  · rw [hm 3 (by omega) (by omega)]; exact h.1 f hf
  · rw [hm (3 + 1 + r) (by omega) (by omega)]; exact h.2.1 r hr g hg
  · rw [hm 9 (by omega) (by omega)]; exact h.2.2 i hi
theorem IMo.n (h : IMo s m) : m 38 0 = nI (s.1 0) := h.1.1
theorem IMo.nt (h : IMo s m) : m 38 5 = nI (s.1 1) := h.1.2.1
theorem IMo.lw (h : IMo s m) : m 38 11 = nI (s.1 2) := h.1.2.2
theorem IMo.k (h : IMo s m) : ∀ g, g < s.1 0 → m 39 g = nI (s.2.1 0 g) := fun g hg => (h.2.1 g hg).1
theorem IMo.mo (h : IMo s m) : ∀ g, g < s.1 0 → m 40 g = nI (s.2.1 1 g) := fun g hg => (h.2.1 g hg).2
theorem IMo.ma (h : IMo s m) : ∀ g, g < s.1 0 → m 41 (3 * g) = nI (s.2.1 2 g) := fun g hg => h.2.2.1 g hg 0 (by decide)
theorem IMo.pl (h : IMo s m) : ∀ g, g < s.1 0 → m 41 (3 * g + 1) = nI (s.2.1 3 g) := fun g hg => h.2.2.1 g hg 1 (by decide)
theorem IMo.pu (h : IMo s m) : ∀ g, g < s.1 0 → m 41 (3 * g + 2) = nI (s.2.1 4 g) := fun g hg => h.2.2.1 g hg 2 (by decide)
theorem IMo.of (h : IMo s m) : ∀ i, i < 36 → m 42 i = s.2.2 i := h.2.2.2
theorem IMo.fr (h : IMo s m) (h0 : m' 38 0 = m 38 0) (h5 : m' 38 5 = m 38 5) (h11 : m' 38 11 = m 38 11) (hm : ∀ k, 39 ≤ k → k < 43 → m' k = m k) : IMo s m' := by
  refine ⟨⟨h0.trans h.1.1, h5.trans h.1.2.1, h11.trans h.1.2.2⟩, fun g hg => ?_, fun g hg r hr => ?_, fun i hi => ?_⟩
  · rw [hm 39 (by omega) (by omega), hm 40 (by omega) (by omega)]; exact h.2.1 g hg
  · rw [hm 41 (by omega) (by omega)]; exact h.2.2.1 g hg r hr
  · rw [hm 42 (by omega) (by omega)]; exact h.2.2.2 i hi
end
/-! numbers -/
theorem nI_k : nI 0 = 0 := rfl
theorem n_lt0 {j : Nat} (h : j < 2 ^ 31) : (nI j < nI 0) = False := by
  rw [nI_0]
  exact eq_false (nI_pos h)
theorem n_lt {i j : Nat} (hi : i < 2 ^ 31) (hj : j < 2 ^ 31) : (nI i < nI j) = (i < j) := propext (nI_ltI hi hj)
theorem n_le {i j : Nat} (hi : i < 2 ^ 31) (hj : j < 2 ^ 31) : (nI i ≤ nI j) = (i ≤ j) := propext (nI_leI hi hj)
theorem n_eq {i j : Nat} (hi : i < 2 ^ 31) (hj : j < 2 ^ 31) : (nI i = nI j) = (i = j) := propext (nI_eq hi hj)
theorem n_add (a b : Nat) : nI a + nI b = nI (a + b) := nI_add a b
theorem n_mul (a b : Nat) : nI a * nI b = nI (a * b) := pk_mul a b
theorem n_sub {a b : Nat} (h : b ≤ a) : nI a - nI b = nI (a - b) := pk_sub h
theorem n_div {a d : Nat} (ha : a < 2 ^ 31) (h0 : 0 < d) (hd : d < 2 ^ 31) : nI a / nI d = nI (a / d) := pk_div ha h0 hd
theorem n_rem {a d : Nat} (ha : a < 2 ^ 31) (h0 : 0 < d) (hd : d < 2 ^ 31) : nI a - nI (a / d) * nI d = nI (a % d) := by
  rw [← pk_div ha h0 hd]
  exact pk_rem ha h0 hd
theorem n_cl {i : Nat} (h : i < 2 ^ 31) : (nI i).toNatClampNeg = i := nI_clamp h
theorem n_ne0 {i : Nat} (h : i < 2 ^ 31) (h0 : 0 < i) : (nI i = 0) = False := eq_false (nI_ne0 h0 h)
/-- an int is the number of one of n, or it is below 0, or not below n -/
theorem n_ix (x : Int32) {n : Nat} (hn : n < 2 ^ 31) : (∃ j, j < n ∧ x = nI j) ∨ (x < nI 0 ∧ x < nI n) ∨ (¬ x < nI 0 ∧ ¬ x < nI n) := by
  rcases pk_ix x hn with h | h | ⟨j, h1, h2⟩
  · refine Or.inr (Or.inl ⟨h, ?_⟩)
    rw [Int32.lt_iff_toInt_lt] at h ⊢
    rw [nI_toInt hn]
    have : (0 : Int32).toInt = 0 := rfl
    omega
  · refine Or.inr (Or.inr ⟨?_, ?_⟩)
    · rw [Int32.le_iff_toInt_le, nI_toInt hn] at h
      rw [Int32.lt_iff_toInt_lt, nI_toInt (by decide)]
      omega
    · exact Int32.not_lt.mpr h
  · exact Or.inl ⟨j, h1, h2⟩
theorem q_up_eq (m : q_M) (k i : Nat) (x : Int32) : q_up m k i x k i = x := by simp [q_up]
theorem q_up_k (m : q_M) {k k' : Nat} (i : Nat) (x : Int32) (h : k' ≠ k) (i' : Nat) : q_up m k i x k' i' = m k' i' := by simp [q_up, h]
theorem q_up_i (m : q_M) {k i i' : Nat} (x : Int32) (h : i' ≠ i) (k' : Nat) : q_up m k i x k' i' = m k' i' := by simp [q_up, h]
