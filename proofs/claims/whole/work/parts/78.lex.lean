/-! ===== what stands at a place of the tape: where it begins, where it ends, its sort, its number ===== -/
def y_let (b : Nat) : Bool := decide (97 ≤ b ∧ b ≤ 122)
def y_dig (b : Nat) : Bool := decide (48 ≤ b ∧ b ≤ 57)
def y_blk (b : Nat) : Bool := decide (b = 32 ∨ b = 10)
def y_sig (b : Nat) : Bool := decide (b = 40 ∨ b = 41 ∨ b = 59 ∨ b = 43 ∨ b = 45 ∨ b = 42 ∨ b = 60 ∨ b = 61)
def y_skf (pr : Nat → Bool) (tp : Nat → Nat) (z : Nat) : Nat → Nat → Nat
  | 0, i => i
  | c + 1, i => if i < z then (if pr (tp i) = true then y_skf pr tp z c (i + 1) else i) else i
def y_sk (pr : Nat → Bool) (tp : Nat → Nat) (z i : Nat) : Nat := y_skf pr tp z (z - i) i
theorem y_sk_end {pr : Nat → Bool} {tp : Nat → Nat} {z i : Nat} (h : ¬ i < z) : y_sk pr tp z i = i := by
  unfold y_sk
  rw [show z - i = 0 by omega]
  rfl
theorem y_sk_no {pr : Nat → Bool} {tp : Nat → Nat} {z i : Nat} (h : i < z) (hp : ¬ pr (tp i) = true) : y_sk pr tp z i = i := by
  unfold y_sk
  rw [show z - i = (z - (i + 1)) + 1 by omega]
  unfold y_skf
  rw [if_pos h, if_neg hp]
theorem y_sk_go {pr : Nat → Bool} {tp : Nat → Nat} {z i : Nat} (h : i < z) (hp : pr (tp i) = true) : y_sk pr tp z i = y_sk pr tp z (i + 1) := by
  unfold y_sk
  rw [show z - i = (z - (i + 1)) + 1 by omega]
  conv => lhs; unfold y_skf
  rw [if_pos h, if_pos hp]
theorem y_sk_le {pr : Nat → Bool} {tp : Nat → Nat} {z : Nat} : ∀ c i, z - i = c → i ≤ y_sk pr tp z i ∧ (i ≤ z → y_sk pr tp z i ≤ z) ∧ ∀ x, i ≤ x → x < y_sk pr tp z i → pr (tp x) = true
  | 0, i, h => by
    rw [y_sk_end (by omega)]
    exact ⟨Nat.le_refl _, fun h => h, fun x h1 h2 => by omega⟩
  | c + 1, i, h => by
    have hi : i < z := by omega
    by_cases hp : pr (tp i) = true
    · rw [y_sk_go hi hp]
      obtain ⟨a, b, e⟩ := y_sk_le (pr := pr) (tp := tp) (z := z) c (i + 1) (by omega)
      refine ⟨by omega, fun _ => b (by omega), fun x h1 h2 => ?_⟩
      by_cases q : x = i
      · rw [q]; exact hp
      · exact e x (by omega) h2
    · rw [y_sk_no hi hp]
      exact ⟨Nat.le_refl _, fun h => h, fun x h1 h2 => by omega⟩
/-- the twelve words, eight places each -/
def y_wl (i : Nat) : Nat := ([112,108,97,121,115,32,32,32, 99,111,115,116,115,32,32,32, 111,119,101,115,32,32,32,32, 109,111,114,101,32,32,32,32, 97,112,97,114,116,32,32,32, 109,97,116,116,101,114,32,32, 110,105,103,104,116,32,32,32, 111,102,116,101,110,32,32,32, 112,117,114,115,101,32,32,32, 111,114,32,32,32,32,32,32, 97,110,100,32,32,32,32,32, 110,111,116,32,32,32,32,32] : List Nat).getD i 32
def y_ln (k : Nat) : Nat := ([5,5,4,4,5,6,5,5,5,2,3,3] : List Nat).getD k 0
def y_wd (tp : Nat → Nat) (b e k : Nat) : Prop := e - b ≤ 8 ∧ ∀ c, c < 8 → y_wl (8 * k + c) = if b + c < e then tp (b + c) else 32
theorem y_wl_b : ∀ k, k < 12 → ∀ c, c < 8 → ((c < y_ln k → y_wl (8 * k + c) ≠ 32) ∧ (y_ln k ≤ c → y_wl (8 * k + c) = 32)) ∧ y_ln k ≤ 8 := by decide
theorem y_wd_ln {tp : Nat → Nat} {b e k : Nat} (hk : k < 12) (hl : ∀ x, b ≤ x → x < e → y_let (tp x) = true) : y_wd tp b e k ↔ (e - b = y_ln k ∧ ∀ c, c < y_ln k → tp (b + c) = y_wl (8 * k + c)) := by
  have h8 := (y_wl_b k hk 0 (by decide)).2
  constructor
  · rintro ⟨h1, h2⟩
    have h3 : e - b = y_ln k := by
      rcases Nat.lt_trichotomy (e - b) (y_ln k) with h | h | h
      · have h4 := ((y_wl_b k hk (e - b) (by omega)).1).1 h
        rw [h2 (e - b) (by omega), if_neg (by omega)] at h4
        exact absurd rfl h4
      · exact h
      · have h4 := ((y_wl_b k hk (y_ln k) (by omega)).1).2 (Nat.le_refl _)
        rw [h2 (y_ln k) (by omega), if_pos (by omega)] at h4
        have h5 := hl (b + y_ln k) (by omega) (by omega)
        rw [h4] at h5
        exact absurd h5 (by decide)
    refine ⟨h3, fun c hc => ?_⟩
    rw [h2 c (by omega), if_pos (by omega)]
  · rintro ⟨h1, h2⟩
    refine ⟨by omega, fun c hc => ?_⟩
    by_cases q : c < y_ln k
    · rw [if_pos (by omega), h2 c q]
    · rw [if_neg (by omega)]
      exact ((y_wl_b k hk c hc).1).2 (by omega)
theorem y_wl_d : ∀ k, k < 12 → ∀ k', k' < 12 → (∀ c, c < 8 → y_wl (8 * k + c) = y_wl (8 * k' + c)) → k = k' := by decide
theorem y_wd_one {tp : Nat → Nat} {b e k k' : Nat} (hk : k < 12) (hk' : k' < 12) (h : y_wd tp b e k) (h' : y_wd tp b e k') : k = k' :=
  y_wl_d k hk k' hk' (fun c hc => (h.2 c hc).trans (h'.2 c hc).symm)
/-- which word; 12: none -/
noncomputable def y_wn (tp : Nat → Nat) (b e : Nat) : Nat := @dite Nat (∃ k, k < 12 ∧ y_wd tp b e k) (Classical.propDecidable _) (fun h => Classical.choose h) (fun _ => 12)
theorem y_wn_of {tp : Nat → Nat} {b e k : Nat} (hk : k < 12) (h : y_wd tp b e k) : y_wn tp b e = k := by
  unfold y_wn
  have hx : ∃ k, k < 12 ∧ y_wd tp b e k := ⟨k, hk, h⟩
  rw [dif_pos hx]
  exact y_wd_one (Classical.choose_spec hx).1 hk (Classical.choose_spec hx).2 h
theorem y_wn_no {tp : Nat → Nat} {b e : Nat} (h : ∀ k, k < 12 → ¬ y_wd tp b e k) : y_wn tp b e = 12 := by
  unfold y_wn
  rw [dif_neg (fun ⟨k, hk, hw⟩ => h k hk hw)]
def y_val (tp : Nat → Nat) (b : Nat) : Nat → Nat
  | 0 => 0
  | c + 1 => 10 * y_val tp b c + (tp (b + c) - 48)
section
variable (tp : Nat → Nat) (z p : Nat)
def y_tb : Nat := y_sk y_blk tp z p
def y_te : Nat := if y_tb tp z p < z then (if y_let (tp (y_tb tp z p)) = true then y_sk y_let tp z (y_tb tp z p) else if y_dig (tp (y_tb tp z p)) = true then y_sk y_dig tp z (y_tb tp z p) else y_tb tp z p + 1) else z
/-- 0 the end, 1 a number, 2 a name, 3 plays/costs/owes, 4 or, 5 and, 6 not, 7 what can't stand, else a sign -/
noncomputable def y_tt : Nat := if y_tb tp z p < z then (if y_let (tp (y_tb tp z p)) = true then (if y_wn tp (y_tb tp z p) (y_te tp z p) < 3 then 3 else if y_wn tp (y_tb tp z p) (y_te tp z p) < 9 then 2 else if y_wn tp (y_tb tp z p) (y_te tp z p) = 12 then 7 else y_wn tp (y_tb tp z p) (y_te tp z p) - 5)
  else if y_dig (tp (y_tb tp z p)) = true then (if y_te tp z p - y_tb tp z p ≤ 4 then 1 else 7) else if y_sig (tp (y_tb tp z p)) = true then tp (y_tb tp z p) else 7) else 0
noncomputable def y_tv : Nat := if y_let (tp (y_tb tp z p)) = true then (if y_wn tp (y_tb tp z p) (y_te tp z p) < 3 then y_wn tp (y_tb tp z p) (y_te tp z p) else y_wn tp (y_tb tp z p) (y_te tp z p) - 3) else y_val tp (y_tb tp z p) (y_te tp z p - y_tb tp z p)
end
section
variable {tp : Nat → Nat} {z p : Nat}
theorem y_tb_le : p ≤ y_tb tp z p ∧ (p ≤ z → y_tb tp z p ≤ z) := ⟨(y_sk_le (pr := y_blk) (tp := tp) (z := z) _ p rfl).1, (y_sk_le (pr := y_blk) (tp := tp) (z := z) _ p rfl).2.1⟩
theorem y_te_0 (h : ¬ y_tb tp z p < z) : y_te tp z p = z := by
  unfold y_te
  rw [if_neg h]
theorem y_te_l (h : y_tb tp z p < z) (hl : y_let (tp (y_tb tp z p)) = true) : y_te tp z p = y_sk y_let tp z (y_tb tp z p) := by
  unfold y_te
  rw [if_pos h, if_pos hl]
theorem y_te_d (h : y_tb tp z p < z) (hl : ¬ y_let (tp (y_tb tp z p)) = true) (hd : y_dig (tp (y_tb tp z p)) = true) : y_te tp z p = y_sk y_dig tp z (y_tb tp z p) := by
  unfold y_te
  rw [if_pos h, if_neg hl, if_pos hd]
theorem y_te_s (h : y_tb tp z p < z) (hl : ¬ y_let (tp (y_tb tp z p)) = true) (hd : ¬ y_dig (tp (y_tb tp z p)) = true) : y_te tp z p = y_tb tp z p + 1 := by
  unfold y_te
  rw [if_pos h, if_neg hl, if_neg hd]
theorem y_te_le (hp : p ≤ z) : y_te tp z p ≤ z ∧ y_tb tp z p ≤ y_te tp z p ∧ (y_tb tp z p < z → y_tb tp z p < y_te tp z p) := by
  obtain ⟨h1, h2⟩ := y_tb_le (tp := tp) (z := z) (p := p)
  have h3 := h2 hp
  by_cases h : y_tb tp z p < z
  · by_cases hl : y_let (tp (y_tb tp z p)) = true
    · rw [y_te_l h hl, y_sk_go h hl]
      obtain ⟨a, b, _⟩ := y_sk_le (pr := y_let) (tp := tp) (z := z) _ (y_tb tp z p + 1) rfl
      exact ⟨b h, by omega, fun _ => by omega⟩
    · by_cases hd : y_dig (tp (y_tb tp z p)) = true
      · rw [y_te_d h hl hd, y_sk_go h hd]
        obtain ⟨a, b, _⟩ := y_sk_le (pr := y_dig) (tp := tp) (z := z) _ (y_tb tp z p + 1) rfl
        exact ⟨b h, by omega, fun _ => by omega⟩
      · rw [y_te_s h hl hd]
        exact ⟨h, by omega, fun _ => by omega⟩
  · rw [y_te_0 h]
    exact ⟨Nat.le_refl _, h3, fun h' => absurd h' h⟩
theorem y_wn_le (b e : Nat) : y_wn tp b e ≤ 12 := by
  unfold y_wn
  split
  · next h => exact Nat.le_of_lt (Classical.choose_spec h).1
  · exact Nat.le_refl _
end
