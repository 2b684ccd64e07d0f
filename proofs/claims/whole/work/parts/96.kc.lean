/-! ===== an object stays of its class ===== -/
def y_kc (k c : Nat) (g : q_G) : Prop := k < g.2.1 ∧ q_io c g k
section
variable {g : q_G} {k c k0 n : Nat} {z : q_Sh}
theorem y_kc_new (h : y_kc k c g) : y_kc k c (q_new g z n) := by
  obtain ⟨h1, h2⟩ := h
  refine ⟨Nat.lt_succ_of_lt h1, ?_⟩
  unfold q_io at h2 ⊢
  show match va_up g.1 g.2.1 z k with | .inr (.inr (c', _)) => c' = c | _ => False
  rw [va_up_n _ _ (by omega)]
  exact h2
theorem y_kc_o {c0 : Nat} {fs fs' : List (Option Value)} (heq : g.1 k0 = .inr (.inr (c0, fs))) (h : y_kc k c g) : y_kc k c (q_sh g k0 (.inr (.inr (c0, fs')))) := by
  obtain ⟨h1, h2⟩ := h
  refine ⟨h1, ?_⟩
  unfold q_io at h2 ⊢
  show match va_up g.1 k0 (.inr (.inr (c0, fs'))) k with | .inr (.inr (c', _)) => c' = c | _ => False
  by_cases q : k = k0
  · subst q
    rw [heq] at h2
    rw [va_up_e]
    exact h2
  · rw [va_up_n _ _ q]
    exact h2
theorem y_kc_a {w : Nat × Nat × (Nat → Option Nat)} (heq : g.1 k0 = .inr (.inl w)) (h : y_kc k c g) : y_kc k c (q_sh g k0 z) := by
  obtain ⟨h1, h2⟩ := h
  refine ⟨h1, ?_⟩
  unfold q_io at h2 ⊢
  show match va_up g.1 k0 z k with | .inr (.inr (c', _)) => c' = c | _ => False
  by_cases q : k = k0
  · subst q
    rw [heq] at h2
    exact h2.elim
  · rw [va_up_n _ _ q]
    exact h2
end
theorem y_kc_step {fields : Nat → List (Option Value)} {i : Instr} {x : Nat} {y : Int} {pc : Nat} {lv : List (Option Value)} {st : List Value} {g : q_G} {m : q_M} {r : Nat × List (Option Value) × List Value × q_G × q_M} {k c : Nat} (h : q_step fields i x y pc lv st g m = some r) (hk : y_kc k c g) : y_kc k c r.2.2.2.1 := by
  unfold q_step at h
  repeat' split at h
  all_goals first
    | (cases h; done)
    | (cases h; first | exact hk | exact y_kc_new hk | exact y_kc_o (by assumption) hk | exact y_kc_a (by assumption) hk)
theorem y_kc_run {k c : Nat} : ∀ (n j pc d : Nat) (lv : List (Option Value)) (st : List Value) (g : q_G) (m : q_M) (v : Option Value) (g' : q_G) (m' : q_M), q_run n j pc d lv st g m = some (v, g', m') → y_kc k c g → y_kc k c g'
  | 0, j, pc, d, lv, st, g, m, v, g', m', h, hk => by unfold q_run at h; cases h
  | n + 1, j, pc, d, lv, st, g, m, v, g', m', h, hk => by
    unfold q_run at h
    split at h
    · cases h
    · split at h
      · split at h
        · cases h
        · next e => exact y_kc_run n _ _ _ _ _ _ _ _ _ _ h (y_kc_step e hk)
      · split at h
        · split at h
          · split at h
            · cases h
            · next e => exact y_kc_run n _ _ _ _ _ _ _ _ _ _ h (y_kc_run n _ _ _ _ _ _ _ _ _ _ e hk)
          · cases h
        · cases h
      · split at h
        · cases h
        · cases h; exact hk
theorem y_kc_C {j d k c : Nat} {as : List Value} {g : q_G} {m : q_M} {K : Option Value → q_G → q_M → Prop} (hk : y_kc k c g) (h : q_C j d as g m K) : q_C j d as g m (fun v g' m' => K v g' m' ∧ y_ro g g' m m' ∧ y_kc k c g') := by
  obtain ⟨n, v, g', m', h, hK⟩ := h
  exact ⟨n, v, g', m', h, hK, y_ro_run _ _ _ _ _ _ _ _ _ _ _ h, y_kc_run _ _ _ _ _ _ _ _ _ _ _ h hk⟩
