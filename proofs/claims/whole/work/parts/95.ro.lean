/-! ===== what nobody writes ===== -/
def y_ro (g g' : q_G) (m m' : q_M) : Prop := ∀ k, 900 ≤ k → m' k = m k ∧ g'.1 k = g.1 k
theorem y_ro.refl (g : q_G) (m : q_M) : y_ro g g m m := fun _ _ => ⟨rfl, rfl⟩
theorem y_ro.trans {g g' g'' : q_G} {m m' m'' : q_M} (h : y_ro g g' m m') (h' : y_ro g' g'' m' m'') : y_ro g g'' m m'' := fun k hk => ⟨(h' k hk).1.trans (h k hk).1, (h' k hk).2.trans (h k hk).2⟩
theorem y_ro_up {g : q_G} {m : q_M} {k i : Nat} {v : Int32} (h : ¬ 900 ≤ k) : y_ro g g m (q_up m k i v) := fun j hj => ⟨q_up_f _ _ _ (by omega), rfl⟩
theorem y_ro_sh {g : q_G} {m : q_M} {k : Nat} {z : q_Sh} (h : ¬ 900 ≤ k) : y_ro g (q_sh g k z) m m := fun j hj => ⟨rfl, va_up_n _ _ (by omega)⟩
theorem y_ro_new {g : q_G} {m : q_M} {z : q_Sh} {n : Nat} (h : ¬ 900 ≤ g.2.1) : y_ro g (q_new g z n) m (q_zero m g.2.1) := fun j hj => ⟨by funext i; show (if j = g.2.1 then 0 else m j i) = m j i; rw [if_neg (by omega)], va_up_n _ _ (by omega)⟩
theorem y_ro_new' {g : q_G} {m : q_M} {z : q_Sh} {n : Nat} (h : ¬ 900 ≤ g.2.1) : y_ro g (q_new g z n) m m := fun j hj => ⟨rfl, va_up_n _ _ (by omega)⟩
section
variable {g : q_G} {m : q_M} {k i n : Nat} {v : Int32} {z : q_Sh} {a b c : Prop}
theorem y_ro_up2 (h : ¬ (a ∨ b ∨ 900 ≤ k)) : y_ro g g m (q_up m k i v) := y_ro_up (fun e => h (Or.inr (Or.inr e)))
theorem y_ro_up1 (h : ¬ (a ∨ 900 ≤ k)) : y_ro g g m (q_up m k i v) := y_ro_up (fun e => h (Or.inr e))
theorem y_ro_sh1 (h : ¬ (a ∨ 900 ≤ k)) : y_ro g (q_sh g k z) m m := y_ro_sh (fun e => h (Or.inr e))
theorem y_ro_sh2 (h : ¬ (a ∨ b ∨ 900 ≤ k)) : y_ro g (q_sh g k z) m m := y_ro_sh (fun e => h (Or.inr (Or.inr e)))
theorem y_ro_sh3 (h : ¬ (a ∨ b ∨ 900 ≤ k ∨ c)) : y_ro g (q_sh g k z) m m := y_ro_sh (fun e => h (Or.inr (Or.inr (Or.inl e))))
theorem y_ro_nw (h : ¬ (900 ≤ g.2.1 ∨ a)) : y_ro g (q_new g z n) m (q_zero m g.2.1) := y_ro_new (fun e => h (Or.inl e))
theorem y_ro_nw' (h : ¬ (900 ≤ g.2.1 ∨ a)) : y_ro g (q_new g z n) m m := y_ro_new' (fun e => h (Or.inl e))
end
theorem y_ro_step {fields : Nat → List (Option Value)} {i : Instr} {x : Nat} {y : Int} {pc : Nat} {lv : List (Option Value)} {st : List Value} {g : q_G} {m : q_M} {r : Nat × List (Option Value) × List Value × q_G × q_M} (h : q_step fields i x y pc lv st g m = some r) : y_ro g r.2.2.2.1 m r.2.2.2.2 := by
  unfold q_step at h
  repeat' split at h
  all_goals first
    | (cases h; done)
    | (cases h; first | exact y_ro.refl _ _ | exact y_ro_up2 (by assumption) | exact y_ro_up1 (by assumption) | exact y_ro_sh3 (by assumption) | exact y_ro_sh2 (by assumption) | exact y_ro_sh1 (by assumption) | exact y_ro_new (by assumption) | exact y_ro_nw (by assumption) | exact y_ro_nw' (by assumption))
theorem y_ro_run : ∀ (n j pc d : Nat) (lv : List (Option Value)) (st : List Value) (g : q_G) (m : q_M) (v : Option Value) (g' : q_G) (m' : q_M), q_run n j pc d lv st g m = some (v, g', m') → y_ro g g' m m'
  | 0, j, pc, d, lv, st, g, m, v, g', m', h => by unfold q_run at h; cases h
  | n + 1, j, pc, d, lv, st, g, m, v, g', m', h => by
    unfold q_run at h
    split at h
    · cases h
    · split at h
      · split at h
        · cases h
        · next e => exact (y_ro_step e).trans (y_ro_run n _ _ _ _ _ _ _ _ _ _ h)
      · split at h
        · split at h
          · split at h
            · cases h
            · next e => exact (y_ro_run n _ _ _ _ _ _ _ _ _ _ e).trans (y_ro_run n _ _ _ _ _ _ _ _ _ _ h)
          · cases h
        · cases h
      · split at h
        · cases h
        · cases h; exact y_ro.refl _ _
theorem y_ro_C {j d : Nat} {as : List Value} {g : q_G} {m : q_M} {K : Option Value → q_G → q_M → Prop} (h : q_C j d as g m K) : q_C j d as g m (fun v g' m' => K v g' m' ∧ y_ro g g' m m') := by
  obtain ⟨n, v, g', m', h, hK⟩ := h
  exact ⟨n, v, g', m', h, hK, y_ro_run _ _ _ _ _ _ _ _ _ _ _ h⟩
