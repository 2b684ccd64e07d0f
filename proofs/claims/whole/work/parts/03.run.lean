/-! ===== the run of a method: n is how many instructions at most, d how many calls may stand open above ===== -/
def q_ins (j pc : Nat) : Option q_I := (q_code j).lookup pc
def q_run : Nat → Nat → Nat → Nat → List (Option Value) → List Value → q_G → q_M → Option (Option Value × q_G × q_M)
  | 0, _, _, _, _, _, _, _ => none
  | n + 1, j, pc, d, lv, st, g, m => match q_ins j pc with
    | none => none
    | some (i, x, y) => match q_kind i x with
      | 0 => match q_step q_fields i x y pc lv st g m with
        | none => none
        | some (pc', lv', st', g', m') => q_run n j pc' d lv' st' g' m'
      | 1 => match d, q_args i y.toNat (q_oc x) g st with
        | d' + 1, some (as, rest) => if (q_ent as).length ≤ q_nl x then match q_run n x 0 d' (q_entry (q_nl x) as) [] g m with
          | none => none
          | some (v, g', m') => q_run n j (pc + 3) (d' + 1) lv (q_push v rest) g' m'
          else none
        | _, _ => none
      | _ => match q_ret i (q_rt j) st with
        | none => none
        | some v => some (v, g, m)
def q_R (j pc d : Nat) (lv : List (Option Value)) (st : List Value) (g : q_G) (m : q_M) (K : Option Value → q_G → q_M → Prop) : Prop :=
  ∃ n v g' m', q_run n j pc d lv st g m = some (v, g', m') ∧ K v g' m'
def q_C (j d : Nat) (as : List Value) (g : q_G) (m : q_M) (K : Option Value → q_G → q_M → Prop) : Prop := q_R j 0 d (q_entry (q_nl j) as) [] g m K
def q_X (I : q_I) (j pc d : Nat) (lv : List (Option Value)) (st : List Value) (g : q_G) (m : q_M) (K : Option Value → q_G → q_M → Prop) : Prop :=
  match q_kind I.1 I.2.1 with
  | 0 => match q_step q_fields I.1 I.2.1 I.2.2 pc lv st g m with
    | none => False
    | some (pc', lv', st', g', m') => q_R j pc' d lv' st' g' m' K
  | 1 => match d, q_args I.1 I.2.2.toNat (q_oc I.2.1) g st with
    | d' + 1, some (as, rest) => (q_ent as).length ≤ q_nl I.2.1 ∧ q_C I.2.1 d' as g m (fun v g' m' => q_R j (pc + 3) (d' + 1) lv (q_push v rest) g' m' K)
    | _, _ => False
  | _ => match q_ret I.1 (q_rt j) st with
    | none => False
    | some v => K v g m
theorem q_run_mono : ∀ (n j pc d : Nat) (lv : List (Option Value)) (st : List Value) (g : q_G) (m : q_M) (r : Option Value × q_G × q_M), q_run n j pc d lv st g m = some r → q_run (n + 1) j pc d lv st g m = some r := by
  intro n
  induction n with
  | zero => intro j pc d lv st g m r h; simp [q_run] at h
  | succ n ih =>
    intro j pc d lv st g m r h
    rw [q_run] at h ⊢
    generalize q_ins j pc = o at h ⊢
    cases o with
    | none => cases h
    | some I =>
      obtain ⟨i, x, y⟩ := I
      dsimp only at h ⊢
      generalize q_kind i x = k at h ⊢
      match k, h with
      | 0, h =>
        generalize q_step q_fields i x y pc lv st g m = o at h ⊢
        cases o with
        | none => cases h
        | some s =>
          obtain ⟨pc', lv', st', g', m'⟩ := s
          exact ih _ _ _ _ _ _ _ _ h
      | 1, h =>
        generalize q_args i y.toNat (q_oc x) g st = o at h ⊢
        cases d with
        | zero => cases h
        | succ d' =>
          cases o with
          | none => cases h
          | some s =>
            obtain ⟨as, rest⟩ := s
            dsimp only at h ⊢
            by_cases hle : (q_ent as).length ≤ q_nl x
            case neg => rw [if_neg hle] at h; cases h
            rw [if_pos hle] at h ⊢
            cases hc : q_run n x 0 d' (q_entry (q_nl x) as) [] g m with
            | none => rw [hc] at h; cases h
            | some s =>
              obtain ⟨v, g', m'⟩ := s
              rw [hc] at h
              rw [ih _ _ _ _ _ _ _ _ hc]
              exact ih _ _ _ _ _ _ _ _ h
      | k + 2, h => exact h
theorem q_run_le {n n' : Nat} (hn : n ≤ n') {j pc d : Nat} {lv : List (Option Value)} {st : List Value} {g : q_G} {m : q_M} {r : Option Value × q_G × q_M} (h : q_run n j pc d lv st g m = some r) : q_run n' j pc d lv st g m = some r := by
  induction hn with
  | refl => exact h
  | step _ ih => exact q_run_mono _ _ _ _ _ _ _ _ _ ih
theorem q_U {j pc : Nat} {I : q_I} (hi : q_ins j pc = some I) (d : Nat) (lv : List (Option Value)) (st : List Value) (g : q_G) (m : q_M) (K : Option Value → q_G → q_M → Prop) : q_R j pc d lv st g m K ↔ q_X I j pc d lv st g m K := by
  obtain ⟨i, x, y⟩ := I
  have e0 : ∀ n, q_run (n + 1) j pc d lv st g m = match q_kind i x with
      | 0 => match q_step q_fields i x y pc lv st g m with
        | none => none
        | some (pc', lv', st', g', m') => q_run n j pc' d lv' st' g' m'
      | 1 => match d, q_args i y.toNat (q_oc x) g st with
        | d' + 1, some (as, rest) => if (q_ent as).length ≤ q_nl x then match q_run n x 0 d' (q_entry (q_nl x) as) [] g m with
          | none => none
          | some (v, g', m') => q_run n j (pc + 3) (d' + 1) lv (q_push v rest) g' m'
          else none
        | _, _ => none
      | _ => match q_ret i (q_rt j) st with
        | none => none
        | some v => some (v, g, m) := by
    intro n
    rw [q_run, hi]
  have e1 : q_R j pc d lv st g m K ↔ ∃ n v g' m', q_run (n + 1) j pc d lv st g m = some (v, g', m') ∧ K v g' m' := by
    constructor
    · rintro ⟨n, v, g', m', h, hK⟩
      exact ⟨n, v, g', m', q_run_mono _ _ _ _ _ _ _ _ _ h, hK⟩
    · rintro ⟨n, v, g', m', h, hK⟩
      exact ⟨n + 1, v, g', m', h, hK⟩
  rw [e1]
  unfold q_X
  dsimp only
  simp only [e0]
  generalize q_kind i x = k
  match k with
  | 0 =>
    generalize q_step q_fields i x y pc lv st g m = o
    cases o with
    | none => simp
    | some s =>
      obtain ⟨pc', lv', st', g', m'⟩ := s
      exact Iff.rfl
  | 1 =>
    generalize q_args i y.toNat (q_oc x) g st = o
    cases d with
    | zero => simp
    | succ d' =>
      cases o with
      | none => simp
      | some s =>
        obtain ⟨as, rest⟩ := s
        dsimp only
        by_cases hle : (q_ent as).length ≤ q_nl x
        case neg => simp [hle]
        simp only [if_pos hle, hle, true_and]
        constructor
        · rintro ⟨n, v, g', m', h, hK⟩
          cases hc : q_run n x 0 d' (q_entry (q_nl x) as) [] g m with
          | none => rw [hc] at h; cases h
          | some s =>
            obtain ⟨v1, g1, m1⟩ := s
            rw [hc] at h
            exact ⟨n, v1, g1, m1, hc, n, v, g', m', h, hK⟩
        · rintro ⟨n1, v1, g1, m1, h1, n, v, g', m', h, hK⟩
          refine ⟨max n1 n, v, g', m', ?_, hK⟩
          rw [q_run_le (Nat.le_max_left n1 n) h1]
          exact q_run_le (Nat.le_max_right n1 n) h
  | k + 2 =>
    generalize q_ret i (q_rt j) st = o
    cases o with
    | none => simp
    | some v =>
      constructor
      · rintro ⟨n, v, g', m', h, hK⟩
        cases h
        exact hK
      · intro hK
        exact ⟨0, v, g, m, rfl, hK⟩
/-- what one run answers, it answers for every end -/
theorem q_C_iff {j d : Nat} {as : List Value} {g : q_G} {m : q_M} {v : Option Value} {g' : q_G} {m' : q_M} (h : q_C j d as g m (fun v1 g1 m1 => v1 = v ∧ g1 = g' ∧ m1 = m')) (K : Option Value → q_G → q_M → Prop) : q_C j d as g m K ↔ K v g' m' := by
  obtain ⟨n, v1, g1, m1, h, rfl, rfl, rfl⟩ := h
  constructor
  · rintro ⟨n', v2, g2, m2, h2, hK⟩
    have e1 := q_run_le (Nat.le_max_left n n') h
    have e2 := q_run_le (Nat.le_max_right n n') h2
    cases e1.symm.trans e2
    exact hK
  · intro hK
    exact ⟨n, _, _, _, h, hK⟩
theorem q_C_mono {j d : Nat} {as : List Value} {g : q_G} {m : q_M} {K K' : Option Value → q_G → q_M → Prop} (h : q_C j d as g m K) (hk : ∀ v g' m', K v g' m' → K' v g' m') : q_C j d as g m K' := by
  obtain ⟨n, v, g', m', h, hK⟩ := h
  exact ⟨n, v, g', m', h, hk _ _ _ hK⟩
theorem q_if {c : Prop} [Decidable c] {a b j d : Nat} {lv : List (Option Value)} {st : List Value} {g : q_G} {m : q_M} {K : Option Value → q_G → q_M → Prop} : q_R j (if c then a else b) d lv st g m K ↔ if c then q_R j a d lv st g m K else q_R j b d lv st g m K := by
  split <;> exact Iff.rfl
