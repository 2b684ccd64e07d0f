section QH
variable {j pc d : Nat} {lv : List (Option Value)} {st : List Value} {g : q_G} {m : q_M} {K : Option Value → q_G → q_M → Prop}
theorem q_kt {v v' : Int32} (h : v = v') : q_R j pc d lv (.int v :: st) g m K ↔ q_R j pc d lv (.int v' :: st) g m K := by rw [h]
theorem q_ktl {v v' : Int64} (h : v = v') : q_R j pc d lv (.long v :: st) g m K ↔ q_R j pc d lv (.long v' :: st) g m K := by rw [h]
theorem q_dv {c : Prop} [Decidable c] {s : Nat × List (Option Value) × List Value × q_G × q_M} : (match (if c then none else some s : Option (Nat × List (Option Value) × List Value × q_G × q_M)) with | none => False | some (pc', lv', st', g', m') => q_R j pc' d lv' st' g' m' K) ↔ (¬ c ∧ q_R j s.1 d s.2.1 s.2.2.1 s.2.2.2.1 s.2.2.2.2 K) := by
  by_cases h : c
  · simp [h]
  · simp [h]
theorem q_nw {k : Nat} {s : Nat × List (Option Value) × List Value × q_G × q_M} : (match (if 900 ≤ k then none else some s : Option (Nat × List (Option Value) × List Value × q_G × q_M)) with | none => False | some (pc', lv', st', g', m') => q_R j pc' d lv' st' g' m' K) ↔ (k < 900 ∧ q_R j s.1 d s.2.1 s.2.2.1 s.2.2.2.1 s.2.2.2.2 K) := by
  by_cases h : 900 ≤ k
  · simp [h]
    omega
  · simp [h]
    omega
theorem q_cst {i n : Nat} {c : Bool} {s : Nat × List (Option Value) × List Value × q_G × q_M} (hi : i < n := by exact Nat.le_of_ble_eq_true rfl) : (match (if i < n ∧ c = true then some s else none : Option (Nat × List (Option Value) × List Value × q_G × q_M)) with | none => False | some (pc', lv', st', g', m') => q_R j pc' d lv' st' g' m' K) ↔ (c = true ∧ q_R j s.1 d s.2.1 s.2.2.1 s.2.2.2.1 s.2.2.2.2 K) := by
  by_cases h : c = true
  · simp [h, hi]
  · simp [h]
theorem q_cs0 {i n : Nat} {s : Nat × List (Option Value) × List Value × q_G × q_M} (hi : i < n := by exact Nat.le_of_ble_eq_true rfl) : (match (if i < n ∧ true = true then some s else none : Option (Nat × List (Option Value) × List Value × q_G × q_M)) with | none => False | some (pc', lv', st', g', m') => q_R j pc' d lv' st' g' m' K) ↔ q_R j s.1 d s.2.1 s.2.2.1 s.2.2.2.1 s.2.2.2.2 K := by
  simp [hi]
theorem q_cs1 {c : Bool} {s : Nat × List (Option Value) × List Value × q_G × q_M} : (match (if c = true then some s else none : Option (Nat × List (Option Value) × List Value × q_G × q_M)) with | none => False | some (pc', lv', st', g', m') => q_R j pc' d lv' st' g' m' K) ↔ (c = true ∧ q_R j s.1 d s.2.1 s.2.2.1 s.2.2.2.1 s.2.2.2.2 K) := by
  by_cases h : c = true
  · simp [h]
  · simp [h]
theorem q_cs10 {s : Nat × List (Option Value) × List Value × q_G × q_M} : (match (if true = true then some s else none : Option (Nat × List (Option Value) × List Value × q_G × q_M)) with | none => False | some (pc', lv', st', g', m') => q_R j pc' d lv' st' g' m' K) ↔ q_R j s.1 d s.2.1 s.2.2.1 s.2.2.2.1 s.2.2.2.2 K := by
  simp
theorem q_oi {x r : Nat} {s : Nat × List (Option Value) × List Value × q_G × q_M} (hx : x = 9999 := by rfl) : (match (if x = 9999 ∧ q_sm st ≤ 8 ∧ r < 900 then some s else none : Option (Nat × List (Option Value) × List Value × q_G × q_M)) with | none => False | some (pc', lv', st', g', m') => q_R j pc' d lv' st' g' m' K) ↔ (q_sm st ≤ 8 ∧ r < 900 ∧ q_R j s.1 d s.2.1 s.2.2.1 s.2.2.2.1 s.2.2.2.2 K) := by
  by_cases h : q_sm st ≤ 8 <;> by_cases h2 : r < 900
  · simp [h, hx, h2]
  · simp [h2]
  · simp [h]
  · simp [h]
theorem q_mx {n : Nat} {y : Int} {a b : Int32} : q_X (.invokestatic n, 9998, y) j pc d lv (.int b :: .int a :: st) g m K ↔ (q_sm st ≤ 8 ∧ q_R j (pc + 3) d lv (.int (q_max a b) :: st) g m K) := by
  unfold q_X
  by_cases h : q_sm st ≤ 8 <;> simp [q_kind, q_step, h]
theorem q_mn {n : Nat} {y : Int} {a b : Int32} : q_X (.invokestatic n, 9997, y) j pc d lv (.int b :: .int a :: st) g m K ↔ (q_sm st ≤ 8 ∧ q_R j (pc + 3) d lv (.int (q_min a b) :: st) g m K) := by
  unfold q_X
  by_cases h : q_sm st ≤ 8 <;> simp [q_kind, q_step, h]
theorem q_rz {c : Prop} [Decidable c] {v : Option Value} : (match (if c then some v else none : Option (Option Value)) with | none => False | some v => K v g m) ↔ (c ∧ K v g m) := by
  by_cases h : c
  · simp [h]
  · simp [h]
end QH
def q_al (g : q_G) (k : Nat) (F : Int32 → Prop) : Prop := match g.1 k with
  | .inl n => F (nI n)
  | .inr (.inl (_, n, _)) => k < 900 ∧ F (nI n)
  | _ => False
def q_ia (g : q_G) (m : q_M) (k : Nat) (i : Int32) (F : Int32 → Prop) : Prop := match g.1 k with
  | .inl n => vp_in i n ∧ k < 930 ∧ F (m k i.toNatClampNeg)
  | _ => False
def q_ba (g : q_G) (m : q_M) (k : Nat) (i : Int32) (F : Int32 → Prop) : Prop := match g.1 k with
  | .inl n => vp_in i n ∧ 930 ≤ k ∧ F (m k i.toNatClampNeg)
  | _ => False
def q_is (g : q_G) (k : Nat) (i : Int32) (F : Prop) : Prop := match g.1 k with
  | .inl n => vp_in i n ∧ k < 900 ∧ F
  | _ => False
def q_aa (g : q_G) (k : Nat) (i : Int32) (F : Value → Prop) : Prop := match g.1 k with
  | .inr (.inl (_, n, f)) => vp_in i n ∧ k < 900 ∧ F (match f i.toNatClampNeg with | some z => .ref z | none => .null)
  | _ => False
def q_as (g : q_G) (k : Nat) (i : Int32) (z : Nat) (F : q_G → Prop) : Prop := match g.1 k, g.1 z with
  | .inr (.inl (c, n, f)), .inr (.inr (c', _)) => vp_in i n ∧ k < 900 ∧ z < 900 ∧ c' = c ∧ F (q_sh g k (.inr (.inl (c, n, va_up f i.toNatClampNeg (some z)))))
  | _, _ => False
def q_asn (g : q_G) (k : Nat) (i : Int32) (F : q_G → Prop) : Prop := match g.1 k with
  | .inr (.inl (c, n, f)) => vp_in i n ∧ k < 900 ∧ F (q_sh g k (.inr (.inl (c, n, va_up f i.toNatClampNeg none))))
  | _ => False
def q_gf (c f : Nat) (g : q_G) (m : q_M) (k : Nat) (F : Value → Prop) : Prop := match g.1 k with
  | .inr (.inr (c', fs)) => c' = c ∧ match fs[f]? with
    | some none => F (.int (m k f))
    | some (some v) => F v
    | none => False
  | _ => False
def q_pf (c f : Nat) (z : Bool) (g : q_G) (m : q_M) (k : Nat) (v : Value) (F : q_G → q_M → Prop) : Prop := match g.1 k with
  | .inr (.inr (c', fs)) => c' = c ∧ k < 900 ∧ match fs[f]?, v with
    | some none, .int a => (z = true → a = 0 ∨ a = 1) ∧ F g (q_up m k f a)
    | some (some _), .ref r => F (q_sh g k (.inr (.inr (c, fs.set f (some (.ref r)))))) m
    | some (some _), .null => F (q_sh g k (.inr (.inr (c, fs.set f (some .null))))) m
    | _, _ => False
  | _ => False
section QF
variable {j pc x d : Nat} {y : Int} {lv : List (Option Value)} {st : List Value} {g : q_G} {m : q_M} {K : Option Value → q_G → q_M → Prop} {r z : Nat} {i v : Int32} {w : Value}
theorem q_al_of : (q_X (.arraylength, x, y) j pc d lv (.ref r :: st) g m K) ↔ q_al g r (fun x1 => q_R j (pc + 1) d lv (.int x1 :: st) g m K) := by
  unfold q_X q_al
  simp only [q_kind, q_step]
  rcases g.1 r with n | ⟨c, n, f⟩ | n
  · exact Iff.rfl
  · dsimp only
    by_cases h : 900 ≤ r
    · rw [if_pos h]
      exact ⟨fun h => h.elim, fun q => by omega⟩
    · rw [if_neg h]
      exact ⟨fun q => ⟨by omega, q⟩, fun q => q.2⟩
  · exact Iff.rfl
theorem q_ia_of : (q_X (.iaload, x, y) j pc d lv (.int i :: .ref r :: st) g m K) ↔ q_ia g m r i (fun x1 => q_R j (pc + 1) d lv (.int x1 :: st) g m K) := by
  unfold q_X q_ia vp_in
  simp only [q_kind, q_step]
  rcases g.1 r with n | n | n
  · dsimp only
    by_cases h : i < 0 ∨ n ≤ i.toNatClampNeg ∨ 930 ≤ r
    · rw [if_pos h]
      constructor
      · exact fun h => h.elim
      · rintro ⟨h1, h2, -⟩
        exact h.elim (fun a => h1 (Or.inl a)) (fun a => a.elim (fun a => h1 (Or.inr a)) (fun a => by omega))
    · rw [if_neg h]
      exact ⟨fun q => ⟨fun a => h (a.elim Or.inl fun b => Or.inr (Or.inl b)), by omega, q⟩, fun q => q.2.2⟩
  · exact Iff.rfl
  · exact Iff.rfl
theorem q_ba_of : (q_X (.baload, x, y) j pc d lv (.int i :: .ref r :: st) g m K) ↔ q_ba g m r i (fun x1 => q_R j (pc + 1) d lv (.int x1 :: st) g m K) := by
  unfold q_X q_ba vp_in
  simp only [q_kind, q_step]
  rcases g.1 r with n | n | n
  · dsimp only
    by_cases h : i < 0 ∨ n ≤ i.toNatClampNeg ∨ r < 930
    · rw [if_pos h]
      constructor
      · exact fun h => h.elim
      · rintro ⟨h1, h2, -⟩
        exact h.elim (fun a => h1 (Or.inl a)) (fun a => a.elim (fun a => h1 (Or.inr a)) (fun a => by omega))
    · rw [if_neg h]
      exact ⟨fun q => ⟨fun a => h (a.elim Or.inl fun b => Or.inr (Or.inl b)), by omega, q⟩, fun q => q.2.2⟩
  · exact Iff.rfl
  · exact Iff.rfl
theorem q_is_of : (q_X (.iastore, x, y) j pc d lv (.int v :: .int i :: .ref r :: st) g m K) ↔ q_is g r i (q_R j (pc + 1) d lv st g (q_up m r i.toNatClampNeg v) K) := by
  unfold q_X q_is vp_in
  simp only [q_kind, q_step]
  rcases g.1 r with n | n | n
  · dsimp only
    by_cases h : i < 0 ∨ n ≤ i.toNatClampNeg ∨ 900 ≤ r
    · rw [if_pos h]
      constructor
      · exact fun h => h.elim
      · rintro ⟨h1, h2, -⟩
        exact h.elim (fun a => h1 (Or.inl a)) (fun a => a.elim (fun a => h1 (Or.inr a)) (fun a => by omega))
    · rw [if_neg h]
      exact ⟨fun q => ⟨fun a => h (a.elim Or.inl fun b => Or.inr (Or.inl b)), by omega, q⟩, fun q => q.2.2⟩
  · exact Iff.rfl
  · exact Iff.rfl
theorem q_aa_of : (q_X (.aaload, x, y) j pc d lv (.int i :: .ref r :: st) g m K) ↔ q_aa g r i (fun v1 => q_R j (pc + 1) d lv (v1 :: st) g m K) := by
  unfold q_X q_aa vp_in
  simp only [q_kind, q_step]
  rcases g.1 r with n | ⟨c, n, f⟩ | n
  · exact Iff.rfl
  · dsimp only
    by_cases h : i < 0 ∨ n ≤ i.toNatClampNeg ∨ 900 ≤ r
    · rw [if_pos h]
      constructor
      · exact fun h => h.elim
      · rintro ⟨h1, h2, -⟩
        exact h.elim (fun a => h1 (Or.inl a)) (fun a => a.elim (fun a => h1 (Or.inr a)) (fun a => by omega))
    · rw [if_neg h]
      exact ⟨fun q => ⟨fun a => h (a.elim Or.inl fun b => Or.inr (Or.inl b)), by omega, q⟩, fun q => q.2.2⟩
  · exact Iff.rfl
theorem q_as_of : (q_X (.aastore, x, y) j pc d lv (.ref z :: .int i :: .ref r :: st) g m K) ↔ q_as g r i z (fun g => q_R j (pc + 1) d lv st g m K) := by
  unfold q_X q_as vp_in
  simp only [q_kind, q_step]
  rcases g.1 r with n | ⟨c, n, f⟩ | n
  · exact Iff.rfl
  · rcases g.1 z with n2 | n2 | ⟨c2, fs⟩
    · exact Iff.rfl
    · exact Iff.rfl
    · dsimp only
      by_cases h : i < 0 ∨ n ≤ i.toNatClampNeg ∨ 900 ≤ r ∨ 900 ≤ z ∨ c2 ≠ c
      · rw [if_pos h]
        constructor
        · exact fun h => h.elim
        · rintro ⟨h1, h2, h3, h4, -⟩
          exact h.elim (fun a => h1 (Or.inl a)) (fun a => a.elim (fun a => h1 (Or.inr a)) (fun a => a.elim (fun a => by omega) (fun a => a.elim (fun a => by omega) (fun a => a h4))))
      · rw [if_neg h]
        exact ⟨fun q => ⟨fun a => h (a.elim Or.inl fun b => Or.inr (Or.inl b)), by omega, by omega, Decidable.byContradiction fun a => h (Or.inr (Or.inr (Or.inr (Or.inr a)))), q⟩, fun q => q.2.2.2.2⟩
  · exact Iff.rfl
theorem q_asn_of : (q_X (.aastore, x, y) j pc d lv (.null :: .int i :: .ref r :: st) g m K) ↔ q_asn g r i (fun g => q_R j (pc + 1) d lv st g m K) := by
  unfold q_X q_asn vp_in
  simp only [q_kind, q_step]
  rcases g.1 r with n | ⟨c, n, f⟩ | n
  · exact Iff.rfl
  · dsimp only
    by_cases h : i < 0 ∨ n ≤ i.toNatClampNeg ∨ 900 ≤ r
    · rw [if_pos h]
      constructor
      · exact fun h => h.elim
      · rintro ⟨h1, h2, -⟩
        exact h.elim (fun a => h1 (Or.inl a)) (fun a => a.elim (fun a => h1 (Or.inr a)) (fun a => by omega))
    · rw [if_neg h]
      exact ⟨fun q => ⟨fun a => h (a.elim Or.inl fun b => Or.inr (Or.inl b)), by omega, q⟩, fun q => q.2.2⟩
  · exact Iff.rfl
theorem q_gf_of {n : Nat} : (q_X (.getfield n, x, y) j pc d lv (.ref r :: st) g m K) ↔ q_gf x (y.toNat % 1000) g m r (fun v1 => q_R j (pc + 3) d lv (v1 :: st) g m K) := by
  unfold q_X q_gf
  simp only [q_kind, q_step]
  rcases g.1 r with n | n | ⟨c, fs⟩
  · exact Iff.rfl
  · exact Iff.rfl
  · dsimp only
    by_cases h : c ≠ x
    · rw [if_pos h]
      exact ⟨fun h => h.elim, fun q => absurd q.1 h⟩
    · rw [if_neg h]
      have hc : c = x := Decidable.byContradiction h
      rcases fs[y.toNat % 1000]? with _ | _ | v <;> simp [hc]
theorem q_pf_of {n : Nat} : (q_X (.putfield n, x, y) j pc d lv (w :: .ref r :: st) g m K) ↔ q_pf x (y.toNat % 1000) (decide (1000 ≤ y)) g m r w (fun g m => q_R j (pc + 3) d lv st g m K) := by
  unfold q_X q_pf
  simp only [q_kind, q_step]
  rcases g.1 r with n | n | ⟨c, fs⟩
  · exact Iff.rfl
  · exact Iff.rfl
  · dsimp only
    by_cases h : c ≠ x ∨ 900 ≤ r
    · rw [if_pos h]
      exact ⟨fun h => h.elim, fun q => h.elim (fun a => a q.1) (fun a => by omega)⟩
    · rw [if_neg h]
      have hc : c = x := Decidable.byContradiction fun a => h (Or.inl a)
      have hr : r < 900 := by omega
      subst hc
      rcases fs[y.toNat % 1000]? with _ | _ | v
      · cases w <;> simp
      · cases w with
        | int a =>
          dsimp only
          by_cases q : 1000 ≤ y ∧ a ≠ 0 ∧ a ≠ 1
          · rw [if_pos q]
            constructor
            · exact fun h => h.elim
            · rintro ⟨-, -, h3, -⟩
              rcases h3 (by simp [q.1]) with a | a
              · exact q.2.1 a
              · exact q.2.2 a
          · rw [if_neg q]
            refine ⟨fun k => ⟨rfl, hr, fun z => ?_, k⟩, fun k => k.2.2.2⟩
            have z1 : 1000 ≤ y := by simpa using z
            rcases Decidable.em (a = 0) with e | e
            · exact Or.inl e
            · rcases Decidable.em (a = 1) with e2 | e2
              · exact Or.inr e2
              · exact absurd ⟨z1, e, e2⟩ q
        | _ => simp
      · cases w <;> simp [hr]
end QF
def q_io (c : Nat) (g : q_G) (k : Nat) : Prop := match g.1 k with
  | .inr (.inr (c', _)) => c' = c
  | _ => False
section QC
variable {j pc d x n : Nat} {lv : List (Option Value)} {st : List Value} {g : q_G} {m : q_M} {K : Option Value → q_G → q_M → Prop} {v1 v2 v3 v4 v5 v6 v7 : Value} {r1 : Nat}
theorem q_cls0 (hx : ¬ (x = 9998 ∨ x = 9997) := by decide) (hl : (q_ent []).length ≤ q_nl x := by exact Nat.le_of_ble_eq_true rfl) : q_X (.invokestatic n, x, 0) j pc (d + 1) lv (st) g m K ↔ (q_sm st ≤ 8 ∧ q_C x d [] g m (fun v g m => q_R j (pc + 3) (d + 1) lv (q_push v st) g m K)) := by
  unfold q_X
  simp only [q_kind, if_neg hx, q_args]
  by_cases h : q_sm st ≤ 8
  · simp [h, hl]
  · simp [h, hl]
theorem q_cls1 (hx : ¬ (x = 9998 ∨ x = 9997) := by decide) (hl : (q_ent [v1]).length ≤ q_nl x := by exact Nat.le_of_ble_eq_true rfl) : q_X (.invokestatic n, x, 1) j pc (d + 1) lv (v1 :: st) g m K ↔ (q_sm st ≤ 8 ∧ q_C x d [v1] g m (fun v g m => q_R j (pc + 3) (d + 1) lv (q_push v st) g m K)) := by
  unfold q_X
  simp only [q_kind, if_neg hx, q_args]
  by_cases h : q_sm st ≤ 8
  · simp [h, hl]
  · simp [h, hl]
theorem q_cls2 (hx : ¬ (x = 9998 ∨ x = 9997) := by decide) (hl : (q_ent [v1, v2]).length ≤ q_nl x := by exact Nat.le_of_ble_eq_true rfl) : q_X (.invokestatic n, x, 2) j pc (d + 1) lv (v2 :: v1 :: st) g m K ↔ (q_sm st ≤ 8 ∧ q_C x d [v1, v2] g m (fun v g m => q_R j (pc + 3) (d + 1) lv (q_push v st) g m K)) := by
  unfold q_X
  simp only [q_kind, if_neg hx, q_args]
  by_cases h : q_sm st ≤ 8
  · simp [h, hl]
  · simp [h, hl]
theorem q_cls3 (hx : ¬ (x = 9998 ∨ x = 9997) := by decide) (hl : (q_ent [v1, v2, v3]).length ≤ q_nl x := by exact Nat.le_of_ble_eq_true rfl) : q_X (.invokestatic n, x, 3) j pc (d + 1) lv (v3 :: v2 :: v1 :: st) g m K ↔ (q_sm st ≤ 8 ∧ q_C x d [v1, v2, v3] g m (fun v g m => q_R j (pc + 3) (d + 1) lv (q_push v st) g m K)) := by
  unfold q_X
  simp only [q_kind, if_neg hx, q_args]
  by_cases h : q_sm st ≤ 8
  · simp [h, hl]
  · simp [h, hl]
theorem q_cls4 (hx : ¬ (x = 9998 ∨ x = 9997) := by decide) (hl : (q_ent [v1, v2, v3, v4]).length ≤ q_nl x := by exact Nat.le_of_ble_eq_true rfl) : q_X (.invokestatic n, x, 4) j pc (d + 1) lv (v4 :: v3 :: v2 :: v1 :: st) g m K ↔ (q_sm st ≤ 8 ∧ q_C x d [v1, v2, v3, v4] g m (fun v g m => q_R j (pc + 3) (d + 1) lv (q_push v st) g m K)) := by
  unfold q_X
  simp only [q_kind, if_neg hx, q_args]
  by_cases h : q_sm st ≤ 8
  · simp [h, hl]
  · simp [h, hl]
theorem q_cls5 (hx : ¬ (x = 9998 ∨ x = 9997) := by decide) (hl : (q_ent [v1, v2, v3, v4, v5]).length ≤ q_nl x := by exact Nat.le_of_ble_eq_true rfl) : q_X (.invokestatic n, x, 5) j pc (d + 1) lv (v5 :: v4 :: v3 :: v2 :: v1 :: st) g m K ↔ (q_sm st ≤ 8 ∧ q_C x d [v1, v2, v3, v4, v5] g m (fun v g m => q_R j (pc + 3) (d + 1) lv (q_push v st) g m K)) := by
  unfold q_X
  simp only [q_kind, if_neg hx, q_args]
  by_cases h : q_sm st ≤ 8
  · simp [h, hl]
  · simp [h, hl]
theorem q_cls6 (hx : ¬ (x = 9998 ∨ x = 9997) := by decide) (hl : (q_ent [v1, v2, v3, v4, v5, v6]).length ≤ q_nl x := by exact Nat.le_of_ble_eq_true rfl) : q_X (.invokestatic n, x, 6) j pc (d + 1) lv (v6 :: v5 :: v4 :: v3 :: v2 :: v1 :: st) g m K ↔ (q_sm st ≤ 8 ∧ q_C x d [v1, v2, v3, v4, v5, v6] g m (fun v g m => q_R j (pc + 3) (d + 1) lv (q_push v st) g m K)) := by
  unfold q_X
  simp only [q_kind, if_neg hx, q_args]
  by_cases h : q_sm st ≤ 8
  · simp [h, hl]
  · simp [h, hl]
theorem q_cls7 (hx : ¬ (x = 9998 ∨ x = 9997) := by decide) (hl : (q_ent [v1, v2, v3, v4, v5, v6, v7]).length ≤ q_nl x := by exact Nat.le_of_ble_eq_true rfl) : q_X (.invokestatic n, x, 7) j pc (d + 1) lv (v7 :: v6 :: v5 :: v4 :: v3 :: v2 :: v1 :: st) g m K ↔ (q_sm st ≤ 8 ∧ q_C x d [v1, v2, v3, v4, v5, v6, v7] g m (fun v g m => q_R j (pc + 3) (d + 1) lv (q_push v st) g m K)) := by
  unfold q_X
  simp only [q_kind, if_neg hx, q_args]
  by_cases h : q_sm st ≤ 8
  · simp [h, hl]
  · simp [h, hl]
theorem q_clv1 (hl : (q_ent [.ref r1]).length ≤ q_nl x := by exact Nat.le_of_ble_eq_true rfl) : q_X (.invokevirtual n, x, 1) j pc (d + 1) lv (.ref r1 :: st) g m K ↔ (q_sm st ≤ 8 ∧ q_io (q_oc x) g r1 ∧ q_C x d [.ref r1] g m (fun v g m => q_R j (pc + 3) (d + 1) lv (q_push v st) g m K)) := by
  unfold q_X
  simp only [q_kind, q_args]
  unfold q_io
  simp
  rcases g.1 r1 with z | z | ⟨z, z2⟩
  · simp
  · simp
  · by_cases h : q_sm st ≤ 8 <;> by_cases h2 : z = q_oc x <;> simp [h, h2, hl]
theorem q_clv2 (hl : (q_ent [.ref r1, v2]).length ≤ q_nl x := by exact Nat.le_of_ble_eq_true rfl) : q_X (.invokevirtual n, x, 2) j pc (d + 1) lv (v2 :: .ref r1 :: st) g m K ↔ (q_sm st ≤ 8 ∧ q_io (q_oc x) g r1 ∧ q_C x d [.ref r1, v2] g m (fun v g m => q_R j (pc + 3) (d + 1) lv (q_push v st) g m K)) := by
  unfold q_X
  simp only [q_kind, q_args]
  unfold q_io
  simp
  rcases g.1 r1 with z | z | ⟨z, z2⟩
  · simp
  · simp
  · by_cases h : q_sm st ≤ 8 <;> by_cases h2 : z = q_oc x <;> simp [h, h2, hl]
theorem q_clv3 (hl : (q_ent [.ref r1, v2, v3]).length ≤ q_nl x := by exact Nat.le_of_ble_eq_true rfl) : q_X (.invokevirtual n, x, 3) j pc (d + 1) lv (v3 :: v2 :: .ref r1 :: st) g m K ↔ (q_sm st ≤ 8 ∧ q_io (q_oc x) g r1 ∧ q_C x d [.ref r1, v2, v3] g m (fun v g m => q_R j (pc + 3) (d + 1) lv (q_push v st) g m K)) := by
  unfold q_X
  simp only [q_kind, q_args]
  unfold q_io
  simp
  rcases g.1 r1 with z | z | ⟨z, z2⟩
  · simp
  · simp
  · by_cases h : q_sm st ≤ 8 <;> by_cases h2 : z = q_oc x <;> simp [h, h2, hl]
theorem q_clv4 (hl : (q_ent [.ref r1, v2, v3, v4]).length ≤ q_nl x := by exact Nat.le_of_ble_eq_true rfl) : q_X (.invokevirtual n, x, 4) j pc (d + 1) lv (v4 :: v3 :: v2 :: .ref r1 :: st) g m K ↔ (q_sm st ≤ 8 ∧ q_io (q_oc x) g r1 ∧ q_C x d [.ref r1, v2, v3, v4] g m (fun v g m => q_R j (pc + 3) (d + 1) lv (q_push v st) g m K)) := by
  unfold q_X
  simp only [q_kind, q_args]
  unfold q_io
  simp
  rcases g.1 r1 with z | z | ⟨z, z2⟩
  · simp
  · simp
  · by_cases h : q_sm st ≤ 8 <;> by_cases h2 : z = q_oc x <;> simp [h, h2, hl]
theorem q_clv5 (hl : (q_ent [.ref r1, v2, v3, v4, v5]).length ≤ q_nl x := by exact Nat.le_of_ble_eq_true rfl) : q_X (.invokevirtual n, x, 5) j pc (d + 1) lv (v5 :: v4 :: v3 :: v2 :: .ref r1 :: st) g m K ↔ (q_sm st ≤ 8 ∧ q_io (q_oc x) g r1 ∧ q_C x d [.ref r1, v2, v3, v4, v5] g m (fun v g m => q_R j (pc + 3) (d + 1) lv (q_push v st) g m K)) := by
  unfold q_X
  simp only [q_kind, q_args]
  unfold q_io
  simp
  rcases g.1 r1 with z | z | ⟨z, z2⟩
  · simp
  · simp
  · by_cases h : q_sm st ≤ 8 <;> by_cases h2 : z = q_oc x <;> simp [h, h2, hl]
theorem q_clv6 (hl : (q_ent [.ref r1, v2, v3, v4, v5, v6]).length ≤ q_nl x := by exact Nat.le_of_ble_eq_true rfl) : q_X (.invokevirtual n, x, 6) j pc (d + 1) lv (v6 :: v5 :: v4 :: v3 :: v2 :: .ref r1 :: st) g m K ↔ (q_sm st ≤ 8 ∧ q_io (q_oc x) g r1 ∧ q_C x d [.ref r1, v2, v3, v4, v5, v6] g m (fun v g m => q_R j (pc + 3) (d + 1) lv (q_push v st) g m K)) := by
  unfold q_X
  simp only [q_kind, q_args]
  unfold q_io
  simp
  rcases g.1 r1 with z | z | ⟨z, z2⟩
  · simp
  · simp
  · by_cases h : q_sm st ≤ 8 <;> by_cases h2 : z = q_oc x <;> simp [h, h2, hl]
theorem q_clv7 (hl : (q_ent [.ref r1, v2, v3, v4, v5, v6, v7]).length ≤ q_nl x := by exact Nat.le_of_ble_eq_true rfl) : q_X (.invokevirtual n, x, 7) j pc (d + 1) lv (v7 :: v6 :: v5 :: v4 :: v3 :: v2 :: .ref r1 :: st) g m K ↔ (q_sm st ≤ 8 ∧ q_io (q_oc x) g r1 ∧ q_C x d [.ref r1, v2, v3, v4, v5, v6, v7] g m (fun v g m => q_R j (pc + 3) (d + 1) lv (q_push v st) g m K)) := by
  unfold q_X
  simp only [q_kind, q_args]
  unfold q_io
  simp
  rcases g.1 r1 with z | z | ⟨z, z2⟩
  · simp
  · simp
  · by_cases h : q_sm st ≤ 8 <;> by_cases h2 : z = q_oc x <;> simp [h, h2, hl]
theorem q_clp1 (hx : x ≠ 9999 := by decide) (hl : (q_ent [.ref r1]).length ≤ q_nl x := by exact Nat.le_of_ble_eq_true rfl) : q_X (.invokespecial n, x, 1) j pc (d + 1) lv (.ref r1 :: st) g m K ↔ (q_sm st ≤ 8 ∧ r1 < 900 ∧ q_C x d [.ref r1] g m (fun v g m => q_R j (pc + 3) (d + 1) lv (q_push v st) g m K)) := by
  unfold q_X
  simp only [q_kind, if_neg hx, q_args]
  by_cases h : q_sm st ≤ 8 <;> by_cases h2 : r1 < 900 <;> simp [h, h2, hl]


theorem q_clp2 (hx : x ≠ 9999 := by decide) (hl : (q_ent [.ref r1, v2]).length ≤ q_nl x := by exact Nat.le_of_ble_eq_true rfl) : q_X (.invokespecial n, x, 2) j pc (d + 1) lv (v2 :: .ref r1 :: st) g m K ↔ (q_sm st ≤ 8 ∧ r1 < 900 ∧ q_C x d [.ref r1, v2] g m (fun v g m => q_R j (pc + 3) (d + 1) lv (q_push v st) g m K)) := by
  unfold q_X
  simp only [q_kind, if_neg hx, q_args]
  by_cases h : q_sm st ≤ 8 <;> by_cases h2 : r1 < 900 <;> simp [h, h2, hl]


theorem q_clp3 (hx : x ≠ 9999 := by decide) (hl : (q_ent [.ref r1, v2, v3]).length ≤ q_nl x := by exact Nat.le_of_ble_eq_true rfl) : q_X (.invokespecial n, x, 3) j pc (d + 1) lv (v3 :: v2 :: .ref r1 :: st) g m K ↔ (q_sm st ≤ 8 ∧ r1 < 900 ∧ q_C x d [.ref r1, v2, v3] g m (fun v g m => q_R j (pc + 3) (d + 1) lv (q_push v st) g m K)) := by
  unfold q_X
  simp only [q_kind, if_neg hx, q_args]
  by_cases h : q_sm st ≤ 8 <;> by_cases h2 : r1 < 900 <;> simp [h, h2, hl]


theorem q_clp4 (hx : x ≠ 9999 := by decide) (hl : (q_ent [.ref r1, v2, v3, v4]).length ≤ q_nl x := by exact Nat.le_of_ble_eq_true rfl) : q_X (.invokespecial n, x, 4) j pc (d + 1) lv (v4 :: v3 :: v2 :: .ref r1 :: st) g m K ↔ (q_sm st ≤ 8 ∧ r1 < 900 ∧ q_C x d [.ref r1, v2, v3, v4] g m (fun v g m => q_R j (pc + 3) (d + 1) lv (q_push v st) g m K)) := by
  unfold q_X
  simp only [q_kind, if_neg hx, q_args]
  by_cases h : q_sm st ≤ 8 <;> by_cases h2 : r1 < 900 <;> simp [h, h2, hl]


theorem q_clp5 (hx : x ≠ 9999 := by decide) (hl : (q_ent [.ref r1, v2, v3, v4, v5]).length ≤ q_nl x := by exact Nat.le_of_ble_eq_true rfl) : q_X (.invokespecial n, x, 5) j pc (d + 1) lv (v5 :: v4 :: v3 :: v2 :: .ref r1 :: st) g m K ↔ (q_sm st ≤ 8 ∧ r1 < 900 ∧ q_C x d [.ref r1, v2, v3, v4, v5] g m (fun v g m => q_R j (pc + 3) (d + 1) lv (q_push v st) g m K)) := by
  unfold q_X
  simp only [q_kind, if_neg hx, q_args]
  by_cases h : q_sm st ≤ 8 <;> by_cases h2 : r1 < 900 <;> simp [h, h2, hl]


theorem q_clp6 (hx : x ≠ 9999 := by decide) (hl : (q_ent [.ref r1, v2, v3, v4, v5, v6]).length ≤ q_nl x := by exact Nat.le_of_ble_eq_true rfl) : q_X (.invokespecial n, x, 6) j pc (d + 1) lv (v6 :: v5 :: v4 :: v3 :: v2 :: .ref r1 :: st) g m K ↔ (q_sm st ≤ 8 ∧ r1 < 900 ∧ q_C x d [.ref r1, v2, v3, v4, v5, v6] g m (fun v g m => q_R j (pc + 3) (d + 1) lv (q_push v st) g m K)) := by
  unfold q_X
  simp only [q_kind, if_neg hx, q_args]
  by_cases h : q_sm st ≤ 8 <;> by_cases h2 : r1 < 900 <;> simp [h, h2, hl]


theorem q_clp7 (hx : x ≠ 9999 := by decide) (hl : (q_ent [.ref r1, v2, v3, v4, v5, v6, v7]).length ≤ q_nl x := by exact Nat.le_of_ble_eq_true rfl) : q_X (.invokespecial n, x, 7) j pc (d + 1) lv (v7 :: v6 :: v5 :: v4 :: v3 :: v2 :: .ref r1 :: st) g m K ↔ (q_sm st ≤ 8 ∧ r1 < 900 ∧ q_C x d [.ref r1, v2, v3, v4, v5, v6, v7] g m (fun v g m => q_R j (pc + 3) (d + 1) lv (q_push v st) g m K)) := by
  unfold q_X
  simp only [q_kind, if_neg hx, q_args]
  by_cases h : q_sm st ≤ 8 <;> by_cases h2 : r1 < 900 <;> simp [h, h2, hl]


end QC
theorem q_sws2 {j d td : Nat} {z : Int} {b0 : Int} {t0 : Nat} {b1 : Int} {t1 : Nat} {lv : List (Option Value)} {st : List Value} {g : q_G} {m : q_M} {K : Option Value → q_G → q_M → Prop} : q_R j (q_sw [(b0, t0), (b1, t1)] td z) d lv st g m K ↔ if z = b0 then q_R j t0 d lv st g m K else if z = b1 then q_R j t1 d lv st g m K else q_R j td d lv st g m K := by
  simp only [q_sw, q_if]
theorem q_sws5 {j d td : Nat} {z : Int} {b0 : Int} {t0 : Nat} {b1 : Int} {t1 : Nat} {b2 : Int} {t2 : Nat} {b3 : Int} {t3 : Nat} {b4 : Int} {t4 : Nat} {lv : List (Option Value)} {st : List Value} {g : q_G} {m : q_M} {K : Option Value → q_G → q_M → Prop} : q_R j (q_sw [(b0, t0), (b1, t1), (b2, t2), (b3, t3), (b4, t4)] td z) d lv st g m K ↔ if z = b0 then q_R j t0 d lv st g m K else if z = b1 then q_R j t1 d lv st g m K else if z = b2 then q_R j t2 d lv st g m K else if z = b3 then q_R j t3 d lv st g m K else if z = b4 then q_R j t4 d lv st g m K else q_R j td d lv st g m K := by
  simp only [q_sw, q_if]
theorem q_sws6 {j d td : Nat} {z : Int} {b0 : Int} {t0 : Nat} {b1 : Int} {t1 : Nat} {b2 : Int} {t2 : Nat} {b3 : Int} {t3 : Nat} {b4 : Int} {t4 : Nat} {b5 : Int} {t5 : Nat} {lv : List (Option Value)} {st : List Value} {g : q_G} {m : q_M} {K : Option Value → q_G → q_M → Prop} : q_R j (q_sw [(b0, t0), (b1, t1), (b2, t2), (b3, t3), (b4, t4), (b5, t5)] td z) d lv st g m K ↔ if z = b0 then q_R j t0 d lv st g m K else if z = b1 then q_R j t1 d lv st g m K else if z = b2 then q_R j t2 d lv st g m K else if z = b3 then q_R j t3 d lv st g m K else if z = b4 then q_R j t4 d lv st g m K else if z = b5 then q_R j t5 d lv st g m K else q_R j td d lv st g m K := by
  simp only [q_sw, q_if]
theorem q_sws7 {j d td : Nat} {z : Int} {b0 : Int} {t0 : Nat} {b1 : Int} {t1 : Nat} {b2 : Int} {t2 : Nat} {b3 : Int} {t3 : Nat} {b4 : Int} {t4 : Nat} {b5 : Int} {t5 : Nat} {b6 : Int} {t6 : Nat} {lv : List (Option Value)} {st : List Value} {g : q_G} {m : q_M} {K : Option Value → q_G → q_M → Prop} : q_R j (q_sw [(b0, t0), (b1, t1), (b2, t2), (b3, t3), (b4, t4), (b5, t5), (b6, t6)] td z) d lv st g m K ↔ if z = b0 then q_R j t0 d lv st g m K else if z = b1 then q_R j t1 d lv st g m K else if z = b2 then q_R j t2 d lv st g m K else if z = b3 then q_R j t3 d lv st g m K else if z = b4 then q_R j t4 d lv st g m K else if z = b5 then q_R j t5 d lv st g m K else if z = b6 then q_R j t6 d lv st g m K else q_R j td d lv st g m K := by
  simp only [q_sw, q_if]
set_option maxRecDepth 4000 in
theorem q_sws40 {j d td : Nat} {z : Int} {b0 : Int} {t0 : Nat} {b1 : Int} {t1 : Nat} {b2 : Int} {t2 : Nat} {b3 : Int} {t3 : Nat} {b4 : Int} {t4 : Nat} {b5 : Int} {t5 : Nat} {b6 : Int} {t6 : Nat} {b7 : Int} {t7 : Nat} {b8 : Int} {t8 : Nat} {b9 : Int} {t9 : Nat} {b10 : Int} {t10 : Nat} {b11 : Int} {t11 : Nat} {b12 : Int} {t12 : Nat} {b13 : Int} {t13 : Nat} {b14 : Int} {t14 : Nat} {b15 : Int} {t15 : Nat} {b16 : Int} {t16 : Nat} {b17 : Int} {t17 : Nat} {b18 : Int} {t18 : Nat} {b19 : Int} {t19 : Nat} {b20 : Int} {t20 : Nat} {b21 : Int} {t21 : Nat} {b22 : Int} {t22 : Nat} {b23 : Int} {t23 : Nat} {b24 : Int} {t24 : Nat} {b25 : Int} {t25 : Nat} {b26 : Int} {t26 : Nat} {b27 : Int} {t27 : Nat} {b28 : Int} {t28 : Nat} {b29 : Int} {t29 : Nat} {b30 : Int} {t30 : Nat} {b31 : Int} {t31 : Nat} {b32 : Int} {t32 : Nat} {b33 : Int} {t33 : Nat} {b34 : Int} {t34 : Nat} {b35 : Int} {t35 : Nat} {b36 : Int} {t36 : Nat} {b37 : Int} {t37 : Nat} {b38 : Int} {t38 : Nat} {b39 : Int} {t39 : Nat} {lv : List (Option Value)} {st : List Value} {g : q_G} {m : q_M} {K : Option Value → q_G → q_M → Prop} : q_R j (q_sw [(b0, t0), (b1, t1), (b2, t2), (b3, t3), (b4, t4), (b5, t5), (b6, t6), (b7, t7), (b8, t8), (b9, t9), (b10, t10), (b11, t11), (b12, t12), (b13, t13), (b14, t14), (b15, t15), (b16, t16), (b17, t17), (b18, t18), (b19, t19), (b20, t20), (b21, t21), (b22, t22), (b23, t23), (b24, t24), (b25, t25), (b26, t26), (b27, t27), (b28, t28), (b29, t29), (b30, t30), (b31, t31), (b32, t32), (b33, t33), (b34, t34), (b35, t35), (b36, t36), (b37, t37), (b38, t38), (b39, t39)] td z) d lv st g m K ↔ if z = b0 then q_R j t0 d lv st g m K else if z = b1 then q_R j t1 d lv st g m K else if z = b2 then q_R j t2 d lv st g m K else if z = b3 then q_R j t3 d lv st g m K else if z = b4 then q_R j t4 d lv st g m K else if z = b5 then q_R j t5 d lv st g m K else if z = b6 then q_R j t6 d lv st g m K else if z = b7 then q_R j t7 d lv st g m K else if z = b8 then q_R j t8 d lv st g m K else if z = b9 then q_R j t9 d lv st g m K else if z = b10 then q_R j t10 d lv st g m K else if z = b11 then q_R j t11 d lv st g m K else if z = b12 then q_R j t12 d lv st g m K else if z = b13 then q_R j t13 d lv st g m K else if z = b14 then q_R j t14 d lv st g m K else if z = b15 then q_R j t15 d lv st g m K else if z = b16 then q_R j t16 d lv st g m K else if z = b17 then q_R j t17 d lv st g m K else if z = b18 then q_R j t18 d lv st g m K else if z = b19 then q_R j t19 d lv st g m K else if z = b20 then q_R j t20 d lv st g m K else if z = b21 then q_R j t21 d lv st g m K else if z = b22 then q_R j t22 d lv st g m K else if z = b23 then q_R j t23 d lv st g m K else if z = b24 then q_R j t24 d lv st g m K else if z = b25 then q_R j t25 d lv st g m K else if z = b26 then q_R j t26 d lv st g m K else if z = b27 then q_R j t27 d lv st g m K else if z = b28 then q_R j t28 d lv st g m K else if z = b29 then q_R j t29 d lv st g m K else if z = b30 then q_R j t30 d lv st g m K else if z = b31 then q_R j t31 d lv st g m K else if z = b32 then q_R j t32 d lv st g m K else if z = b33 then q_R j t33 d lv st g m K else if z = b34 then q_R j t34 d lv st g m K else if z = b35 then q_R j t35 d lv st g m K else if z = b36 then q_R j t36 d lv st g m K else if z = b37 then q_R j t37 d lv st g m K else if z = b38 then q_R j t38 d lv st g m K else if z = b39 then q_R j t39 d lv st g m K else q_R j td d lv st g m K := by
  simp only [q_sw, q_if]
theorem q_sws3 {j d td : Nat} {z : Int} {b0 : Int} {t0 : Nat} {b1 : Int} {t1 : Nat} {b2 : Int} {t2 : Nat} {lv : List (Option Value)} {st : List Value} {g : q_G} {m : q_M} {K : Option Value → q_G → q_M → Prop} : q_R j (q_sw [(b0, t0), (b1, t1), (b2, t2)] td z) d lv st g m K ↔ if z = b0 then q_R j t0 d lv st g m K else if z = b1 then q_R j t1 d lv st g m K else if z = b2 then q_R j t2 d lv st g m K else q_R j td d lv st g m K := by
  simp only [q_sw, q_if]
theorem q_bipushm100 : (Int8.ofInt (-100)).toInt32 = (-100 : Int32) := by decide +kernel
theorem q_bipushm20 : (Int8.ofInt (-20)).toInt32 = (-20 : Int32) := by decide +kernel
theorem q_bipushm18 : (Int8.ofInt (-18)).toInt32 = (-18 : Int32) := by decide +kernel
theorem q_bipushm17 : (Int8.ofInt (-17)).toInt32 = (-17 : Int32) := by decide +kernel
theorem q_bipushm16 : (Int8.ofInt (-16)).toInt32 = (-16 : Int32) := by decide +kernel
theorem q_bipushm15 : (Int8.ofInt (-15)).toInt32 = (-15 : Int32) := by decide +kernel
theorem q_bipushm14 : (Int8.ofInt (-14)).toInt32 = (-14 : Int32) := by decide +kernel
theorem q_bipushm13 : (Int8.ofInt (-13)).toInt32 = (-13 : Int32) := by decide +kernel
theorem q_bipushm12 : (Int8.ofInt (-12)).toInt32 = (-12 : Int32) := by decide +kernel
theorem q_bipushm11 : (Int8.ofInt (-11)).toInt32 = (-11 : Int32) := by decide +kernel
theorem q_bipushm10 : (Int8.ofInt (-10)).toInt32 = (-10 : Int32) := by decide +kernel
theorem q_bipushm7 : (Int8.ofInt (-7)).toInt32 = (-7 : Int32) := by decide +kernel
theorem q_bipushm6 : (Int8.ofInt (-6)).toInt32 = (-6 : Int32) := by decide +kernel
theorem q_bipushm5 : (Int8.ofInt (-5)).toInt32 = (-5 : Int32) := by decide +kernel
theorem q_bipushm4 : (Int8.ofInt (-4)).toInt32 = (-4 : Int32) := by decide +kernel
theorem q_bipushm3 : (Int8.ofInt (-3)).toInt32 = (-3 : Int32) := by decide +kernel
theorem q_bipushm2 : (Int8.ofInt (-2)).toInt32 = (-2 : Int32) := by decide +kernel
theorem q_bipush6 : (Int8.ofInt 6).toInt32 = nI 6 := by decide +kernel
theorem q_bipush7 : (Int8.ofInt 7).toInt32 = nI 7 := by decide +kernel
theorem q_bipush8 : (Int8.ofInt 8).toInt32 = nI 8 := by decide +kernel
theorem q_bipush9 : (Int8.ofInt 9).toInt32 = nI 9 := by decide +kernel
theorem q_bipush10 : (Int8.ofInt 10).toInt32 = nI 10 := by decide +kernel
theorem q_bipush11 : (Int8.ofInt 11).toInt32 = nI 11 := by decide +kernel
theorem q_bipush12 : (Int8.ofInt 12).toInt32 = nI 12 := by decide +kernel
theorem q_bipush13 : (Int8.ofInt 13).toInt32 = nI 13 := by decide +kernel
theorem q_bipush14 : (Int8.ofInt 14).toInt32 = nI 14 := by decide +kernel
theorem q_bipush15 : (Int8.ofInt 15).toInt32 = nI 15 := by decide +kernel
theorem q_bipush16 : (Int8.ofInt 16).toInt32 = nI 16 := by decide +kernel
theorem q_bipush17 : (Int8.ofInt 17).toInt32 = nI 17 := by decide +kernel
theorem q_bipush18 : (Int8.ofInt 18).toInt32 = nI 18 := by decide +kernel
theorem q_bipush19 : (Int8.ofInt 19).toInt32 = nI 19 := by decide +kernel
theorem q_bipush20 : (Int8.ofInt 20).toInt32 = nI 20 := by decide +kernel
theorem q_bipush21 : (Int8.ofInt 21).toInt32 = nI 21 := by decide +kernel
theorem q_bipush22 : (Int8.ofInt 22).toInt32 = nI 22 := by decide +kernel
theorem q_bipush23 : (Int8.ofInt 23).toInt32 = nI 23 := by decide +kernel
theorem q_bipush24 : (Int8.ofInt 24).toInt32 = nI 24 := by decide +kernel
theorem q_bipush25 : (Int8.ofInt 25).toInt32 = nI 25 := by decide +kernel
theorem q_bipush26 : (Int8.ofInt 26).toInt32 = nI 26 := by decide +kernel
theorem q_bipush27 : (Int8.ofInt 27).toInt32 = nI 27 := by decide +kernel
theorem q_bipush28 : (Int8.ofInt 28).toInt32 = nI 28 := by decide +kernel
theorem q_bipush29 : (Int8.ofInt 29).toInt32 = nI 29 := by decide +kernel
theorem q_bipush30 : (Int8.ofInt 30).toInt32 = nI 30 := by decide +kernel
theorem q_bipush31 : (Int8.ofInt 31).toInt32 = nI 31 := by decide +kernel
theorem q_bipush32 : (Int8.ofInt 32).toInt32 = nI 32 := by decide +kernel
theorem q_bipush33 : (Int8.ofInt 33).toInt32 = nI 33 := by decide +kernel
theorem q_bipush34 : (Int8.ofInt 34).toInt32 = nI 34 := by decide +kernel
theorem q_bipush35 : (Int8.ofInt 35).toInt32 = nI 35 := by decide +kernel
theorem q_bipush36 : (Int8.ofInt 36).toInt32 = nI 36 := by decide +kernel
theorem q_bipush37 : (Int8.ofInt 37).toInt32 = nI 37 := by decide +kernel
theorem q_bipush38 : (Int8.ofInt 38).toInt32 = nI 38 := by decide +kernel
theorem q_bipush39 : (Int8.ofInt 39).toInt32 = nI 39 := by decide +kernel
theorem q_bipush40 : (Int8.ofInt 40).toInt32 = nI 40 := by decide +kernel
theorem q_bipush41 : (Int8.ofInt 41).toInt32 = nI 41 := by decide +kernel
theorem q_bipush42 : (Int8.ofInt 42).toInt32 = nI 42 := by decide +kernel
theorem q_bipush43 : (Int8.ofInt 43).toInt32 = nI 43 := by decide +kernel
theorem q_bipush44 : (Int8.ofInt 44).toInt32 = nI 44 := by decide +kernel
theorem q_bipush45 : (Int8.ofInt 45).toInt32 = nI 45 := by decide +kernel
theorem q_bipush46 : (Int8.ofInt 46).toInt32 = nI 46 := by decide +kernel
theorem q_bipush47 : (Int8.ofInt 47).toInt32 = nI 47 := by decide +kernel
theorem q_bipush48 : (Int8.ofInt 48).toInt32 = nI 48 := by decide +kernel
theorem q_bipush49 : (Int8.ofInt 49).toInt32 = nI 49 := by decide +kernel
theorem q_bipush50 : (Int8.ofInt 50).toInt32 = nI 50 := by decide +kernel
theorem q_bipush51 : (Int8.ofInt 51).toInt32 = nI 51 := by decide +kernel
theorem q_bipush52 : (Int8.ofInt 52).toInt32 = nI 52 := by decide +kernel
theorem q_bipush53 : (Int8.ofInt 53).toInt32 = nI 53 := by decide +kernel
theorem q_bipush54 : (Int8.ofInt 54).toInt32 = nI 54 := by decide +kernel
theorem q_bipush55 : (Int8.ofInt 55).toInt32 = nI 55 := by decide +kernel
theorem q_bipush56 : (Int8.ofInt 56).toInt32 = nI 56 := by decide +kernel
theorem q_bipush57 : (Int8.ofInt 57).toInt32 = nI 57 := by decide +kernel
theorem q_bipush58 : (Int8.ofInt 58).toInt32 = nI 58 := by decide +kernel
theorem q_bipush59 : (Int8.ofInt 59).toInt32 = nI 59 := by decide +kernel
theorem q_bipush60 : (Int8.ofInt 60).toInt32 = nI 60 := by decide +kernel
theorem q_bipush61 : (Int8.ofInt 61).toInt32 = nI 61 := by decide +kernel
theorem q_bipush62 : (Int8.ofInt 62).toInt32 = nI 62 := by decide +kernel
theorem q_bipush63 : (Int8.ofInt 63).toInt32 = nI 63 := by decide +kernel
theorem q_bipush64 : (Int8.ofInt 64).toInt32 = nI 64 := by decide +kernel
theorem q_bipush65 : (Int8.ofInt 65).toInt32 = nI 65 := by decide +kernel
theorem q_bipush66 : (Int8.ofInt 66).toInt32 = nI 66 := by decide +kernel
theorem q_bipush67 : (Int8.ofInt 67).toInt32 = nI 67 := by decide +kernel
theorem q_bipush68 : (Int8.ofInt 68).toInt32 = nI 68 := by decide +kernel
theorem q_bipush69 : (Int8.ofInt 69).toInt32 = nI 69 := by decide +kernel
theorem q_bipush70 : (Int8.ofInt 70).toInt32 = nI 70 := by decide +kernel
theorem q_bipush71 : (Int8.ofInt 71).toInt32 = nI 71 := by decide +kernel
theorem q_bipush72 : (Int8.ofInt 72).toInt32 = nI 72 := by decide +kernel
theorem q_bipush73 : (Int8.ofInt 73).toInt32 = nI 73 := by decide +kernel
theorem q_bipush74 : (Int8.ofInt 74).toInt32 = nI 74 := by decide +kernel
theorem q_bipush75 : (Int8.ofInt 75).toInt32 = nI 75 := by decide +kernel
theorem q_bipush76 : (Int8.ofInt 76).toInt32 = nI 76 := by decide +kernel
theorem q_bipush77 : (Int8.ofInt 77).toInt32 = nI 77 := by decide +kernel
theorem q_bipush78 : (Int8.ofInt 78).toInt32 = nI 78 := by decide +kernel
theorem q_bipush79 : (Int8.ofInt 79).toInt32 = nI 79 := by decide +kernel
theorem q_bipush80 : (Int8.ofInt 80).toInt32 = nI 80 := by decide +kernel
theorem q_bipush81 : (Int8.ofInt 81).toInt32 = nI 81 := by decide +kernel
theorem q_bipush82 : (Int8.ofInt 82).toInt32 = nI 82 := by decide +kernel
theorem q_bipush83 : (Int8.ofInt 83).toInt32 = nI 83 := by decide +kernel
theorem q_bipush84 : (Int8.ofInt 84).toInt32 = nI 84 := by decide +kernel
theorem q_bipush85 : (Int8.ofInt 85).toInt32 = nI 85 := by decide +kernel
theorem q_bipush86 : (Int8.ofInt 86).toInt32 = nI 86 := by decide +kernel
theorem q_bipush87 : (Int8.ofInt 87).toInt32 = nI 87 := by decide +kernel
theorem q_bipush88 : (Int8.ofInt 88).toInt32 = nI 88 := by decide +kernel
theorem q_bipush89 : (Int8.ofInt 89).toInt32 = nI 89 := by decide +kernel
theorem q_bipush90 : (Int8.ofInt 90).toInt32 = nI 90 := by decide +kernel
theorem q_bipush91 : (Int8.ofInt 91).toInt32 = nI 91 := by decide +kernel
theorem q_bipush92 : (Int8.ofInt 92).toInt32 = nI 92 := by decide +kernel
theorem q_bipush93 : (Int8.ofInt 93).toInt32 = nI 93 := by decide +kernel
theorem q_bipush94 : (Int8.ofInt 94).toInt32 = nI 94 := by decide +kernel
theorem q_bipush95 : (Int8.ofInt 95).toInt32 = nI 95 := by decide +kernel
theorem q_bipush96 : (Int8.ofInt 96).toInt32 = nI 96 := by decide +kernel
theorem q_bipush97 : (Int8.ofInt 97).toInt32 = nI 97 := by decide +kernel
theorem q_bipush99 : (Int8.ofInt 99).toInt32 = nI 99 := by decide +kernel
theorem q_bipush100 : (Int8.ofInt 100).toInt32 = nI 100 := by decide +kernel
theorem q_bipush101 : (Int8.ofInt 101).toInt32 = nI 101 := by decide +kernel
theorem q_bipush102 : (Int8.ofInt 102).toInt32 = nI 102 := by decide +kernel
theorem q_bipush103 : (Int8.ofInt 103).toInt32 = nI 103 := by decide +kernel
theorem q_bipush104 : (Int8.ofInt 104).toInt32 = nI 104 := by decide +kernel
theorem q_bipush105 : (Int8.ofInt 105).toInt32 = nI 105 := by decide +kernel
theorem q_bipush108 : (Int8.ofInt 108).toInt32 = nI 108 := by decide +kernel
theorem q_bipush109 : (Int8.ofInt 109).toInt32 = nI 109 := by decide +kernel
theorem q_bipush110 : (Int8.ofInt 110).toInt32 = nI 110 := by decide +kernel
theorem q_bipush111 : (Int8.ofInt 111).toInt32 = nI 111 := by decide +kernel
theorem q_bipush112 : (Int8.ofInt 112).toInt32 = nI 112 := by decide +kernel
theorem q_bipush114 : (Int8.ofInt 114).toInt32 = nI 114 := by decide +kernel
theorem q_bipush115 : (Int8.ofInt 115).toInt32 = nI 115 := by decide +kernel
theorem q_bipush116 : (Int8.ofInt 116).toInt32 = nI 116 := by decide +kernel
theorem q_bipush117 : (Int8.ofInt 117).toInt32 = nI 117 := by decide +kernel
theorem q_bipush119 : (Int8.ofInt 119).toInt32 = nI 119 := by decide +kernel
theorem q_bipush121 : (Int8.ofInt 121).toInt32 = nI 121 := by decide +kernel
theorem q_bipush122 : (Int8.ofInt 122).toInt32 = nI 122 := by decide +kernel
theorem q_iconstm1 : Int32.ofInt (-1) = (-1 : Int32) := by decide +kernel
theorem q_iconst0 : Int32.ofInt 0 = nI 0 := by decide +kernel
theorem q_iconst1 : Int32.ofInt 1 = nI 1 := by decide +kernel
theorem q_iconst2 : Int32.ofInt 2 = nI 2 := by decide +kernel
theorem q_iconst3 : Int32.ofInt 3 = nI 3 := by decide +kernel
theorem q_iconst4 : Int32.ofInt 4 = nI 4 := by decide +kernel
theorem q_iconst5 : Int32.ofInt 5 = nI 5 := by decide +kernel
theorem q_iconst7 : Int32.ofInt 7 = nI 7 := by decide +kernel
theorem q_ldc0 : Int32.ofInt 0 = nI 0 := by decide +kernel
theorem q_ldc1 : Int32.ofInt 1 = nI 1 := by decide +kernel
theorem q_ldc8 : Int32.ofInt 8 = nI 8 := by decide +kernel
theorem q_ldc99999 : Int32.ofInt 99999 = nI 99999 := by decide +kernel
theorem q_ldc100000 : Int32.ofInt 100000 = nI 100000 := by decide +kernel
theorem q_ldc1000000 : Int32.ofInt 1000000 = nI 1000000 := by decide +kernel
theorem q_ldc252645135 : Int32.ofInt 252645135 = nI 252645135 := by decide +kernel
theorem q_ldc858993459 : Int32.ofInt 858993459 = nI 858993459 := by decide +kernel
theorem q_ldc1431655765 : Int32.ofInt 1431655765 = nI 1431655765 := by decide +kernel
theorem q_sipush160 : (Int16.ofInt 160).toInt32 = nI 160 := by decide +kernel
theorem q_sipush200 : (Int16.ofInt 200).toInt32 = nI 200 := by decide +kernel
theorem q_sipush255 : (Int16.ofInt 255).toInt32 = nI 255 := by decide +kernel
theorem q_sipush256 : (Int16.ofInt 256).toInt32 = nI 256 := by decide +kernel
theorem q_sipush1200 : (Int16.ofInt 1200).toInt32 = nI 1200 := by decide +kernel
theorem q_sipush9999 : (Int16.ofInt 9999).toInt32 = nI 9999 := by decide +kernel
theorem q_sipush10000 : (Int16.ofInt 10000).toInt32 = nI 10000 := by decide +kernel
theorem q_ldlm4611686018427387904 : Int64.ofInt (-4611686018427387904) = (-4611686018427387904 : Int64) := by decide +kernel
theorem q_ldl48271 : Int64.ofInt 48271 = lN 48271 := by decide +kernel
theorem q_ldl2147483647 : Int64.ofInt 2147483647 = lN 2147483647 := by decide +kernel
