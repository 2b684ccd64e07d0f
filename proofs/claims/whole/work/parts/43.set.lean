/-! ===== set ===== -/
def z_sr (s : ZS) (r g v : Nat) : ZS := (s.1, fun r' g' => if r' = r ∧ g' = g then v else s.2.1 r' g', s.2.2)
section
variable {T : List Nat} {L : Nat} {xs : Nat → Int32} {s : ZS} {tx : Nat → Nat → List Nat} {n : Nat} {tp : Nat → Nat} {z : Nat} {h : ZH} {wd : Nat → Int32} {m : q_M}
theorem ICl.sr {c r gu v : Nat} (hC : ICl c s m) (hr : r < 5) : ICl c (z_sr s r gu v) (q_up m (c + 1 + r) gu (nI v)) := by
  refine ⟨fun f hf => ?_, fun r' hr' g hg => ?_, fun i hi => ?_⟩
  · rw [q_up_f _ _ _ (by omega)]; exact hC.1 f hf
  · show _ = nI (if r' = r ∧ g = gu then v else s.2.1 r' g)
    by_cases q : r' = r
    · subst q
      by_cases q2 : g = gu
      · subst q2; rw [q_up_eq, if_pos ⟨rfl, rfl⟩]
      · rw [q_up_i _ _ q2, if_neg (fun e => q2 e.2)]; exact hC.2.1 r' hr' g hg
    · rw [q_up_f _ _ _ (by omega), if_neg (fun e => q e.1)]; exact hC.2.1 r' hr' g hg
  · rw [q_up_f _ _ _ (by omega)]; exact hC.2.2 i hi
theorem IMo.sr {r gu v : Nat} (hM : IMo s m) (hr : r < 3) : IMo (z_sr s (2 + r) gu v) (q_up m 41 (3 * gu + r) (nI v)) := by
  refine ⟨⟨?_, ?_, ?_⟩, fun g hg => ?_, fun g hg r' hr' => ?_, fun i hi => ?_⟩
  · rw [q_up_f _ _ _ (by decide)]; exact hM.n
  · rw [q_up_f _ _ _ (by decide)]; exact hM.nt
  · rw [q_up_f _ _ _ (by decide)]; exact hM.lw
  · rw [q_up_f _ _ _ (by decide), q_up_f _ _ _ (by decide)]
    have q0 : ¬ (0 = 2 + r ∧ g = gu) := by omega
    have q1 : ¬ (1 = 2 + r ∧ g = gu) := by omega
    show m 39 g = nI (if 0 = 2 + r ∧ g = gu then v else s.2.1 0 g) ∧ m 40 g = nI (if 1 = 2 + r ∧ g = gu then v else s.2.1 1 g)
    rw [if_neg q0, if_neg q1]
    exact hM.2.1 g hg
  · show _ = nI (if 2 + r' = 2 + r ∧ g = gu then v else s.2.1 (2 + r') g)
    by_cases q : r' = r ∧ g = gu
    · obtain ⟨rfl, rfl⟩ := q
      rw [q_up_eq, if_pos ⟨rfl, rfl⟩]
    · rw [q_up_i _ _ (by omega), if_neg (by omega)]
      exact hM.2.2.1 g hg r' hr'
  · rw [q_up_f _ _ _ (by decide)]; exact hM.of i hi
theorem ICl.up {c k i : Nat} {v : Int32} (hC : ICl c s m) (hk : k < c ∨ c + 7 ≤ k) : ICl c s (q_up m k i v) := hC.fr2 (fun k' h1 h2 => q_up_f _ _ _ (by omega))
theorem IMo.up {k i : Nat} {v : Int32} (hM : IMo s m) (hk : k < 38) : IMo s (q_up m k i v) := hM.fr (q_up_k _ _ _ (by omega) _) (q_up_k _ _ _ (by omega) _) (q_up_k _ _ _ (by omega) _) (fun k' h1 h2 => q_up_f _ _ _ (by omega))
theorem LJ.sr (l : LJ T L xs s tx n tp z h wd m) {r gu v : Nat} (hr : r < 3) (hB : BZ (z_sr s (2 + r) gu v)) : LJ T L xs (z_sr s (2 + r) gu v) tx n tp z h wd (q_up (q_up m (4 + (2 + r)) gu (nI v)) 41 (3 * gu + r) (nI v)) := by
  refine l.st (FS.of (fun k h1 h2 h3 => by rw [q_up_f _ _ _ (by omega), q_up_f _ _ _ (by omega)])) hB l.iw.2.2.1 ?_ ?_ (Nat.le_refl _) (fun g hg => ?_)
  · exact (l.cl.sr (c := 3) (r := 2 + r) (gu := gu) (v := v) (by omega)).up (Or.inr (by decide))
  · exact (l.mo.up (k := 4 + (2 + r)) (i := gu) (v := nI v) (by omega)).sr hr
  · have q0 : ¬ (0 = 2 + r ∧ g = gu) := by omega
    have q1 : ¬ (1 = 2 + r ∧ g = gu) := by omega
    show (if 0 = 2 + r ∧ g = gu then v else s.2.1 0 g) = s.2.1 0 g ∧ (if 1 = 2 + r ∧ g = gu then v else s.2.1 1 g) = s.2.1 1 g
    rw [if_neg q0, if_neg q1]
    exact ⟨rfl, rfl⟩
theorem BZ.sr {r gu v : Nat} (hB : BZ s) (h2 : r = 2 → v < 256) (h3 : r = 3 → v < s.1 0) (h4 : r = 4 → v ≤ 9999) (h0 : 2 ≤ r) : BZ (z_sr s r gu v) := by
  refine ⟨hB.1, hB.2.1, hB.2.2.1, fun g hg => ?_⟩
  have hb := hB.2.2.2 g hg
  have e : ∀ r', (z_sr s r gu v).2.1 r' g = if r' = r ∧ g = gu then v else s.2.1 r' g := fun _ => rfl
  have e1 : (z_sr s r gu v).1 0 = s.1 0 := rfl
  rw [e, e, e, e, e, e1]
  refine ⟨?_, ?_, ?_, ?_, ?_⟩ <;> split <;> first | omega | skip
end
