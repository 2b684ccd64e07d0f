/-! ===== a change of the state keeps all the rest ===== -/
section
variable {T : List Nat} {L : Nat} {xs : Nat → Int32} {s s' : ZS} {tx : Nat → Nat → List Nat} {n : Nat} {tp : Nat → Nat} {z : Nat} {h : ZH} {wd : Nat → Int32} {m m' : q_M}
/-- what a change of the state may touch besides a question's places -/
def FS (m m' : q_M) : Prop := (∀ k, ¬ z_scr k → ¬ (3 ≤ k ∧ k < 10) → ¬ (39 ≤ k ∧ k < 43) → k ≠ 26 → k ≠ 38 → m' k = m k) ∧ m' 26 1 = m 26 1 ∧ ∀ f, f < 21 → f ≠ 0 → f ≠ 5 → f ≠ 11 → m' 38 f = m 38 f
theorem FS.refl (m : q_M) : FS m m := ⟨fun _ _ _ _ _ _ => rfl, rfl, fun _ _ _ _ _ => rfl⟩
theorem FS.trans {a b c : q_M} (h : FS a b) (h' : FS b c) : FS a c := ⟨fun k h1 h2 h3 h4 h5 => (h'.1 k h1 h2 h3 h4 h5).trans (h.1 k h1 h2 h3 h4 h5), h'.2.1.trans h.2.1, fun f h1 h2 h3 h4 => (h'.2.2 f h1 h2 h3 h4).trans (h.2.2 f h1 h2 h3 h4)⟩
theorem FR.fs {a b : q_M} (h : FR a b) : FS a b := ⟨fun k h1 _ _ h4 h5 => h.1 k h1 h4 h5, h.2.1, fun f h1 _ _ _ => h.2.2 f h1⟩
theorem FS.of {m m' : q_M} (h : ∀ k, ¬ z_scr k → ¬ (3 ≤ k ∧ k < 10) → ¬ (39 ≤ k ∧ k < 43) → m' k = m k) : FS m m' :=
  ⟨fun k h1 h2 h3 _ _ => h k h1 h2 h3, by rw [h 26 (by unfold z_scr; omega) (by omega) (by omega)], fun f _ _ _ _ => by rw [h 38 (by unfold z_scr; omega) (by omega) (by omega)]⟩
theorem LJ.st (l : LJ T L xs s tx n tp z h wd m) (f : FS m m') (hB : BZ s') (hl : s'.1 2 < n) (hC : ICl 3 s' m') (hM : IMo s' m') (hn : s.1 0 ≤ s'.1 0) (hk : ∀ g, g < s.1 0 → s'.2.1 0 g = s.2.1 0 g ∧ s'.2.1 1 g = s.2.1 1 g) : LJ T L xs s' tx n tp z h wd m' := by
  have hn6 := l.iw.2.2.2
  obtain ⟨f1, f2, f3⟩ := f
  have fk : ∀ k, ¬ ((13 ≤ k ∧ k < 19) ∨ k = 28 ∨ (52 ≤ k ∧ k < 58) ∨ (3 ≤ k ∧ k < 10) ∨ (39 ≤ k ∧ k < 43) ∨ k = 26 ∨ k = 38) → m' k = m k := fun k hk => f1 k (by unfold z_scr; omega) (by omega) (by omega) (by omega) (by omega)
  refine ⟨⟨⟨hB, l.iw.2.1, hl, hn6⟩, l.1.2⟩, ⟨hC, hM⟩, ⟨l.tc.fr hn6 (fun k hk => fk k (by omega)), l.tm.fr (fk 44 (by decide)) (fk 45 (by decide))⟩, ⟨by rw [fk 2 (by decide)]; exact l.nn.1, by rw [f3 10 (by decide) (by decide) (by decide) (by decide)]; exact l.nn.2⟩, ?_, ?_, ?_, fun k hk => (fk k (by omega)).trans (l.xm k hk), fun i hi => by rw [fk 51 (by decide)]; exact l.wds i hi⟩
  · obtain ⟨t1, t2, t3, t4⟩ := l.tpe
    exact ⟨t1, f2.trans t2, (f3 7 (by decide) (by decide) (by decide) (by decide)).trans t3, fun i hi => by rw [fk 27 (by decide), fk 43 (by decide)]; exact t4 i hi⟩
  · have hi := l.im
    unfold IIm at hi ⊢
    rw [fk 0 (by decide), f3 12 (by decide) (by decide) (by decide) (by decide), f3 13 (by decide) (by decide) (by decide) (by decide), f3 14 (by decide) (by decide) (by decide) (by decide), f3 15 (by decide) (by decide) (by decide) (by decide), fk 46 (by decide)]
    rcases hi with hi | ⟨si, i1, i2, i3, i4, i5, i6, i7, i8⟩
    · exact Or.inl hi
    · exact Or.inr ⟨si, i1, i2, i3, i4, Nat.le_trans i5 hn, fun g hg => ⟨((i6 g hg).1).trans (hk g (by omega)).1.symm, ((i6 g hg).2).trans (hk g (by omega)).2.symm⟩, i7.fr2 (fun k h1 h2 => fk k (by omega)), i8⟩
  · intro k hk
    rw [fk (30 + 2 * k) (by omega), fk 47 (by decide), fk 48 (by decide), fk (31 + 2 * k) (by omega), fk 49 (by decide)]
    exact l.sh k hk
end
