/-! ===== the joint invariant, put together anew ===== -/
section
variable {T : List Nat} {L : Nat} {xs : Nat → Int32} {s s' : ZS} {tx : Nat → Nat → List Nat} {n : Nat} {tp tp' : Nat → Nat} {z z' : Nat} {h h' : ZH} {wd : Nat → Int32} {m m' : q_M}
theorem ITp.fr (t : ITp tp z m) (h1 : m' 26 1 = m 26 1) (h2 : m' 38 7 = m 38 7) (h3 : m' 27 = m 27) (h4 : m' 43 = m 43) : ITp tp z m' := by
  obtain ⟨t1, t2, t3, t4⟩ := t
  exact ⟨t1, h1.trans t2, h2.trans t3, fun i hi => by rw [h3, h4]; exact t4 i hi⟩
theorem IIm.fr (t : IIm s n m) (hs : s.1 0 ≤ s'.1 0) (hk : ∀ g, g < s.1 0 → s'.2.1 0 g = s.2.1 0 g ∧ s'.2.1 1 g = s.2.1 1 g) (h0 : m' 0 4 = m 0 4) (h3 : ∀ f, 12 ≤ f → f < 16 → m' 38 f = m 38 f) (h19 : ∀ k, 19 ≤ k → k < 26 → m' k = m k) (h46 : m' 46 = m 46) : IIm s' n m' := by
  unfold IIm at t ⊢
  rw [h0, h3 12 (by decide) (by decide), h3 13 (by decide) (by decide), h3 14 (by decide) (by decide), h3 15 (by decide) (by decide), h46]
  rcases t with hi | ⟨si, i1, i2, i3, i4, i5, i6, i7, i8⟩
  · exact Or.inl hi
  · exact Or.inr ⟨si, i1, i2, i3, i4, Nat.le_trans i5 hs, fun g hg => ⟨((i6 g hg).1).trans (hk g (by omega)).1.symm, ((i6 g hg).2).trans (hk g (by omega)).2.symm⟩, i7.fr2 (fun k h1 h2 => h19 k (by omega) (by omega)), i8⟩
theorem ISh.fr (t : ISh h m) (h3 : ∀ k, 30 ≤ k → k < 38 → m' k = m k) (h47 : m' 47 = m 47) (h48 : m' 48 = m 48) (h49 : m' 49 = m 49) : ISh h m' := by
  intro k hk
  rw [h3 (30 + 2 * k) (by omega) (by omega), h3 (31 + 2 * k) (by omega) (by omega), h47, h48, h49]
  exact t k hk
theorem LJ.gen (l : LJ T L xs s tx n tp z h wd m) (hk : ∀ k, k = 10 ∨ k = 11 ∨ k = 44 ∨ k = 45 ∨ k = 51 ∨ 58 ≤ k → m' k = m k) (h2 : m' 2 3 = m 2 3) (h38 : m' 38 10 = m 38 10) (hB : BZ s') (hl : s'.1 2 < n) (hC : ICl 3 s' m') (hM : IMo s' m') (hT : ITp tp' z' m') (hI : IIm s' n m') (hS : ISh h' m') : LJ T L xs s' tx n tp' z' h' wd m' := by
  have hn6 := l.iw.2.2.2
  exact ⟨⟨⟨hB, l.iw.2.1, hl, hn6⟩, l.1.2⟩, ⟨hC, hM⟩, ⟨l.tc.fr hn6 (fun k q => hk k (by omega)), l.tm.fr (hk 44 (by decide)) (hk 45 (by decide))⟩, ⟨h2.trans l.nn.1, h38.trans l.nn.2⟩, hT, hI, hS, fun k q => (hk k (by omega)).trans (l.xm k q), fun i hi => by rw [hk 51 (by decide)]; exact l.wds i hi⟩
end
