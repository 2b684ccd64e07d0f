/-! ===== both objects in one memory ===== -/
def z_scr (k : Nat) : Prop := (13 ≤ k ∧ k < 19) ∨ k = 28 ∨ (52 ≤ k ∧ k < 58)
/-- what a question may change -/
def FR (m m' : q_M) : Prop := (∀ k, ¬ z_scr k → k ≠ 26 → k ≠ 38 → m' k = m k) ∧ m' 26 1 = m 26 1 ∧ ∀ f, f < 21 → m' 38 f = m 38 f
theorem FR.refl (m : q_M) : FR m m := ⟨fun _ _ _ _ => rfl, rfl, fun _ _ => rfl⟩
theorem FR.trans {a b c : q_M} (h : FR a b) (h' : FR b c) : FR a c := ⟨fun k h1 h2 h3 => (h'.1 k h1 h2 h3).trans (h.1 k h1 h2 h3), h'.2.1.trans h.2.1, fun f hf => (h'.2.2 f hf).trans (h.2.2 f hf)⟩
theorem FR.of {m m' : q_M} (h : ∀ k, ¬ z_scr k → m' k = m k) : FR m m' := ⟨fun k h1 _ _ => h k h1, by rw [h 26 (by unfold z_scr; omega)], fun f _ => by rw [h 38 (by unfold z_scr; omega)]⟩
theorem FR.of13 {m m' : q_M} (h : ∀ k, k ≠ 13 → k ≠ 14 → m' k = m k) : FR m m' := FR.of (fun k hk => by unfold z_scr at hk; exact h k (by omega) (by omega))
theorem FR.of53 {m m' : q_M} (h : ∀ k, k ≠ 53 → k ≠ 54 → m' k = m k) : FR m m' := FR.of (fun k hk => by unfold z_scr at hk; exact h k (by omega) (by omega))
def ITp (tp : Nat → Nat) (z : Nat) (m : q_M) : Prop := z ≤ 160 ∧ m 26 1 = nI z ∧ m 38 7 = nI z ∧ ∀ i, i < z → tp i < 256 ∧ m 27 i = nI (tp i) ∧ m 43 i = nI (tp i)
def IIm (s : ZS) (n : Nat) (m : q_M) : Prop := (m 0 4 = nI 0 ∧ m 38 12 = nI 0) ∨ ∃ s' : ZS, m 0 4 = nI 1 ∧ m 38 12 = nI 1 ∧ BZ s' ∧ s'.1 2 < n ∧ s'.1 0 ≤ s.1 0 ∧ (∀ g, g < s'.1 0 → s'.2.1 0 g = s.2.1 0 g ∧ s'.2.1 1 g = s.2.1 1 g) ∧
  ICk 19 s' m ∧ m 38 13 = nI (s'.1 0) ∧ m 38 14 = nI (s'.1 1) ∧ m 38 15 = nI (s'.1 2) ∧ (∀ g, g < s'.1 0 → ∀ r, r < 3 → m 46 (3 * g + r) = nI (s'.2.1 (2 + r) g)) ∧ ∀ i, i < 36 → m 46 (18 + i) = s'.2.2 i
/-- sheets: sort, size, numbers -/
abbrev ZH : Type := (Nat → Int32) × (Nat → Nat) × (Nat → Nat → Int32)
def ISh (h : ZH) (m : q_M) : Prop := ∀ k, k < 4 → (h.1 k = (-1 : Int32) ∨ h.1 k = nI 0 ∨ h.1 k = nI 1 ∨ h.1 k = nI 2) ∧ (h.1 k = (-1 : Int32) → h.2.1 k = 0) ∧ h.2.1 k ≤ 40 ∧ m (30 + 2 * k) 0 = h.1 k ∧ m 47 k = h.1 k ∧ m (30 + 2 * k) 1 = nI (h.2.1 k) ∧ m 48 k = nI (h.2.1 k) ∧
  ∀ i, i < h.2.1 k → m (31 + 2 * k) i = h.2.2 k i ∧ m 49 (40 * k + i) = h.2.2 k i
def LJ (T : List Nat) (L : Nat) (xs : Nat → Int32) (s : ZS) (tx : Nat → Nat → List Nat) (n : Nat) (tp : Nat → Nat) (z : Nat) (h : ZH) (wd : Nat → Int32) (m : q_M) : Prop :=
  (IW s tx n ∧ T.length + 1 = n ∧ (∀ x, x ∈ T → x ≤ 160)) ∧ (ICl 3 s m ∧ IMo s m) ∧ (TXC T L tx n m ∧ TXM tx n m) ∧ (m 2 3 = nI n ∧ m 38 10 = nI n) ∧ ITp tp z m ∧ IIm s n m ∧ ISh h m ∧ (∀ k, 900 ≤ k → m k = q_xm xs k) ∧ ∀ i, i < 96 → m 51 i = wd i
section
variable {T : List Nat} {L : Nat} {xs : Nat → Int32} {s : ZS} {tx : Nat → Nat → List Nat} {n : Nat} {tp : Nat → Nat} {z : Nat} {h : ZH} {wd : Nat → Int32} {m m' : q_M}
theorem LJ.iw (l : LJ T L xs s tx n tp z h wd m) : IW s tx n := l.1.1
theorem LJ.bz (l : LJ T L xs s tx n tp z h wd m) : BZ s := l.1.1.1
theorem LJ.t (l : LJ T L xs s tx n tp z h wd m) : T.length + 1 = n := l.1.2.1
theorem LJ.cl (l : LJ T L xs s tx n tp z h wd m) : ICl 3 s m := l.2.1.1
theorem LJ.mo (l : LJ T L xs s tx n tp z h wd m) : IMo s m := l.2.1.2
theorem LJ.tc (l : LJ T L xs s tx n tp z h wd m) : TXC T L tx n m := l.2.2.1.1
theorem LJ.tm (l : LJ T L xs s tx n tp z h wd m) : TXM tx n m := l.2.2.1.2
theorem LJ.nn (l : LJ T L xs s tx n tp z h wd m) : m 2 3 = nI n ∧ m 38 10 = nI n := l.2.2.2.1
theorem LJ.tpe (l : LJ T L xs s tx n tp z h wd m) : ITp tp z m := l.2.2.2.2.1
theorem LJ.im (l : LJ T L xs s tx n tp z h wd m) : IIm s n m := l.2.2.2.2.2.1
theorem LJ.sh (l : LJ T L xs s tx n tp z h wd m) : ISh h m := l.2.2.2.2.2.2.1
theorem LJ.xm (l : LJ T L xs s tx n tp z h wd m) : ∀ k, 900 ≤ k → m k = q_xm xs k := l.2.2.2.2.2.2.2.1
theorem LJ.wds (l : LJ T L xs s tx n tp z h wd m) : ∀ i, i < 96 → m 51 i = wd i := l.2.2.2.2.2.2.2.2
theorem LJ.ka (l : LJ T L xs s tx n tp z h wd m) : KA m := by
  unfold KA
  rw [l.xm 901 (by decide)]
  exact ⟨rfl, rfl, rfl, rfl, rfl, rfl⟩
theorem TXC.fr (hx : TXC T L tx n m) (hn : n ≤ 6) (hm : ∀ k, k = 10 ∨ k = 11 ∨ (58 ≤ k ∧ k < 900) → m' k = m k) : TXC T L tx n m' := fun t ht => by
  obtain ⟨h1, h2, h3, h4, h5⟩ := hx t ht
  have hp : m' (z_pl t) = m (z_pl t) := hm _ (by unfold z_pl; split <;> omega)
  have hs : m' (z_ps t) = m (z_ps t) := hm _ (by unfold z_ps; split <;> omega)
  rw [hp, hs]
  exact ⟨h1, h2, h3, h4, h5⟩
theorem TXM.fr (hx : TXM tx n m) (h44 : m' 44 = m 44) (h45 : m' 45 = m 45) : TXM tx n m' := fun t ht => by
  rw [h44, h45]
  exact hx t ht
theorem ICl.fr2 {c : Nat} (hC : ICl c s m) (hm : ∀ k, c ≤ k → k < c + 7 → m' k = m k) : ICl c s m' := by
  refine ⟨fun f hf => ?_, fun r hr g hg => ?_, fun i hi => ?_⟩
  · rw [hm c (by omega) (by omega)]; exact hC.1 f hf
  · rw [hm (c + 1 + r) (by omega) (by omega)]; exact hC.2.1 r hr g hg
  · rw [hm (c + 6) (by omega) (by omega)]; exact hC.2.2 i hi
theorem ICk.fr2 {c : Nat} (hC : ICk c s m) (hm : ∀ k, c ≤ k → k < c + 7 → m' k = m k) : ICk c s m' := by
  refine ⟨fun f hf => ?_, fun r hr h2 g hg => ?_, fun i hi => ?_⟩
  · rw [hm c (by omega) (by omega)]; exact hC.1 f hf
  · rw [hm (c + 1 + r) (by omega) (by omega)]; exact hC.2.1 r hr h2 g hg
  · rw [hm (c + 6) (by omega) (by omega)]; exact hC.2.2 i hi
theorem LJ.fr (l : LJ T L xs s tx n tp z h wd m) (f : FR m m') : LJ T L xs s tx n tp z h wd m' := by
  obtain ⟨f1, f2, f3⟩ := f
  have fk : ∀ k, ¬ ((13 ≤ k ∧ k < 19) ∨ k = 28 ∨ (52 ≤ k ∧ k < 58) ∨ k = 26 ∨ k = 38) → m' k = m k := fun k hk => f1 k (by unfold z_scr; omega) (by omega) (by omega)
  refine ⟨l.1, ⟨l.cl.fr2 (fun k h1 h2 => fk k (by omega)), l.mo.fr (f3 0 (by decide)) (f3 5 (by decide)) (f3 11 (by decide)) (fun k h1 h2 => fk k (by omega))⟩, ⟨l.tc.fr l.iw.2.2.2 (fun k hk => fk k (by omega)), l.tm.fr (fk 44 (by decide)) (fk 45 (by decide))⟩, ⟨by rw [fk 2 (by decide)]; exact l.nn.1, by rw [f3 10 (by decide)]; exact l.nn.2⟩, ?_, ?_, ?_, fun k hk => (fk k (by omega)).trans (l.xm k hk), fun i hi => by rw [fk 51 (by decide)]; exact l.wds i hi⟩
  · obtain ⟨t1, t2, t3, t4⟩ := l.tpe
    exact ⟨t1, f2.trans t2, (f3 7 (by decide)).trans t3, fun i hi => by rw [fk 27 (by decide), fk 43 (by decide)]; exact t4 i hi⟩
  · have hi := l.im
    unfold IIm at hi ⊢
    rw [fk 0 (by decide), f3 12 (by decide), f3 13 (by decide), f3 14 (by decide), f3 15 (by decide), fk 46 (by decide)]
    rcases hi with hi | ⟨s', i1, i2, i3, i4, i5, i6, i7, i8⟩
    · exact Or.inl hi
    · exact Or.inr ⟨s', i1, i2, i3, i4, i5, i6, i7.fr2 (fun k h1 h2 => fk k (by omega)), i8⟩
  · intro k hk
    rw [fk (30 + 2 * k) (by omega), fk 47 (by decide), fk 48 (by decide), fk (31 + 2 * k) (by omega), fk 49 (by decide)]
    exact l.sh k hk
end
