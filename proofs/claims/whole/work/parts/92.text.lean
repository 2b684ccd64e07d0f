/-! ===== text() ===== -/
theorem y_fo_run {S : Nat → Int32} : ∀ c r i a b t, (∀ x, i ≤ x → x < i + c → S x ≠ (-20 : Int32)) → y_fo S (c + r) i a b t = y_fo S r (i + c) a b t
  | 0, r, i, a, b, t, h => by rw [Nat.zero_add, Nat.add_zero]
  | c + 1, r, i, a, b, t, h => by
    rw [show c + 1 + r = (c + r) + 1 by omega]
    conv => lhs; unfold y_fo
    rw [if_neg (h i (Nat.le_refl i) (by omega)), y_fo_run c r (i + 1) a b t (fun x h1 h2 => h x (by omega) (by omega)), show i + 1 + c = i + (c + 1) by omega]
theorem y_fo_E {S : Nat → Int32} {r i a b t : Nat} (h : S i = (-20 : Int32)) : y_fo S (r + 1) i a b t = y_fo S r (i + 1) (a + 1) (if a + 1 = 1 then i + 1 else b) (if a + 1 = 2 then i + 1 else t) := by
  conv => lhs; unfold y_fo
  rw [if_pos h]
theorem y_fo_3 {S : Nat → Int32} {a0 a1 a2 : Nat} (h0 : ∀ x, x < a0 → S x ≠ (-20 : Int32)) (e0 : S a0 = (-20 : Int32)) (h1 : ∀ x, a0 + 1 ≤ x → x < a0 + 1 + a1 → S x ≠ (-20 : Int32)) (e1 : S (a0 + 1 + a1) = (-20 : Int32)) (h2 : ∀ x, a0 + 1 + a1 + 1 ≤ x → x < a0 + 1 + a1 + 1 + a2 → S x ≠ (-20 : Int32)) (e2 : S (a0 + 1 + a1 + 1 + a2) = (-20 : Int32)) :
    (y_fo S (a0 + a1 + a2 + 3) 0 0 0 0).2.1 = a0 + 1 ∧ (y_fo S (a0 + a1 + a2 + 3) 0 0 0 0).2.2 = a0 + a1 + 2 := by
  rw [show a0 + a1 + a2 + 3 = a0 + ((a1 + ((a2 + (0 + 1)) + 1)) + 1) by omega, y_fo_run a0 _ 0 0 0 0 (fun x _ h => h0 x (by omega)), show 0 + a0 = a0 from Nat.zero_add a0, y_fo_E e0, y_fo_run a1 _ _ _ _ _ h1, y_fo_E e1, y_fo_run a2 _ _ _ _ _ h2, y_fo_E e2]
  exact ⟨rfl, by show a0 + 1 + a1 + 1 = a0 + a1 + 2; omega⟩
theorem y_ne20 {a : Nat} (h : a < 2 ^ 31) : nI a ≠ (-20 : Int32) := by
  intro e
  have h2 := congrArg Int32.toInt e
  rw [nI_toInt h] at h2
  have : (-20 : Int32).toInt = -20 := rfl
  omega
theorem y_rp_ne : ∀ (cs : List Nat) (a b : Nat), z_rp cs a b → ∀ i (h : i < cs.length), z_cc cs[i] ≠ (-20 : Int32)
  | [], _, _, _, i, h => absurd h (Nat.not_lt_zero i)
  | c :: cs, a, b, hr, i, h => by
    unfold z_rp at hr
    by_cases q : c < 6 ∨ (100000 ≤ c ∧ c < 110000)
    · rw [if_pos q] at hr
      match i, h with
      | 0, _ =>
        show z_cc c ≠ _
        rcases q with q | q
        · intro e; have := (z_cc_n q).1; rw [this] at e; exact e
        · unfold z_cc; rw [if_pos q.1]; exact y_ne20 (by omega)
      | i + 1, h => exact y_rp_ne cs _ _ hr.2 i (by simpa using h)
    · rw [if_neg q] at hr
      by_cases q2 : c = 13 ∨ c = 19
      · rw [if_pos q2] at hr
        match i, h with
        | 0, _ =>
          show z_cc c ≠ _
          rcases q2 with rfl | rfl
          · intro e; have := z_ccs.1; rw [this] at e; exact e
          · intro e; have := z_ccs.2.2.2.2.1; rw [this] at e; exact e
        | i + 1, h => exact y_rp_ne cs _ _ hr.2 i (by simpa using h)
      · rw [if_neg q2] at hr
        match i, h with
        | 0, _ =>
          show z_cc c ≠ _
          intro e; have := (z_cc_2 hr.1).1; rw [this] at e; exact e
        | i + 1, h => exact y_rp_ne cs _ _ hr.2.2 i (by simpa using h)
/-- three parts in a row -/
def y_L3 (A B C : List Int32) : List Int32 := (((A ++ [(-20 : Int32)]) ++ (B ++ [(-20 : Int32)])) ++ (C ++ [(-20 : Int32)]))
section
variable {A B C : List Int32}
theorem y_L3_len : (y_L3 A B C).length = A.length + B.length + C.length + 3 := by
  unfold y_L3
  simp only [List.length_append, List.length_cons, List.length_nil]
  omega
theorem y_L3_a {i : Nat} (h : i < A.length) : (y_L3 A B C)[i]? = some A[i] := by
  unfold y_L3
  rw [List.getElem?_append_left (by simp only [List.length_append]; omega), List.getElem?_append_left (by simp only [List.length_append]; omega), List.getElem?_append_left h, List.getElem?_eq_getElem h]
theorem y_L3_e0 : (y_L3 A B C)[A.length]? = some (-20 : Int32) := by
  unfold y_L3
  rw [List.getElem?_append_left (by simp only [List.length_append, List.length_cons, List.length_nil]; omega), List.getElem?_append_left (by simp only [List.length_append, List.length_cons, List.length_nil]; omega), List.getElem?_append_right (Nat.le_refl _), Nat.sub_self]
  rfl
theorem y_L3_b {i : Nat} (h : i < B.length) : (y_L3 A B C)[A.length + 1 + i]? = some B[i] := by
  unfold y_L3
  rw [List.getElem?_append_left (by simp only [List.length_append, List.length_cons, List.length_nil]; omega), List.getElem?_append_right (by simp only [List.length_append, List.length_cons, List.length_nil]; omega)]
  rw [show A.length + 1 + i - (A ++ [(-20 : Int32)]).length = i by simp only [List.length_append, List.length_cons, List.length_nil]; omega, List.getElem?_append_left h, List.getElem?_eq_getElem h]
theorem y_L3_e1 : (y_L3 A B C)[A.length + 1 + B.length]? = some (-20 : Int32) := by
  unfold y_L3
  rw [List.getElem?_append_left (by simp only [List.length_append, List.length_cons, List.length_nil]; omega), List.getElem?_append_right (by simp only [List.length_append, List.length_cons, List.length_nil]; omega)]
  rw [show A.length + 1 + B.length - (A ++ [(-20 : Int32)]).length = B.length by simp only [List.length_append, List.length_cons, List.length_nil]; omega, List.getElem?_append_right (Nat.le_refl _), Nat.sub_self]
  rfl
theorem y_L3_c {i : Nat} (h : i < C.length) : (y_L3 A B C)[A.length + 1 + B.length + 1 + i]? = some C[i] := by
  unfold y_L3
  rw [List.getElem?_append_right (by simp only [List.length_append, List.length_cons, List.length_nil]; omega)]
  rw [show A.length + 1 + B.length + 1 + i - (A ++ [(-20 : Int32)] ++ (B ++ [(-20 : Int32)])).length = i by simp only [List.length_append, List.length_cons, List.length_nil]; omega, List.getElem?_append_left h, List.getElem?_eq_getElem h]
theorem y_L3_e2 : (y_L3 A B C)[A.length + 1 + B.length + 1 + C.length]? = some (-20 : Int32) := by
  unfold y_L3
  rw [List.getElem?_append_right (by simp only [List.length_append, List.length_cons, List.length_nil]; omega)]
  rw [show A.length + 1 + B.length + 1 + C.length - (A ++ [(-20 : Int32)] ++ (B ++ [(-20 : Int32)])).length = C.length by simp only [List.length_append, List.length_cons, List.length_nil]; omega, List.getElem?_append_right (Nat.le_refl _), Nat.sub_self]
  rfl
end
section
variable {T : List Nat} {L d : Nat} {xs : Nat → Int32} {s : ZS} {tx : Nat → Nat → List Nat} {n : Nat} {tp : Nat → Nat} {z : Nat} {h : ZH} {wd : Nat → Int32} {m m' : q_M} {K : Option Value → Option Value → q_G → q_M → Prop}
theorem gg_app {N k : Nat} (h12 : k ≠ 12) (h1 : k ≠ 58 + 2 * T.length) (h2 : k ≠ 58 + 2 * T.length + 1) : (GG (T ++ [N]) L).1 k = (GG T L).1 k := by
  rw [← g3_up]
  show va_up (y_g3 T L N).1 12 _ k = _
  rw [va_up_n _ _ h12]
  exact g3_n h1 h2
theorem IIm.n1 (t : IIm s n m) : IIm s (n + 1) m := by
  rcases t with hi | ⟨si, i1, i2, i3, i4, i5⟩
  · exact Or.inl hi
  · exact Or.inr ⟨si, i1, i2, i3, by omega, i5⟩
/-- the rows of the texts, which the reading leaves -/
theorem TXM.fr3 (hx : TXM tx n m) (hw : TXW tx n) (h44 : ∀ i, i < 200 * n → m' 44 i = m 44 i) (h45 : ∀ i, i < 4 * n → m' 45 i = m 45 i) : TXM tx n m' := fun t ht => by
  obtain ⟨h1, h2⟩ := hx t ht
  obtain ⟨w1, w2⟩ := hw t ht
  refine ⟨fun p hp => by rw [h45 _ (by omega)]; exact h1 p hp, fun p hp i hi => ?_⟩
  have h5 := z_off3 (tx t) hp
  rw [h44 _ (by omega)]
  exact h2 p hp i hi
/-- a reading that failed: only the tape is empty now -/
theorem LJ.tfail (l : LJ T L xs s tx n tp z h wd m) (f1 : ∀ k, k ≠ 26 → k ≠ 28 → k ≠ 38 → k ≠ 44 → k ≠ 45 → k ≠ 52 → m' k = m k) (f38 : ∀ f, f < 21 → f ≠ 7 → f ≠ 10 → m' 38 f = m 38 f) (h44 : ∀ i, i < 200 * n → m' 44 i = m 44 i) (h45 : ∀ i, i < 4 * n → m' 45 i = m 45 i) (e26 : m' 26 1 = nI 0) (e7 : m' 38 7 = nI 0) (e10 : m' 38 10 = nI n) : LJ T L xs s tx n tp 0 h wd m' := by
  have fk : ∀ k, k ≠ 26 ∧ k ≠ 28 ∧ k ≠ 38 ∧ k ≠ 44 ∧ k ≠ 45 ∧ k ≠ 52 → m' k = m k := fun k hk => f1 k hk.1 hk.2.1 hk.2.2.1 hk.2.2.2.1 hk.2.2.2.2.1 hk.2.2.2.2.2
  refine ⟨l.1, ⟨l.cl.fr (fun k h1 h2 => fk k (by omega)), l.mo.fr (f38 0 (by decide) (by decide) (by decide)) (f38 5 (by decide) (by decide) (by decide)) (f38 11 (by decide) (by decide) (by decide)) (fun k h1 h2 => fk k (by omega))⟩, ⟨l.tc.fr l.iw.2.2.2 (fun k hk => fk k (by omega)), l.tm.fr3 l.iw.2.1 h44 h45⟩, ⟨by rw [fk 2 (by decide)]; exact l.nn.1, e10⟩, ⟨by decide, e26, e7, fun i hi => absurd hi (Nat.not_lt_zero i)⟩, ?_, ?_, fun k hk => (fk k (by omega)).trans (l.xm k hk), fun i hi => by rw [fk 51 (by decide)]; exact l.wds i hi⟩
  · exact l.im.fr (Nat.le_refl _) (fun g _ => ⟨rfl, rfl⟩) (by rw [fk 0 (by decide)]) (fun f h1 h2 => f38 f (by omega) (by omega) (by omega)) (fun p h1 h2 => fk p (by omega)) (fk 46 (by decide))
  · exact l.sh.fr (fun p h1 h2 => fk p (by omega)) (fk 47 (by decide)) (fk 48 (by decide)) (fk 49 (by decide))
def y_tx (tx : Nat → Nat → List Nat) (n : Nat) (c0 c1 c2 : List Nat) (t p : Nat) : List Nat := if t = n then (if p = 0 then c0 else if p = 1 then c1 else c2) else tx t p
end
