/-! ===== one instruction of the small machine is one of the machine ===== -/
theorem q_sr.i {ad : Nat → Value} {N : Nat} {a : Int32} {st r : List Value} (h : q_sr ad N (.int a :: st) r) : ∃ r', r = .int a :: r' ∧ q_sr ad N st r' := by
  obtain ⟨v, r', rfl, h1, h2⟩ := h
  cases (show v = .int a from h1)
  exact ⟨r', rfl, h2⟩
theorem q_sr.l {ad : Nat → Value} {N : Nat} {a : Int64} {st r : List Value} (h : q_sr ad N (.long a :: st) r) : ∃ r', r = .long a :: r' ∧ q_sr ad N st r' := by
  obtain ⟨v, r', rfl, h1, h2⟩ := h
  cases (show v = .long a from h1)
  exact ⟨r', rfl, h2⟩
theorem q_sr.n {ad : Nat → Value} {N : Nat} {st r : List Value} (h : q_sr ad N (.null :: st) r) : ∃ r', r = .null :: r' ∧ q_sr ad N st r' := by
  obtain ⟨v, r', rfl, h1, h2⟩ := h
  cases (show v = .null from h1)
  exact ⟨r', rfl, h2⟩
theorem q_sr.r {ad : Nat → Value} {N k : Nat} {st r : List Value} (h : q_sr ad N (.ref k :: st) r) : ∃ r', r = ad k :: r' ∧ (k < N ∨ 900 ≤ k) ∧ q_sr ad N st r' := by
  obtain ⟨v, r', rfl, ⟨h0, h1⟩, h2⟩ := h
  cases h1
  exact ⟨r', rfl, h0, h2⟩
theorem q_sr.ii {ad : Nat → Value} {N : Nat} {a b : Int32} {st r : List Value} (h : q_sr ad N (.int b :: .int a :: st) r) : ∃ r', r = .int b :: .int a :: r' ∧ q_sr ad N st r' := by
  obtain ⟨r1, rfl, h1⟩ := h.i
  obtain ⟨r2, rfl, h2⟩ := h1.i
  exact ⟨r2, rfl, h2⟩
theorem q_sr.ll {ad : Nat → Value} {N : Nat} {a b : Int64} {st r : List Value} (h : q_sr ad N (.long b :: .long a :: st) r) : ∃ r', r = .long b :: .long a :: r' ∧ q_sr ad N st r' := by
  obtain ⟨r1, rfl, h1⟩ := h.l
  obtain ⟨r2, rfl, h2⟩ := h1.l
  exact ⟨r2, rfl, h2⟩
theorem q_sm_le {ad : Nat → Value} {N : Nat} (hr : ∀ k, k < N ∨ 900 ≤ k → (ad k = .null ∨ ∃ a, ad k = .ref a)) : ∀ {st r : List Value}, q_sr ad N st r → (r.map fun v => v.category).sum = q_sm st
  | [], r, h => by rw [show r = [] from h]; rfl
  | w :: st, r, h => by
    obtain ⟨v, r', rfl, h1, h2⟩ := h
    rw [List.map_cons, List.sum_cons, q_sm_le hr h2, h1.cat hr]
    cases w <;> simp only [q_sm, Value.category] <;> omega
theorem q_c1v {ad : Nat → Value} {N : Nat} {w v : Value} (h : q_vr ad N w v) (hr : ∀ k, k < N ∨ 900 ≤ k → (ad k = .null ∨ ∃ a, ad k = .ref a)) (hc : q_c1 (some w) = true) : v.category = 1 := by
  rw [h.cat hr]
  cases w <;> simp_all [q_c1, Value.category]
theorem q_to_ok {pc : Nat} {off : Int} (h : 0 ≤ (pc : Int) + off) : (pc : Int) + off = ((q_to pc off : Nat) : Int) := by
  unfold q_to
  omega
theorem q_sw_tab (pc d : Nat) : ∀ (l : List Int) (lo v : Int), (∀ o ∈ l, 0 ≤ (pc : Int) + o) → (v < lo ∨ lo + l.length ≤ v → q_sw (q_tab pc lo l) d v = d) ∧ (lo ≤ v → v < lo + l.length → ∃ o, l[(v - lo).toNat]? = some o ∧ q_sw (q_tab pc lo l) d v = q_to pc o)
  | [], lo, v, _ => ⟨fun _ => rfl, fun h1 h2 => by simp at h2; omega⟩
  | o :: l, lo, v, h => by
    obtain ⟨ih1, ih2⟩ := q_sw_tab pc d l (lo + 1) v (fun o ho => h o (List.mem_cons_of_mem _ ho))
    simp only [q_tab, q_sw, List.length_cons]
    refine ⟨fun hv => ?_, fun h1 h2 => ?_⟩
    · rw [if_neg (by omega)]
      exact ih1 (by omega)
    · by_cases e : v = lo
      · subst e
        exact ⟨o, by simp, by rw [if_pos rfl]; rfl⟩
      · obtain ⟨o', q1, q2⟩ := ih2 (by omega) (by omega)
        refine ⟨o', ?_, by rw [if_neg e]; exact q2⟩
        rw [show (v - lo).toNat = (v - (lo + 1)).toNat + 1 by omega, List.getElem?_cons_succ]
        exact q1
theorem q_sw_look (pc : Nat) (d : Int) : ∀ (l : List (Int × Int)) (v : Int), q_sw (l.map fun q => (q.1, q_to pc q.2)) (q_to pc d) v = q_to pc (Op.lookupswitch.offset l d v)
  | [], v => by rw [Op.lookupswitch.offset_nil]; rfl
  | (a, o) :: l, v => by
    rw [List.map_cons, q_sw, Op.lookupswitch.offset_cons, q_sw_look pc d l v]
    by_cases h : v = a
    · simp [h]
    · simp [h, Ne.symm h]
theorem q_look_in {l : List (Int × Int)} {d v : Int} {P : Int → Prop} (hd : P d) (hl : ∀ o ∈ l, P o.2) : P (Op.lookupswitch.offset l d v) := by
  induction l with
  | nil => rw [Op.lookupswitch.offset_nil]; exact hd
  | cons q l ih =>
    obtain ⟨a, o⟩ := q
    rw [Op.lookupswitch.offset_cons]
    split
    · exact hl (a, o) List.mem_cons_self
    · exact ih (fun o ho => hl o (List.mem_cons_of_mem _ ho))
section QS
variable {p : Program} {l : Launch} {e : Env} {R : Room} {s : State} {m0 : MethodId} {args : Array Value} {below : List Frame} {meth : Method} {c : Code} {Q : State → Prop}
variable {L : Nat} {xs : Nat → Int32} {ex : Nat → Value} {D : va_G} {cI : ClassId} {cR : Nat → ClassId} {A : Nat → Prop}
variable {j pc pc' : Nat} {g : q_G} {m : q_M} {lv lv' : List (Option Value)} {st st' : List Value} {ad : Nat → Value} {ws : va_W} {H : Heap} {locs : List Loc} {ls : Array Slot} {rst : List Value} {cells slots : Nat}
/-- when cells and memory stay -/
theorem q_K (hW : q_wr L xs ex ad cI cR g m ws) (hP : va_P D vwCl ws H) (hD : va_D A ws) (hS : va_S A s.heap H locs) (kk : ∀ ad' ws' H' locs' ls' rst', q_ex ad ad' g.2.1 → q_St L xs ex D cI cR A s (q_nl j) g m lv' st' ad' ws' H' locs' ls' rst' → W p l e R s m0 args below meth c H' locs' (cells + (g.2.1 - g.2.1)) (slots + (g.2.2 - g.2.2)) Q (F0 m0 pc' ls' rst')) : ∀ ls' rst', q_lr (q_nl j) ad g.2.1 lv' ls' → q_sr ad g.2.1 st' rst' → W p l e R s m0 args below meth c H locs cells slots Q (F0 m0 pc' ls' rst') := by
  intro ls' rst' h1 h2
  have := kk ad ws H locs ls' rst' q_ex.rf ⟨hW, hP, hD, hS, h1, h2⟩
  rw [Nat.sub_self, Nat.sub_self] at this
  exact this
theorem q_ltN {k N : Nat} (hv : k < N ∨ 900 ≤ k) (h : k < 900) : k < N := by omega
theorem q_ge9 {k : Nat} (h : 930 ≤ k) : 900 ≤ k := by omega
theorem q_ge20 {k : Nat} (h : 900 ≤ k) : 900 ≤ k + 20 := by omega
theorem q_nb2 {a : Prop} {N k : Nat} (h : ¬ (a ∨ N ≤ k)) : k < N := Nat.not_le.mp fun q => h (Or.inr q)
theorem q_nb3 {a b : Prop} {N k : Nat} (h : ¬ (a ∨ b ∨ N ≤ k)) : k < N := Nat.not_le.mp fun q => h (Or.inr (Or.inr q))
theorem q_nb3' {a b : Prop} {N k : Nat} (h : ¬ (a ∨ b ∨ k < N)) : N ≤ k := Nat.not_lt.mp fun q => h (Or.inr (Or.inr q))
theorem q_nb5 {a b c : Prop} {N k z : Nat} (h : ¬ (a ∨ b ∨ N ≤ k ∨ N ≤ z ∨ c)) : k < N ∧ z < N := ⟨Nat.not_le.mp fun q => h (Or.inr (Or.inr (Or.inl q))), Nat.not_le.mp fun q => h (Or.inr (Or.inr (Or.inr (Or.inl q))))⟩
theorem q_ne9 {k : Nat} (h : k < 900) : k ≠ 950 := by omega
theorem q_nn (hW : q_wr L xs ex ad cI cR g m ws) (hx : ∀ k, 900 ≤ k → (ex k = .null ∧ k = 950) ∨ ∃ a, ex k = .ref a) {k : Nat} (hv : k < g.2.1 ∨ 900 ≤ k) (hk : k ≠ 950) : ∃ b, ad k = .ref b := by
  rcases hv with h | h
  · obtain ⟨a, -, h1, -⟩ := hW.2.2.1 k h
    exact ⟨a, h1⟩
  · rw [(hW.2.2.2 k h).1]
    rcases hx k h with ⟨-, q⟩ | q
    · exact absurd q hk
    · exact q
theorem q_strs_ge : ∀ q ∈ q_strs, 900 ≤ q.1.2.2 := by decide +kernel
theorem q_tl_ge : ∀ q ∈ q_tl, q.1.2.2.1 ≠ 0 → 900 ≤ q.1.2.2.1 := by decide +kernel
theorem q_xs_obj {L k cc : Nat} {fs : List (Option Value)} (hk : 900 ≤ k) (h : q_xs L k = .inr (.inr (cc, fs))) (hf : cc ≠ 99) : 910 ≤ k ∧ k < 922 ∧ cc = 9 ∧ fs = [some (.ref (k + 20)), none] := by
  unfold q_xs at h
  split at h
  · cases h
  · split at h
    · cases h
    · split at h
      · cases h
        exact absurd rfl hf
      · split at h
        · cases h
          exact ⟨by omega, by omega, rfl, rfl⟩
        · split at h
          · cases h
            exact absurd rfl hf
          · split at h
            · cases h
            · cases h
              exact absurd rfl hf
theorem q_xm_0 {xs : Nat → Int32} {k i : Nat} (h1 : 910 ≤ k) (h2 : k < 930) : q_xm xs k i = 0 := by
  unfold q_xm
  rw [if_neg (by omega), if_neg (by omega), if_pos h2]
theorem q_bool_fit {a : Int32} (h : ¬ (a ≠ 0 ∧ a ≠ 1)) : narrow .boolean (.int a) = .int a ∧ fits .boolean (.int a) = true := by
  rcases Decidable.em (a = 0) with rfl | h0
  · exact ⟨by decide, by decide⟩
  · rcases Decidable.em (a = 1) with rfl | h1
    · exact ⟨by decide, by decide⟩
    · exact absurd ⟨h0, h1⟩ h
theorem q_ref_fit {t : FieldType} {v : Value} (h : (∃ n, t = .object n) ∨ ∃ u, t = .array u) (hv : v = .null ∨ ∃ a, v = .ref a) : narrow t v = v ∧ fits t v = true := by
  rcases h with ⟨n, rfl⟩ | ⟨u, rfl⟩ <;> rcases hv with rfl | ⟨a, rfl⟩ <;> exact ⟨rfl, rfl⟩
theorem q_er_setref {cc : Nat} {f : Nat → Int32} {fs : List (Option Value)} {vs : List Value} {fi : Nat} {w0 w v : Value} {N : Nat} (hc9 : cc < 9) (hlen : vs.length = fs.length) (hlen2 : fs.length = q_N cc) (q4 : ∀ i : Nat, (fs[i]? = some none → vs[i]? = some (.int (f i))) ∧ ∀ w, fs[i]? = some (some w) → (w = .null ∨ ∃ z, w = .ref z) ∧ ∃ v, vs[i]? = some v ∧ q_vr ad N w v) (hf : fs[fi]? = some (some w0)) (hv : q_vr ad N w v) (hw : w = .null ∨ ∃ z, w = .ref z) : q_er ad N cI cR (.inr (.inr (cc, fs.set fi (some w)))) f (.inr (cc, vs.set fi v)) := by
  have hl1 : fi < fs.length := (List.getElem?_eq_some_iff.mp hf).1
  refine ⟨hc9, _, rfl, by rw [List.length_set, List.length_set]; exact hlen, by rw [List.length_set]; exact hlen2, fun i' => ⟨fun h => ?_, fun w' h => ?_⟩⟩
  · by_cases e1 : fi = i'
    · subst e1
      rw [List.getElem?_set_self hl1] at h
      cases h
    · rw [List.getElem?_set_ne e1] at h ⊢
      exact (q4 i').1 h
  · by_cases e1 : fi = i'
    · subst e1
      rw [List.getElem?_set_self hl1] at h
      cases h
      exact ⟨hw, v, by rw [List.getElem?_set_self (by omega)], hv⟩
    · rw [List.getElem?_set_ne e1] at h ⊢
      exact (q4 i').2 w' h
theorem q_ty_setref {cc fi : Nat} {fs : List (Option Value)} {w0 w : Value} (h : q_ty (.inr (.inr (cc, fs)))) (hf : fs[fi]? = some (some w0)) : q_ty (.inr (.inr (cc, fs.set fi (some w)))) := by
  have hl1 : fi < fs.length := (List.getElem?_eq_some_iff.mp hf).1
  intro i'
  by_cases e1 : fi = i'
  · subst e1
    rw [List.getElem?_set_self hl1]
    exact ⟨fun z => (by cases z), fun _ _ => (h fi).2 _ hf⟩
  · rw [List.getElem?_set_ne e1]
    exact h i'
theorem q_fields_len (x : Nat) (h : x < 9) : (q_fields x).length = q_N x := by
  match x, h with
  | 0, _ | 1, _ | 2, _ | 3, _ | 4, _ | 5, _ | 6, _ | 7, _ | 8, _ => rfl
theorem q_def_fs (x : Nat) : ∀ i, i < q_N x → defaultValue (q_tyT x i) = vp_V ((List.range (q_N x)).map fun i => defaultValue (q_tyT x i)) i := by
  intro i hi
  simp [vp_V, List.getD, hi]
theorem q_fields_all : ∀ x, x < 9 → ∀ i, i < q_N x → ((q_fields x)[i]? = some none ∧ (q_tyT x i = .int ∨ q_tyT x i = .boolean)) ∨ ((q_fields x)[i]? = some (some .null) ∧ ((∃ n, q_tyT x i = .object n) ∨ ∃ t, q_tyT x i = .array t)) := by
  have h : ∀ x, x < 9 → ∀ i, i < q_N x → ((q_fields x)[i]? = some none ∧ (q_tyT x i = .int ∨ q_tyT x i = .boolean)) ∨ ((q_fields x)[i]? = some (some .null) ∧ (q_tyT x i).isReference = true) := by decide +kernel
  intro x hx i hi
  rcases h x hx i hi with h | ⟨h1, h2⟩
  · exact Or.inl h
  · refine Or.inr ⟨h1, ?_⟩
    generalize q_tyT x i = t at h2
    cases t <;> first | exact Or.inl ⟨_, rfl⟩ | exact Or.inr ⟨_, rfl⟩ | (exact absurd h2 (by decide))
theorem q_new_ty (x : Nat) (h : x < 9) : q_ty (.inr (.inr (x, q_fields x))) := by
  intro i
  have hl := q_fields_len x h
  refine ⟨fun hi => ?_, fun w hi => ?_⟩
  · rcases q_fields_all x h i (by rw [← hl]; exact (List.getElem?_eq_some_iff.mp hi).1) with ⟨-, q⟩ | ⟨q, -⟩
    · exact q
    · rw [hi] at q; cases q
  · rcases q_fields_all x h i (by rw [← hl]; exact (List.getElem?_eq_some_iff.mp hi).1) with ⟨q, -⟩ | ⟨-, q⟩
    · rw [hi] at q; cases q
    · exact q
theorem q_new_er (x : Nat) (h : x < 9) (m : q_M) {k a : Nat} : q_er (va_up ad k (.ref a)) (k + 1) cI cR (.inr (.inr (x, q_fields x))) (q_zero m k k) (.inr (x, (List.range (q_N x)).map fun i => defaultValue (q_tyT x i))) := by
  have hl := q_fields_len x h
  refine ⟨h, _, rfl, by simp [hl], hl, fun i => ⟨fun hi => ?_, fun w hi => ?_⟩⟩
  · have hi2 : i < q_N x := by rw [← hl]; exact (List.getElem?_eq_some_iff.mp hi).1
    rcases q_fields_all x h i hi2 with ⟨-, q | q⟩ | ⟨q, -⟩
    · simp [hi2, q, q_zero, defaultValue]
    · simp [hi2, q, q_zero, defaultValue]
    · rw [hi] at q; cases q
  · have hi2 : i < q_N x := by rw [← hl]; exact (List.getElem?_eq_some_iff.mp hi).1
    rcases q_fields_all x h i hi2 with ⟨q, -⟩ | ⟨q, q2⟩
    · rw [hi] at q; cases q
    · rw [hi] at q
      cases q
      refine ⟨Or.inl rfl, .null, ?_, rfl⟩
      rcases q2 with ⟨n, q2⟩ | ⟨t, q2⟩ <;> simp [hi2, q2, defaultValue]
theorem q_plain (hx : p.tables.exec = Jvm.exec) (hb : c.code = q_b j) (hml : c.maxLocals = q_nl j) (hown : s.vm.findClass (q_cn (q_oc j)) = some m0.cls) (hts : ∀ w ∈ q_good, w.before args s = true) (hin : q_kd j = 2 → meth.name = "<init>") (hE : q_Env L xs ex D cI cR A s) (hA : ∀ q, s.heap.size ≤ q → A q) (hR : 1 ≤ R.frames ∧ 40 ≤ R.locals)
    {i : Instr} {x : Nat} {y : Int} (hdg : decode (q_b j) pc = .ok (i, q_len i y)) (hlk : q_lk (q_oc j) (decide (q_kd j = 2)) pc i x y = true)
    {g' : q_G} {m' : q_M} (hs : q_step q_fields i x y pc lv st g m = some (pc', lv', st', g', m'))
    (S : q_St L xs ex D cI cR A s (q_nl j) g m lv st ad ws H locs ls rst) (hc : cells + (g'.2.1 - g.2.1) ≤ R.cells) (hsl : slots + (g'.2.2 - g.2.2) ≤ R.slots)
    (kk : ∀ ad' ws' H' locs' ls' rst', q_ex ad ad' g.2.1 → q_St L xs ex D cI cR A s (q_nl j) g' m' lv' st' ad' ws' H' locs' ls' rst' → W p l e R s m0 args below meth c H' locs' (cells + (g'.2.1 - g.2.1)) (slots + (g'.2.2 - g.2.2)) Q (F0 m0 pc' ls' rst')) :
    W p l e R s m0 args below meth c H locs cells slots Q (F0 m0 pc ls rst) := by
  obtain ⟨hW, hP, hD, hS, hl, hst⟩ := S
  have hrf := hW.ref hE.2.2.2.2.2.2.2.2
  have hgt : ∀ {w : Cond}, q_gm w → w.before args s = true := fun h => hts _ (q_gm_in h)
  cases i with
  | iconst n =>
    cases hs
    exact lv_iconst hx hb hdg rfl (q_K hW hP hD hS kk _ _ hl ⟨_, _, rfl, rfl, hst⟩)
  | bipush n =>
    cases hs
    exact lv_bipush hx hb hdg rfl (q_K hW hP hD hS kk _ _ hl ⟨_, _, rfl, rfl, hst⟩)
  | sipush n =>
    cases hs
    exact lv_sipush hx hb hdg rfl (q_K hW hP hD hS kk _ _ hl ⟨_, _, rfl, rfl, hst⟩)
  | lconst n =>
    cases hs
    exact lv_lconst hx hb hdg rfl (q_K hW hP hD hS kk _ _ hl ⟨_, _, rfl, rfl, hst⟩)
  | aconst_null =>
    cases hs
    exact lv_null hx hb hdg (q_K hW hP hD hS kk _ _ hl ⟨_, _, rfl, rfl, hst⟩)
  | ldc idx =>
    cases hs
    by_cases hx0 : x = 0
    · subst hx0
      have h1 : (q_oc j, idx, y) ∈ q_kl := by simpa [q_lk] using hlk
      exact lv_ldc hx hb hown (hgt (q_kl_ok _ h1)) hdg (q_K hW hP hD hS kk _ _ hl ⟨_, _, rfl, rfl, hst⟩)
    · have h1 : (q_oc j, idx, x) ∈ q_strs.map (fun e => e.1) := by simpa [q_lk, hx0] using hlk
      obtain ⟨q, hq, hq2⟩ := List.mem_map.mp h1
      obtain ⟨a, h2, h3⟩ := hE.2.2.2.2.2.2.1 q hq
      have hx9 : 900 ≤ x := by
        have : q.1.2.2 = x := by rw [hq2]
        rw [← this]
        exact q_strs_ge q hq
      rw [hq2] at h2 h3
      have h4 : ad x = .ref a := by rw [(hW.2.2.2 x hx9).1]; exact h2
      refine va_ldcS hx hb hown h3 hdg (q_K hW hP hD hS kk _ _ hl ⟨_, _, rfl, ?_, hst⟩)
      rw [if_neg hx0]
      exact ⟨Or.inr hx9, h4.symm⟩
  | ldc_w idx =>
    cases hs
    have h1 : (q_oc j, idx, y) ∈ q_kl := by simpa [q_lk] using hlk
    exact lv_ldcw hx hb hown (hgt (q_kl_ok _ h1)) hdg (q_K hW hP hD hS kk _ _ hl ⟨_, _, rfl, rfl, hst⟩)
  | ldc2_w idx =>
    cases hs
    have h1 : (q_oc j, idx, y) ∈ q_jl := by simpa [q_lk] using hlk
    exact lv_ldc2 hx hb hown (hgt (q_jl_ok _ h1)) hdg (q_K hW hP hD hS kk _ _ hl ⟨_, _, rfl, rfl, hst⟩)
  | getstatic idx =>
    cases hs
    have h1 : (q_oc j, idx, x, y) ∈ q_tl.map (fun e => e.1) := by simpa [q_lk] using hlk
    obtain ⟨q, hq, hq2⟩ := List.mem_map.mp h1
    have hZ := hE.2.2.2.2.2.2.2.1 q hq
    have hL := q_tl_ok q hq
    obtain ⟨⟨o1, i1, x1, y1⟩, C1, n1, d1⟩ := q
    cases hq2
    have hv : q_vr ad g.2.1 (if x = 0 then .int (Int32.ofInt y) else .ref x) (if x = 0 then .int (Int32.ofInt y) else ex x) := by
      by_cases h0 : x = 0
      · rw [if_pos h0, if_pos h0]
        rfl
      · have hx9 : 900 ≤ x := q_tl_ge _ hq h0
        rw [if_neg h0, if_neg h0]
        exact ⟨Or.inr hx9, (hW.2.2.2 x hx9).1.symm⟩
    rcases hL with hL | ⟨host, hL⟩
    · exact va_gets hx hb hZ hS hown (hgt hL) (fun _ h => h) hdg (q_K hW hP hD hS kk _ _ hl ⟨_, _, rfl, hv, hst⟩)
    · exact va_getsN hx hb hZ hS hown (va_Nw.use rfl (hE.2.1 _ hL rfl)) (fun _ h => h) hdg (q_K hW hP hD hS kk _ _ hl ⟨_, _, rfl, hv, hst⟩)
  | iload k =>
    dsimp only [q_step] at hs
    split at hs
    · next v hk =>
      cases hs
      obtain ⟨w, q1, q2⟩ := hl.2.2.2 _ _ hk
      cases (show w = _ from q2)
      exact lv_iload hx hb hdg q1 (q_K hW hP hD hS kk _ _ hl ⟨_, _, rfl, rfl, hst⟩)
    · cases hs
  | iload_n k =>
    dsimp only [q_step] at hs
    split at hs
    · next v hk =>
      cases hs
      obtain ⟨w, q1, q2⟩ := hl.2.2.2 _ _ hk
      cases (show w = _ from q2)
      exact lv_iload_n hx hb hdg rfl q1 (q_K hW hP hD hS kk _ _ hl ⟨_, _, rfl, rfl, hst⟩)
    · cases hs
  | lload k =>
    dsimp only [q_step] at hs
    split at hs
    · next v hk =>
      cases hs
      obtain ⟨w, q1, q2⟩ := hl.2.2.2 _ _ hk
      cases (show w = _ from q2)
      exact lv_lload hx hb hdg q1 (q_K hW hP hD hS kk _ _ hl ⟨_, _, rfl, rfl, hst⟩)
    · cases hs
  | lload_n k =>
    dsimp only [q_step] at hs
    split at hs
    · next v hk =>
      cases hs
      obtain ⟨w, q1, q2⟩ := hl.2.2.2 _ _ hk
      cases (show w = _ from q2)
      exact lv_lload_n hx hb hdg rfl q1 (q_K hW hP hD hS kk _ _ hl ⟨_, _, rfl, rfl, hst⟩)
    · cases hs
  | aload k =>
    dsimp only [q_step] at hs
    split at hs
    · next v hk =>
      cases hs
      obtain ⟨w, q1, q2, q3⟩ := hl.2.2.2 _ _ hk
      subst q3
      rcases hrf v q2 with q4 | ⟨b, q4⟩
      · rw [q4] at q1
        exact lv_aloadN hx hb hdg q1 (q_K hW hP hD hS kk _ _ hl ⟨_, _, rfl, ⟨q2, q4.symm⟩, hst⟩)
      · rw [q4] at q1
        exact lv_aload hx hb hdg q1 (q_K hW hP hD hS kk _ _ hl ⟨_, _, rfl, ⟨q2, q4.symm⟩, hst⟩)
    · next hk =>
      cases hs
      obtain ⟨w, q1, q2⟩ := hl.2.2.2 _ _ hk
      cases (show w = _ from q2)
      exact lv_aloadN hx hb hdg q1 (q_K hW hP hD hS kk _ _ hl ⟨_, _, rfl, rfl, hst⟩)
    · cases hs
  | aload_n k =>
    dsimp only [q_step] at hs
    split at hs
    · next v hk =>
      cases hs
      obtain ⟨w, q1, q2, q3⟩ := hl.2.2.2 _ _ hk
      subst q3
      rcases hrf v q2 with q4 | ⟨b, q4⟩
      · rw [q4] at q1
        exact lv_aload_nN hx hb hdg rfl q1 (q_K hW hP hD hS kk _ _ hl ⟨_, _, rfl, ⟨q2, q4.symm⟩, hst⟩)
      · rw [q4] at q1
        exact lv_aload_n hx hb hdg rfl q1 (q_K hW hP hD hS kk _ _ hl ⟨_, _, rfl, ⟨q2, q4.symm⟩, hst⟩)
    · next hk =>
      cases hs
      obtain ⟨w, q1, q2⟩ := hl.2.2.2 _ _ hk
      cases (show w = _ from q2)
      exact lv_aload_nN hx hb hdg rfl q1 (q_K hW hP hD hS kk _ _ hl ⟨_, _, rfl, rfl, hst⟩)
    · cases hs
  | istore k =>
    dsimp only [q_step] at hs
    split at hs
    · next v st2 =>
      split at hs
      · next hk =>
        cases hs
        obtain ⟨r, rfl, hr⟩ := hst.i
        have hkl := hk.1
        rw [hl.2.1] at hkl
        exact lv_istore hx hb hdg (q_lst_has hl.1 hl.2.2.1) hkl rfl (fun ls' hl' => (q_K hW hP hD hS kk _ _ (q_lset hl hrf hk.2 rfl hl') hr))
      · cases hs
    · cases hs
  | istore_n k =>
    dsimp only [q_step] at hs
    split at hs
    · next v st2 =>
      split at hs
      · next hk =>
        cases hs
        obtain ⟨r, rfl, hr⟩ := hst.i
        have hkl := hk.1
        rw [hl.2.1] at hkl
        exact lv_istore_n hx hb hdg rfl (q_lst_has hl.1 hl.2.2.1) hkl rfl (fun ls' hl' => (q_K hW hP hD hS kk _ _ (q_lset hl hrf hk.2 rfl hl') hr))
      · cases hs
    · cases hs
  | lstore k =>
    dsimp only [q_step] at hs
    split at hs
    · next v st2 =>
      split at hs
      · next hk =>
        cases hs
        obtain ⟨r, rfl, hr⟩ := hst.l
        have hkl := hk.1
        rw [hl.2.1] at hkl
        exact lv_lstore hx hb hdg (q_lst_has hl.1 hl.2.2.1) hkl rfl (fun ls' hl' => (q_K hW hP hD hS kk _ _ (q_lset2 hl hrf hk.2 rfl hkl hl') hr))
      · cases hs
    · cases hs
  | lstore_n k =>
    dsimp only [q_step] at hs
    split at hs
    · next v st2 =>
      split at hs
      · next hk =>
        cases hs
        obtain ⟨r, rfl, hr⟩ := hst.l
        have hkl := hk.1
        rw [hl.2.1] at hkl
        exact lv_lstore_n hx hb hdg rfl (q_lst_has hl.1 hl.2.2.1) hkl rfl (fun ls' hl' => (q_K hW hP hD hS kk _ _ (q_lset2 hl hrf hk.2 rfl hkl hl') hr))
      · cases hs
    · cases hs
  | astore k =>
    dsimp only [q_step] at hs
    split at hs
    · next v st2 =>
      split at hs
      · next hk =>
        cases hs
        obtain ⟨r, rfl, hv, hr⟩ := hst.r
        have hkl := hk.1
        rw [hl.2.1] at hkl
        rcases hrf v hv with q4 | ⟨b, q4⟩
        · rw [q4]
          exact lv_astoreN hx hb hdg (q_lst_has hl.1 hl.2.2.1) hkl rfl (fun ls' hl' => (q_K hW hP hD hS kk _ _ (q_lset hl hrf hk.2 ⟨hv, q4.symm⟩ hl') hr))
        · rw [q4]
          exact lv_astore hx hb hdg (q_lst_has hl.1 hl.2.2.1) hkl rfl (fun ls' hl' => (q_K hW hP hD hS kk _ _ (q_lset hl hrf hk.2 ⟨hv, q4.symm⟩ hl') hr))
      · cases hs
    · next st2 =>
      split at hs
      · next hk =>
        cases hs
        obtain ⟨r, rfl, hr⟩ := hst.n
        have hkl := hk.1
        rw [hl.2.1] at hkl
        exact lv_astoreN hx hb hdg (q_lst_has hl.1 hl.2.2.1) hkl rfl (fun ls' hl' => (q_K hW hP hD hS kk _ _ (q_lset hl hrf hk.2 rfl hl') hr))
      · cases hs
    · cases hs
  | astore_n k =>
    dsimp only [q_step] at hs
    split at hs
    · next v st2 =>
      split at hs
      · next hk =>
        cases hs
        obtain ⟨r, rfl, hv, hr⟩ := hst.r
        have hkl := hk.1
        rw [hl.2.1] at hkl
        rcases hrf v hv with q4 | ⟨b, q4⟩
        · rw [q4]
          exact lv_astore_nN hx hb hdg rfl (q_lst_has hl.1 hl.2.2.1) hkl rfl (fun ls' hl' => (q_K hW hP hD hS kk _ _ (q_lset hl hrf hk.2 ⟨hv, q4.symm⟩ hl') hr))
        · rw [q4]
          exact lv_astore_n hx hb hdg rfl (q_lst_has hl.1 hl.2.2.1) hkl rfl (fun ls' hl' => (q_K hW hP hD hS kk _ _ (q_lset hl hrf hk.2 ⟨hv, q4.symm⟩ hl') hr))
      · cases hs
    · next st2 =>
      split at hs
      · next hk =>
        cases hs
        obtain ⟨r, rfl, hr⟩ := hst.n
        have hkl := hk.1
        rw [hl.2.1] at hkl
        exact lv_astore_nN hx hb hdg rfl (q_lst_has hl.1 hl.2.2.1) hkl rfl (fun ls' hl' => (q_K hW hP hD hS kk _ _ (q_lset hl hrf hk.2 rfl hl') hr))
      · cases hs
    · cases hs
  | iinc k n =>
    dsimp only [q_step] at hs
    split at hs
    · next v hk =>
      split at hs
      · next hcl =>
        cases hs
        obtain ⟨w, q1, q2⟩ := hl.2.2.2 _ _ hk
        cases (show w = _ from q2)
        obtain ⟨kk0, hkk⟩ := List.getElem?_of_mem (q_lst_in.mpr q1)
        exact lv_iinc (k := kk0) hx hb hdg (q_lst_has hl.1 hl.2.2.1) hkk rfl (by rw [← hl.1]; exact lv_lt q1) rfl (fun ls' hl' => (q_K hW hP hD hS kk _ _ (q_lset hl hrf hcl rfl hl') hst))
      · cases hs
    · cases hs
  | iadd =>
    dsimp only [q_step] at hs
    split at hs
    · cases hs
      obtain ⟨r, rfl, hr⟩ := hst.ii
      exact lv_iadd hx hb hdg (q_K hW hP hD hS kk _ _ hl ⟨_, _, rfl, rfl, hr⟩)
    · cases hs
  | isub =>
    dsimp only [q_step] at hs
    split at hs
    · cases hs
      obtain ⟨r, rfl, hr⟩ := hst.ii
      exact lv_isub hx hb hdg (q_K hW hP hD hS kk _ _ hl ⟨_, _, rfl, rfl, hr⟩)
    · cases hs
  | imul =>
    dsimp only [q_step] at hs
    split at hs
    · cases hs
      obtain ⟨r, rfl, hr⟩ := hst.ii
      exact lv_imul hx hb hdg (q_K hW hP hD hS kk _ _ hl ⟨_, _, rfl, rfl, hr⟩)
    · cases hs
  | iand =>
    dsimp only [q_step] at hs
    split at hs
    · cases hs
      obtain ⟨r, rfl, hr⟩ := hst.ii
      exact lv_iand hx hb hdg (q_K hW hP hD hS kk _ _ hl ⟨_, _, rfl, rfl, hr⟩)
    · cases hs
  | ior =>
    dsimp only [q_step] at hs
    split at hs
    · cases hs
      obtain ⟨r, rfl, hr⟩ := hst.ii
      exact lv_ior hx hb hdg (q_K hW hP hD hS kk _ _ hl ⟨_, _, rfl, rfl, hr⟩)
    · cases hs
  | ixor =>
    dsimp only [q_step] at hs
    split at hs
    · cases hs
      obtain ⟨r, rfl, hr⟩ := hst.ii
      exact lv_ixor hx hb hdg (q_K hW hP hD hS kk _ _ hl ⟨_, _, rfl, rfl, hr⟩)
    · cases hs
  | ishl =>
    dsimp only [q_step] at hs
    split at hs
    · cases hs
      obtain ⟨r, rfl, hr⟩ := hst.ii
      exact lv_ishl hx hb hdg (q_K hW hP hD hS kk _ _ hl ⟨_, _, rfl, rfl, hr⟩)
    · cases hs
  | ishr =>
    dsimp only [q_step] at hs
    split at hs
    · cases hs
      obtain ⟨r, rfl, hr⟩ := hst.ii
      exact lv_ishr hx hb hdg (q_K hW hP hD hS kk _ _ hl ⟨_, _, rfl, rfl, hr⟩)
    · cases hs
  | iushr =>
    dsimp only [q_step] at hs
    split at hs
    · cases hs
      obtain ⟨r, rfl, hr⟩ := hst.ii
      exact lv_iushr hx hb hdg rfl (q_K hW hP hD hS kk _ _ hl ⟨_, _, rfl, rfl, hr⟩)
    · cases hs
  | idiv =>
    dsimp only [q_step] at hs
    split at hs
    · split at hs
      · cases hs
      · next hne =>
        cases hs
        obtain ⟨r, rfl, hr⟩ := hst.ii
        exact lv_idiv hx hb hdg hne (q_K hW hP hD hS kk _ _ hl ⟨_, _, rfl, rfl, hr⟩)
    · cases hs
  | irem =>
    dsimp only [q_step] at hs
    split at hs
    · split at hs
      · cases hs
      · next hne =>
        cases hs
        obtain ⟨r, rfl, hr⟩ := hst.ii
        exact lv_irem hx hb hdg hne (q_K hW hP hD hS kk _ _ hl ⟨_, _, rfl, rfl, hr⟩)
    · cases hs
  | ldiv =>
    dsimp only [q_step] at hs
    split at hs
    · split at hs
      · cases hs
      · next hne =>
        cases hs
        obtain ⟨r, rfl, hr⟩ := hst.ll
        exact lv_ldiv hx hb hdg hne (q_K hW hP hD hS kk _ _ hl ⟨_, _, rfl, rfl, hr⟩)
    · cases hs
  | lrem =>
    dsimp only [q_step] at hs
    split at hs
    · split at hs
      · cases hs
      · next hne =>
        cases hs
        obtain ⟨r, rfl, hr⟩ := hst.ll
        exact lv_lrem hx hb hdg hne (q_K hW hP hD hS kk _ _ hl ⟨_, _, rfl, rfl, hr⟩)
    · cases hs
  | ineg =>
    dsimp only [q_step] at hs
    split at hs
    · cases hs
      obtain ⟨r, rfl, hr⟩ := hst.i
      exact lv_ineg hx hb hdg (q_K hW hP hD hS kk _ _ hl ⟨_, _, rfl, rfl, hr⟩)
    · cases hs
  | ladd =>
    dsimp only [q_step] at hs
    split at hs
    · cases hs
      obtain ⟨r, rfl, hr⟩ := hst.ll
      exact lv_ladd hx hb hdg (q_K hW hP hD hS kk _ _ hl ⟨_, _, rfl, rfl, hr⟩)
    · cases hs
  | lmul =>
    dsimp only [q_step] at hs
    split at hs
    · cases hs
      obtain ⟨r, rfl, hr⟩ := hst.ll
      exact lv_lmul hx hb hdg (q_K hW hP hD hS kk _ _ hl ⟨_, _, rfl, rfl, hr⟩)
    · cases hs
  | lcmp =>
    dsimp only [q_step] at hs
    split at hs
    · cases hs
      obtain ⟨r, rfl, hr⟩ := hst.ll
      exact W.lcmp hx hb hdg (q_K hW hP hD hS kk _ _ hl ⟨_, _, rfl, rfl, hr⟩)
    · cases hs
  | i2l =>
    dsimp only [q_step] at hs
    split at hs
    · cases hs
      obtain ⟨r, rfl, hr⟩ := hst.i
      exact lv_i2l hx hb hdg rfl (q_K hW hP hD hS kk _ _ hl ⟨_, _, rfl, rfl, hr⟩)
    · cases hs
  | l2i =>
    dsimp only [q_step] at hs
    split at hs
    · cases hs
      obtain ⟨r, rfl, hr⟩ := hst.l
      exact lv_l2i hx hb hdg rfl (q_K hW hP hD hS kk _ _ hl ⟨_, _, rfl, rfl, hr⟩)
    · cases hs
  | i2b =>
    dsimp only [q_step] at hs
    split at hs
    · cases hs
      obtain ⟨r, rfl, hr⟩ := hst.i
      exact lv_i2b hx hb hdg rfl (q_K hW hP hD hS kk _ _ hl ⟨_, _, rfl, rfl, hr⟩)
    · cases hs
  | i2s =>
    dsimp only [q_step] at hs
    split at hs
    · cases hs
      obtain ⟨r, rfl, hr⟩ := hst.i
      exact lv_i2s hx hb hdg rfl (q_K hW hP hD hS kk _ _ hl ⟨_, _, rfl, rfl, hr⟩)
    · cases hs
  | i2c =>
    dsimp only [q_step] at hs
    split at hs
    · cases hs
      obtain ⟨r, rfl, hr⟩ := hst.i
      exact lv_i2c hx hb hdg rfl (q_K hW hP hD hS kk _ _ hl ⟨_, _, rfl, rfl, hr⟩)
    · cases hs
  | dup =>
    dsimp only [q_step] at hs
    split at hs
    · split at hs
      · next hc1 =>
        cases hs
        obtain ⟨v, r, rfl, hv, hr⟩ := hst
        exact lv_dup hx hb hdg (q_c1v hv hrf hc1) (q_K hW hP hD hS kk _ _ hl ⟨_, _, rfl, hv, _, _, rfl, hv, hr⟩)
      · cases hs
    · cases hs
  | pop =>
    dsimp only [q_step] at hs
    split at hs
    · split at hs
      · next hc1 =>
        cases hs
        obtain ⟨v, r, rfl, hv, hr⟩ := hst
        exact lv_pop hx hb hdg (q_c1v hv hrf hc1) (q_K hW hP hD hS kk _ _ hl hr)
      · cases hs
    · cases hs
  | dup2 =>
    dsimp only [q_step] at hs
    split at hs
    · split at hs
      · next hc1 =>
        cases hs
        obtain ⟨v, r, rfl, hv, v2, r2, rfl, hv2, hr⟩ := hst
        exact lv_dup2_11 hx hb hdg (q_c1v hv hrf hc1.1) (q_c1v hv2 hrf hc1.2) (q_K hW hP hD hS kk _ _ hl ⟨_, _, rfl, hv, _, _, rfl, hv2, _, _, rfl, hv, _, _, rfl, hv2, hr⟩)
      · cases hs
    · cases hs
  | goto off =>
    cases hs
    exact lv_goto hx hb hdg (q_to_ok (by simpa [q_lk] using hlk)) (q_K hW hP hD hS kk _ _ hl hst)
  | ifCond cd off =>
    dsimp only [q_step] at hs
    split at hs
    · cases hs
      obtain ⟨r, rfl, hr⟩ := hst.i
      exact lv_if_eq hx hb hdg (q_to_ok (by simpa [q_lk] using hlk)) (fun h => by rw [if_pos h] at kk; exact (q_K hW hP hD hS kk _ _ hl hr)) (fun h => by rw [if_neg h] at kk; exact (q_K hW hP hD hS kk _ _ hl hr))
    · cases hs
      obtain ⟨r, rfl, hr⟩ := hst.i
      exact lv_if_ne hx hb hdg (q_to_ok (by simpa [q_lk] using hlk)) (fun h => by rw [if_neg h] at kk; exact (q_K hW hP hD hS kk _ _ hl hr)) (fun h => by rw [if_pos h] at kk; exact (q_K hW hP hD hS kk _ _ hl hr))
    · cases hs
      obtain ⟨r, rfl, hr⟩ := hst.i
      exact lv_if_lt hx hb hdg (q_to_ok (by simpa [q_lk] using hlk)) (fun h => by rw [if_pos h] at kk; exact (q_K hW hP hD hS kk _ _ hl hr)) (fun h => by rw [if_neg h] at kk; exact (q_K hW hP hD hS kk _ _ hl hr))
    · cases hs
      obtain ⟨r, rfl, hr⟩ := hst.i
      exact lv_if_ge hx hb hdg (q_to_ok (by simpa [q_lk] using hlk)) (fun h => by rw [if_neg (Int32.not_lt.mpr h)] at kk; exact (q_K hW hP hD hS kk _ _ hl hr)) (fun h => by rw [if_pos (Int32.not_le.mp h)] at kk; exact (q_K hW hP hD hS kk _ _ hl hr))
    · cases hs
      obtain ⟨r, rfl, hr⟩ := hst.i
      exact lv_if_gt hx hb hdg (q_to_ok (by simpa [q_lk] using hlk)) (fun h => by rw [if_neg (Int32.not_le.mpr h)] at kk; exact (q_K hW hP hD hS kk _ _ hl hr)) (fun h => by rw [if_pos (Int32.not_lt.mp h)] at kk; exact (q_K hW hP hD hS kk _ _ hl hr))
    · cases hs
      obtain ⟨r, rfl, hr⟩ := hst.i
      exact lv_if_le hx hb hdg (q_to_ok (by simpa [q_lk] using hlk)) (fun h => by rw [if_pos h] at kk; exact (q_K hW hP hD hS kk _ _ hl hr)) (fun h => by rw [if_neg h] at kk; exact (q_K hW hP hD hS kk _ _ hl hr))
    · cases hs
  | if_icmp cd off =>
    dsimp only [q_step] at hs
    split at hs
    · cases hs
      obtain ⟨r, rfl, hr⟩ := hst.ii
      exact lv_icmp_eq hx hb hdg (q_to_ok (by simpa [q_lk] using hlk)) (fun h => by rw [if_pos h] at kk; exact (q_K hW hP hD hS kk _ _ hl hr)) (fun h => by rw [if_neg h] at kk; exact (q_K hW hP hD hS kk _ _ hl hr))
    · cases hs
      obtain ⟨r, rfl, hr⟩ := hst.ii
      exact lv_icmp_ne hx hb hdg (q_to_ok (by simpa [q_lk] using hlk)) (fun h => by rw [if_neg h] at kk; exact (q_K hW hP hD hS kk _ _ hl hr)) (fun h => by rw [if_pos h] at kk; exact (q_K hW hP hD hS kk _ _ hl hr))
    · cases hs
      obtain ⟨r, rfl, hr⟩ := hst.ii
      exact lv_icmp_lt hx hb hdg (q_to_ok (by simpa [q_lk] using hlk)) (fun h => by rw [if_pos h] at kk; exact (q_K hW hP hD hS kk _ _ hl hr)) (fun h => by rw [if_neg h] at kk; exact (q_K hW hP hD hS kk _ _ hl hr))
    · cases hs
      obtain ⟨r, rfl, hr⟩ := hst.ii
      exact lv_icmp_ge hx hb hdg (q_to_ok (by simpa [q_lk] using hlk)) (fun h => by rw [if_neg (Int32.not_lt.mpr h)] at kk; exact (q_K hW hP hD hS kk _ _ hl hr)) (fun h => by rw [if_pos (Int32.not_le.mp h)] at kk; exact (q_K hW hP hD hS kk _ _ hl hr))
    · cases hs
      obtain ⟨r, rfl, hr⟩ := hst.ii
      exact lv_icmp_gt hx hb hdg (q_to_ok (by simpa [q_lk] using hlk)) (fun h => by rw [if_neg (Int32.not_le.mpr h)] at kk; exact (q_K hW hP hD hS kk _ _ hl hr)) (fun h => by rw [if_pos (Int32.not_lt.mp h)] at kk; exact (q_K hW hP hD hS kk _ _ hl hr))
    · cases hs
      obtain ⟨r, rfl, hr⟩ := hst.ii
      exact lv_icmp_le hx hb hdg (q_to_ok (by simpa [q_lk] using hlk)) (fun h => by rw [if_pos h] at kk; exact (q_K hW hP hD hS kk _ _ hl hr)) (fun h => by rw [if_neg h] at kk; exact (q_K hW hP hD hS kk _ _ hl hr))
    · cases hs
  | ifnull off =>
    dsimp only [q_step] at hs
    split at hs
    · cases hs
      obtain ⟨r, rfl, hr⟩ := hst.n
      exact lv_ifnullN hx hb hdg (q_to_ok (by simpa [q_lk] using hlk)) (q_K hW hP hD hS kk _ _ hl hr)
    · split at hs
      · cases hs
      · next k _ hk =>
        cases hs
        obtain ⟨r, rfl, hv, hr⟩ := hst.r
        obtain ⟨b, q4⟩ := q_nn hW hE.2.2.2.2.2.2.2.2 hv hk
        rw [q4]
        exact lv_ifnull hx hb hdg (q_K hW hP hD hS kk _ _ hl hr)
    · cases hs
  | ifnonnull off =>
    dsimp only [q_step] at hs
    split at hs
    · cases hs
      obtain ⟨r, rfl, hr⟩ := hst.n
      exact lv_ifnonnullN hx hb hdg (q_K hW hP hD hS kk _ _ hl hr)
    · split at hs
      · cases hs
      · next k _ hk =>
        cases hs
        obtain ⟨r, rfl, hv, hr⟩ := hst.r
        obtain ⟨b, q4⟩ := q_nn hW hE.2.2.2.2.2.2.2.2 hv hk
        rw [q4]
        exact lv_ifnonnull hx hb hdg (q_to_ok (by simpa [q_lk] using hlk)) (q_K hW hP hD hS kk _ _ hl hr)
    · cases hs
  | tableswitch d lo hi offs =>
    dsimp only [q_step] at hs
    split at hs
    · next a st2 =>
      cases hs
      obtain ⟨r, rfl, hr⟩ := hst.i
      simp only [q_lk, Bool.and_eq_true, decide_eq_true_eq, List.all_eq_true] at hlk
      obtain ⟨⟨h1, h2⟩, h3⟩ := hlk
      obtain ⟨t1, t2⟩ := q_sw_tab pc (q_to pc d) offs.toList lo a.toInt h2
      by_cases ho : a.toInt < lo ∨ hi < a.toInt
      · rw [t1 (by omega)] at kk
        exact lv_tableOut hx hb hdg ho (q_to_ok h1) (q_K hW hP hD hS kk _ _ hl hr)
      · obtain ⟨o, q1, q2⟩ := t2 (by omega) (by omega)
        rw [q2] at kk
        exact lv_tableIn hx hb hdg (by omega) (by omega) (by rw [← q1, Array.getElem?_toList]) (q_to_ok (h2 o (List.mem_of_getElem? q1))) (q_K hW hP hD hS kk _ _ hl hr)
    · cases hs
  | lookupswitch d ps =>
    dsimp only [q_step] at hs
    split at hs
    · next a st2 =>
      cases hs
      obtain ⟨r, rfl, hr⟩ := hst.i
      simp only [q_lk, Bool.and_eq_true, decide_eq_true_eq] at hlk
      obtain ⟨⟨h1, h2⟩, h3⟩ := hlk
      rw [q_sw_look] at kk
      have h4 : 0 ≤ (pc : Int) + Op.lookupswitch.offset ps.toList d a.toInt := q_look_in (P := fun o => 0 ≤ (pc : Int) + o) h1 (fun o ho => by simpa using List.all_eq_true.mp h2 o ho)
      exact lv_lookup hx hb hdg h3 rfl (q_to_ok h4) (q_K hW hP hD hS kk _ _ hl hr)
    · cases hs
  | arraylength =>
    dsimp only [q_step] at hs
    split at hs
    · next k st2 =>
      split at hs
      · next n hz =>
        cases hs
        obtain ⟨r, rfl, hv, hr⟩ := hst.r
        rcases Nat.lt_or_ge k 900 with hk | hk
        · obtain ⟨a, ee, q1, q2, q3, -⟩ := hW.2.2.1 k (by omega)
          rw [hz] at q3
          rw [show ee = _ from q3] at q2
          rw [q1]
          exact va_alen hx hb hE.1 hP k 0 q2 rfl rfl hdg (q_K hW hP hD hS kk _ _ hl ⟨_, _, rfl, rfl, hr⟩)
        · obtain ⟨h1, h2, h3⟩ := hW.2.2.2 k hk
          obtain ⟨t, q1, q2⟩ := hE.2.2.2.2.1 k n hk (by rw [← h2]; exact hz)
          rw [h1, q1]
          exact va_tlen hx hb q2 hS rfl hdg (q_K hW hP hD hS kk _ _ hl ⟨_, _, rfl, rfl, hr⟩)
      · next cc n f hz =>
        split at hs
        · cases hs
        · next hb1 =>
          cases hs
          obtain ⟨r, rfl, hv, hr⟩ := hst.r
          have hbk := (Nat.lt_or_ge k 900).resolve_right hb1
          obtain ⟨a, ee, q1, q2, q3, -⟩ := hW.2.2.1 k (by omega)
          rw [hz] at q3
          obtain ⟨h', rfl, hcc, q4⟩ := q3
          obtain ⟨t0, ht0⟩ : ∃ t0 : Nat, ([(cI, .int), (cR 4, .object RX4), (cR 6, .object RX6)] : List (ClassId × FieldType))[t0]? = some (cR cc, .object (q_cn cc)) := by
            rcases hcc with rfl | rfl
            · exact ⟨1, rfl⟩
            · exact ⟨2, rfl⟩
          rw [q1]
          exact va_alen hx hb hE.1 hP k t0 q2 ht0 rfl hdg (q_K hW hP hD hS kk _ _ hl ⟨_, _, rfl, rfl, hr⟩)
      · cases hs
    · cases hs
  | iaload =>
    dsimp only [q_step] at hs
    split at hs
    · next i k st2 =>
      split at hs
      · next n hz =>
        split at hs
        · cases hs
        · next hb1 =>
          cases hs
          obtain ⟨r0, rfl, hr0⟩ := hst.i
          obtain ⟨r, rfl, hv, hr⟩ := hr0.r
          have hvp : vp_in i n := fun q => hb1 (q.elim Or.inl fun q => Or.inr (Or.inl q))
          have hbk := q_nb3 hb1
          rcases Nat.lt_or_ge k 900 with hk | hk
          · obtain ⟨a, ee, q1, q2, q3, -⟩ := hW.2.2.1 k (by omega)
            rw [hz] at q3
            rw [show ee = _ from q3] at q2
            rw [q1]
            exact va_iald hx hb hE.1 hP k 0 q2 rfl hvp hdg (q_K hW hP hD hS kk _ _ hl ⟨_, _, rfl, rfl, hr⟩)
          · obtain ⟨h1, h2, h3⟩ := hW.2.2.2 k hk
            obtain ⟨t, q1, q2⟩ := hE.2.2.2.2.1 k n hk (by rw [← h2]; exact hz)
            rw [if_pos (by omega)] at q2
            rw [h1, q1]
            exact va_ti hx hb q2 hS hvp rfl hdg (q_K hW hP hD hS kk _ _ hl ⟨_, _, rfl, by rw [h3]; rfl, hr⟩)
      · cases hs
    · cases hs
  | baload =>
    dsimp only [q_step] at hs
    split at hs
    · next i k st2 =>
      split at hs
      · next n hz =>
        split at hs
        · cases hs
        · next hb1 =>
          cases hs
          obtain ⟨r0, rfl, hr0⟩ := hst.i
          obtain ⟨r, rfl, hv, hr⟩ := hr0.r
          have hvp : vp_in i n := fun q => hb1 (q.elim Or.inl fun q => Or.inr (Or.inl q))
          have hbk := q_nb3' hb1
          have hk := q_ge9 hbk
          obtain ⟨h1, h2, h3⟩ := hW.2.2.2 k hk
          obtain ⟨t, q1, q2⟩ := hE.2.2.2.2.1 k n hk (by rw [← h2]; exact hz)
          rw [if_neg (by omega)] at q2
          rw [h1, q1]
          exact va_tb hx hb q2 hS hvp rfl hdg (q_K hW hP hD hS kk _ _ hl ⟨_, _, rfl, by rw [h3]; rfl, hr⟩)
      · cases hs
    · cases hs
  | iastore =>
    dsimp only [q_step] at hs
    split at hs
    · next v i k st2 =>
      split at hs
      · next n hz =>
        split at hs
        · cases hs
        · next hb1 =>
          cases hs
          obtain ⟨r0, rfl, hr0⟩ := hst.ii
          obtain ⟨r, rfl, hv, hr⟩ := hr0.r
          have hvp : vp_in i n := fun q => hb1 (q.elim Or.inl fun q => Or.inr (Or.inl q))
          have hbk := q_nb3 hb1
          have hkN := q_ltN hv hbk
          obtain ⟨a, ee, q1, q2, q3, -⟩ := hW.2.2.1 k hkN
          rw [hz] at q3
          rw [show ee = _ from q3] at q2
          rw [q1]
          refine va_iast hx hb hE.1 hP hD hS k 0 q2 rfl hvp hdg (fun H1 locs1 hP1 hD1 hS1 => ?_)
          have hk2 := kk ad _ H1 locs1 ls r q_ex.rf ⟨hW.ints hkN q1 (by rw [hz, q_up_at]; rfl) (fun k' hk' => q_up_ne m _ _ hk'), hP1, hD1, hS1, hl, hr⟩
          rw [Nat.sub_self, Nat.sub_self] at hk2
          exact hk2
      · cases hs
    · cases hs
  | aaload =>
    dsimp only [q_step] at hs
    split at hs
    · next i k st2 =>
      split at hs
      · next cc n f hz =>
        split at hs
        · cases hs
        · next hb1 =>
          cases hs
          obtain ⟨r0, rfl, hr0⟩ := hst.i
          obtain ⟨r, rfl, hv, hr⟩ := hr0.r
          have hvp : vp_in i n := fun q => hb1 (q.elim Or.inl fun q => Or.inr (Or.inl q))
          have hbk := q_nb3 hb1
          obtain ⟨a, ee, q1, q2, q3, -⟩ := hW.2.2.1 k (by omega)
          rw [hz] at q3
          obtain ⟨h', rfl, hcc, q4⟩ := q3
          obtain ⟨t0, ht0⟩ : ∃ t0 : Nat, ([(cI, .int), (cR 4, .object RX4), (cR 6, .object RX6)] : List (ClassId × FieldType))[t0]? = some (cR cc, .object (q_cn cc)) := by
            rcases hcc with rfl | rfl
            · exact ⟨1, rfl⟩
            · exact ⟨2, rfl⟩
          rw [q1]
          refine va_aldq hx hb hE.1 hP k t0 q2 ht0 hvp hdg (q_K hW hP hD hS kk _ _ hl ⟨_, _, rfl, ?_, hr⟩)
          have q5 := q4 i.toNatClampNeg
          generalize f i.toNatClampNeg = o at q5 ⊢
          cases o with
          | none => rw [show h' _ = none from q5]; rfl
          | some z =>
            obtain ⟨z1, b, z2, z3⟩ := q5
            rw [z3]
            exact ⟨Or.inl z1, z2.symm⟩
      · cases hs
    · cases hs
  | aastore =>
    dsimp only [q_step] at hs
    split at hs
    · next z i k st2 =>
      split at hs
      · next cc n f c2 fs hz hz2 =>
        split at hs
        · cases hs
        · next hb1 =>
          cases hs
          obtain ⟨rz, rfl, hvz, hrz⟩ := hst.r
          obtain ⟨r0, rfl, hr0⟩ := hrz.i
          obtain ⟨r, rfl, hv, hr⟩ := hr0.r
          have hvp : vp_in i n := fun q => hb1 (q.elim Or.inl fun q => Or.inr (Or.inl q))
          have hbk := q_nb5 hb1
          have hkN := q_ltN hv hbk.1
          have hzN := q_ltN hvz hbk.2
          have hc2 : c2 = cc := Decidable.byContradiction fun q => hb1 (Or.inr (Or.inr (Or.inr (Or.inr q))))
          subst hc2
          obtain ⟨a, ee, q1, q2, q3, -⟩ := hW.2.2.1 k hkN
          rw [hz] at q3
          obtain ⟨h', rfl, hcc, q4⟩ := q3
          obtain ⟨az, ez, z1, z2, z3, -⟩ := hW.2.2.1 z hzN
          rw [hz2] at z3
          obtain ⟨hc9, vs, rfl, -⟩ := z3
          have hvw := q_vw c2 hc9
          obtain ⟨t0, ht0⟩ : ∃ t0 : Nat, ([(cI, .int), (cR 4, .object RX4), (cR 6, .object RX6)] : List (ClassId × FieldType))[t0]? = some (cR c2, .object (q_cn c2)) := by
            rcases hcc with rfl | rfl
            · exact ⟨1, rfl⟩
            · exact ⟨2, rfl⟩
          rw [q1, z1]
          refine va_astq (r := (q_cn c2, q_T c2, q_N c2)) hx hb hE.1 hP hD hS k t0 z c2 q2 ht0 z2 hvw hvp hdg (fun H1 locs1 hP1 hD1 hS1 => ?_)
          have hk2 := kk ad _ H1 locs1 ls r q_ex.rf ⟨hW.refs hkN q1 ⟨_, rfl, hcc, fun i' => ?_⟩ trivial, hP1, hD1, hS1, hl, hr⟩
          · have e1 : (q_sh g k (.inr (.inl (c2, n, va_up f i.toNatClampNeg (some z))))).2 = g.2 := rfl
            rw [e1, Nat.sub_self, Nat.sub_self] at hk2
            exact hk2
          · by_cases hi' : i' = i.toNatClampNeg
            · subst hi'
              rw [va_up_self, va_up_self]
              exact ⟨hzN, az, z1, rfl⟩
            · rw [va_up_ne _ _ hi', va_up_ne _ _ hi']
              exact q4 i'
      · cases hs
    · next i k st2 =>
      split at hs
      · next cc n f hz =>
        split at hs
        · cases hs
        · next hb1 =>
          cases hs
          obtain ⟨rz, rfl, hrz⟩ := hst.n
          obtain ⟨r0, rfl, hr0⟩ := hrz.i
          obtain ⟨r, rfl, hv, hr⟩ := hr0.r
          have hvp : vp_in i n := fun q => hb1 (q.elim Or.inl fun q => Or.inr (Or.inl q))
          have hbk := q_nb3 hb1
          have hkN := q_ltN hv hbk
          obtain ⟨a, ee, q1, q2, q3, -⟩ := hW.2.2.1 k hkN
          rw [hz] at q3
          obtain ⟨h', rfl, hcc, q4⟩ := q3
          obtain ⟨t0, ht0⟩ : ∃ t0 : Nat, ([(cI, .int), (cR 4, .object RX4), (cR 6, .object RX6)] : List (ClassId × FieldType))[t0]? = some (cR cc, .object (q_cn cc)) := by
            rcases hcc with rfl | rfl
            · exact ⟨1, rfl⟩
            · exact ⟨2, rfl⟩
          rw [q1]
          refine va_astqN hx hb hE.1 hP hD hS k t0 q2 ht0 hvp hdg (fun H1 locs1 hP1 hD1 hS1 => ?_)
          have hk2 := kk ad _ H1 locs1 ls r q_ex.rf ⟨hW.refs hkN q1 ⟨_, rfl, hcc, fun i' => ?_⟩ trivial, hP1, hD1, hS1, hl, hr⟩
          · have e1 : (q_sh g k (.inr (.inl (cc, n, va_up f i.toNatClampNeg none)))).2 = g.2 := rfl
            rw [e1, Nat.sub_self, Nat.sub_self] at hk2
            exact hk2
          · by_cases hi' : i' = i.toNatClampNeg
            · subst hi'
              rw [va_up_self, va_up_self]
              rfl
            · rw [va_up_ne _ _ hi', va_up_ne _ _ hi']
              exact q4 i'
      · cases hs
    · cases hs
  | getfield idx =>
    dsimp only [q_step] at hs
    split at hs
    · next k st2 =>
      split at hs
      · next cc fs hz =>
        split at hs
        · cases hs
        · next hcx =>
          have hcx : cc = x := Decidable.byContradiction hcx
          subst hcx
          obtain ⟨r, rfl, hv, hr⟩ := hst.r
          rcases Nat.lt_or_ge k 900 with hk | hk
          · obtain ⟨a, ee, q1, q2, q3, -⟩ := hW.2.2.1 k (by omega)
            rw [hz] at q3
            obtain ⟨hc9, vs, rfl, hlen, hlen2, q4⟩ := q3
            have hvw := q_vw cc hc9
            rw [q1]
            have hne : ¬ cc = 9 := by omega
            simp only [q_lk, if_neg hne, Bool.or_eq_true, List.contains_iff_mem] at hlk
            obtain ⟨w, hw, hrel⟩ : ∃ w, some (pc + 3, lv, w :: st2, g, m) = some (pc', lv', st', g', m') ∧ ∃ v, vs[y.toNat % 1000]? = some v ∧ q_vr ad g.2.1 w v := by
              split at hs
              · next hf => exact ⟨_, hs, _, (q4 _).1 hf, rfl⟩
              · next w hf => exact ⟨_, hs, ((q4 _).2 w hf).2⟩
              · cases hs
            cases hw
            obtain ⟨v, hv1, hv2⟩ := hrel
            rcases hlk with hlk | hlk
            · obtain ⟨-, hkN, hg⟩ := q_fl0_ok _ hlk
              exact va_get hx hb hts (q_lay cc hc9) hown hE.1 hP k q2 hvw _ hkN (hgt hg) (fun _ h => h) hv1 hdg (q_K hW hP hD hS kk _ _ hl ⟨_, _, rfl, hv2, hr⟩)
            · obtain ⟨-, hkN, host, hg⟩ := q_fl1_ok _ hlk
              exact va_getN hx hb hts (q_lay cc hc9) hown hE.1 hP k q2 hvw _ hkN (va_Nw.use rfl (hE.2.1 _ hg rfl)) (fun _ h => h) hv1 hdg (q_K hW hP hD hS kk _ _ hl ⟨_, _, rfl, hv2, hr⟩)
          · obtain ⟨h1, h2, h3⟩ := hW.2.2.2 k hk
            have hne : cc ≠ 99 := by
              rintro rfl
              simp only [q_lk, if_neg (show ¬ (99 : Nat) = 9 by decide), Bool.or_eq_true, List.contains_iff_mem] at hlk
              rcases hlk with hlk | hlk
              · exact absurd (show 99 < 9 from (q_fl0_ok _ hlk).1) (by decide)
              · exact absurd (show 99 < 9 from (q_fl1_ok _ hlk).1) (by decide)
            obtain ⟨hk1, hk2, hc9, hfs⟩ := q_xs_obj hk (h2.symm.trans hz) hne
            subst hc9
            subst hfs
            obtain ⟨a, q1, q2, q3, q4⟩ := hE.2.2.2.2.2.1 k hk1 hk2
            rw [h1, q1]
            simp only [q_lk, if_true, Bool.and_eq_true, beq_iff_eq] at hlk
            have hsl2 : (idx, y.toNat % 1000) ∈ q_sl := by simpa using hlk.2
            have hSL := q_sl_ok _ hsl2
            have ho9 : q_cn (q_oc j) = "java/lang/String" := by rw [hlk.1]; rfl
            have hgt2 := hgt hSL
            have hown2 := hown
            rw [ho9] at hown2
            generalize y.toNat % 1000 = fi at hs hgt2
            match fi, hs, hgt2 with
            | 0, hs, hgt2 =>
              cases hs
              exact vk_getf hx hb q4 hS hown2 hgt2 (fun _ h => h) hdg (q_K hW hP hD hS kk _ _ hl ⟨_, _, rfl, ⟨Or.inr (q_ge20 hk), ((hW.2.2.2 (k + 20) (q_ge20 hk)).1).symm⟩, hr⟩)
            | 1, hs, hgt2 =>
              cases hs
              exact vk_getf hx hb q3 hS hown2 hgt2 (fun _ h => h) hdg (q_K hW hP hD hS kk _ _ hl ⟨_, _, rfl, by rw [h3, q_xm_0 hk1 (by omega)]; rfl, hr⟩)
            | fi + 2, hs, hgt2 => cases hs
      · cases hs
    · cases hs
  | putfield idx =>
    dsimp only [q_step] at hs
    split at hs
    · next w k st2 =>
      split at hs
      · next cc fs hz =>
        split at hs
        · cases hs
        · next hcx =>
          have hcx1 : cc = x := Decidable.byContradiction fun q => hcx (Or.inl q)
          have hbk := q_nb2 hcx
          subst hcx1
          obtain ⟨v, r1, rfl, hwv, hr1⟩ := hst
          obtain ⟨r, rfl, hv, hr⟩ := hr1.r
          have hkN := q_ltN hv hbk
          obtain ⟨a, ee, q1, q2, q3, qty⟩ := hW.2.2.1 k hkN
          rw [hz] at q3 qty
          obtain ⟨hc9, vs, rfl, hlen, hlen2, q4⟩ := q3
          have hvw := q_vw cc hc9
          rw [q1]
          generalize hfi : y.toNat % 1000 = fi at hs
          simp only [q_lk, hfi, Bool.and_eq_true, beq_iff_eq] at hlk
          obtain ⟨hlk1, hlk2⟩ := hlk
          -- the new world, the field's type
          obtain ⟨g2, m2, hge, hg2, hfl, hty, hrel⟩ : ∃ (g2 : q_G) (m2 : q_M), some (pc + 3, lv, st2, g2, m2) = some (pc', lv', st', g', m') ∧ g2.2 = g.2 ∧ fi < vs.length ∧ (narrow (q_tyT cc fi) v = v ∧ fits (q_tyT cc fi) v = true) ∧ q_wr L xs ex ad cI cR g2 m2 (ws.set k (a, .inr (cc, vs.set fi v))) := by
            split at hs
            · next hf =>
              split at hs
              · cases hs
              · next hbz =>
                refine ⟨_, _, hs, rfl, ?_, ?_, hW.ints hkN q1 ?_ (fun k' hk' => q_up_ne m _ _ hk')⟩
                · exact (List.getElem?_eq_some_iff.mp ((q4 fi).1 hf)).1
                · cases (show v = _ from hwv)
                  rcases (qty fi).1 hf with ht | ht
                  · rw [ht]
                    exact ⟨rfl, rfl⟩
                  · rw [ht]
                    have hy : 1000 ≤ y := by simpa [ht] using hlk2
                    exact q_bool_fit (fun z => hbz ⟨hy, z⟩)
                · rw [hz, q_up_at]
                  cases (show v = _ from hwv)
                  refine ⟨hc9, _, rfl, by rw [List.length_set]; exact hlen, hlen2, fun i' => ⟨fun h => ?_, fun w' h => ?_⟩⟩
                  · by_cases e1 : fi = i'
                    · subst e1
                      rw [List.getElem?_set_self (List.getElem?_eq_some_iff.mp ((q4 _).1 hf)).1]
                      simp [upd]
                    · rw [List.getElem?_set_ne e1]
                      simpa [upd, Ne.symm e1] using (q4 i').1 h
                  · have e1 : fi ≠ i' := by rintro rfl; rw [hf] at h; cases h
                    rw [List.getElem?_set_ne e1]
                    exact (q4 i').2 w' h
            · next w0 z hf =>
              obtain ⟨hv0, hv1⟩ := hwv
              subst hv1
              refine ⟨_, _, hs, rfl, ?_, ?_, hW.refs hkN q1 ?_ ?_⟩
              · obtain ⟨-, v', h5, -⟩ := (q4 fi).2 _ hf
                exact (List.getElem?_eq_some_iff.mp h5).1
              · exact q_ref_fit ((qty fi).2 _ hf) (hrf z hv0)
              · exact q_er_setref hc9 hlen hlen2 q4 hf ⟨hv0, rfl⟩ (Or.inr ⟨z, rfl⟩)
              · exact q_ty_setref qty hf
            · next w0 hf =>
              cases (show v = _ from hwv)
              refine ⟨_, _, hs, rfl, ?_, ?_, hW.refs hkN q1 ?_ ?_⟩
              · obtain ⟨-, v', h5, -⟩ := (q4 fi).2 _ hf
                exact (List.getElem?_eq_some_iff.mp h5).1
              · exact q_ref_fit ((qty fi).2 _ hf) (Or.inl rfl)
              · exact q_er_setref hc9 hlen hlen2 q4 hf rfl (Or.inl rfl)
              · exact q_ty_setref qty hf
            · cases hs
          cases hge
          have hkC : fi < q_N cc := by omega
          have K2 : ∀ (H1 : Heap) (locs1 : List Loc), va_P D vwCl (ws.set k (a, .inr (cc, vs.set fi v))) H1 → va_D A (ws.set k (a, .inr (cc, vs.set fi v))) → va_S A s.heap H1 locs1 → W p l e R s m0 args below meth c H1 locs1 cells slots Q (F0 m0 (pc + 3) ls r) := by
            intro H1 locs1 hP1 hD1 hS1
            have e2 : g'.2.1 = g.2.1 := by rw [hg2]
            have hk2 := kk ad _ H1 locs1 ls r q_ex.rf ⟨hrel, hP1, hD1, hS1, by rw [e2]; exact hl, by rw [e2]; exact hr⟩
            rw [hg2, Nat.sub_self, Nat.sub_self] at hk2
            exact hk2
          by_cases hfin : (q_T cc fi).2.2.2 = true
          · rw [if_pos hfin] at hlk1
            simp only [Bool.and_eq_true, beq_iff_eq, decide_eq_true_eq, List.contains_iff_mem] at hlk1
            obtain ⟨⟨⟨h1, h2⟩, h3⟩, h4⟩ := hlk1
            obtain ⟨-, -, hg⟩ := q_fl0_ok _ h3
            exact va_putF hx hb hts (q_lay cc hc9) (q_tyT cc) (q_tyT_ok cc hc9) (q_nmT cc hc9) hown hE.1 hP hD hS k q2 hvw fi hkC (hgt hg) (fun _ h => h) hfin (hin h1) (by rw [h4, h2]) (q_tyT_ok cc hc9 fi hkC) hty.1 hty.2 hfl hdg K2
          · rw [if_neg hfin] at hlk1
            have hfin2 : (q_T cc fi).2.2.2 = false := by simpa using hfin
            simp only [Bool.or_eq_true, List.contains_iff_mem] at hlk1
            rcases hlk1 with h3 | h3
            · obtain ⟨-, -, hg⟩ := q_fl0_ok _ h3
              exact va_put hx hb hts (q_lay cc hc9) (q_tyT cc) (q_tyT_ok cc hc9) (q_nmT cc hc9) hown hE.1 hP hD hS k q2 hvw fi hkC (hgt hg) (fun _ h => h) hfin2 (q_tyT_ok cc hc9 fi hkC) hty.1 hty.2 hfl hdg K2
            · obtain ⟨-, -, host, hg⟩ := q_fl1_ok _ h3
              exact va_putN hx hb hts (q_lay cc hc9) (q_tyT cc) (q_tyT_ok cc hc9) (q_nmT cc hc9) hown hE.1 hP hD hS k q2 hvw fi hkC (va_Nw.use rfl (hE.2.1 _ hg rfl)) (fun _ h => h) hfin2 (q_tyT_ok cc hc9 fi hkC) hty.1 hty.2 hfl hdg K2
      · cases hs
    · cases hs
  | new idx =>
    dsimp only [q_step] at hs
    split at hs
    · cases hs
    · next hN =>
      cases hs
      have h1 : (q_oc j, idx, x) ∈ q_ncl := by simpa [q_lk] using hlk
      obtain ⟨hx9, g1, g2, g3⟩ := q_ncl_ok _ h1
      have hfl := q_fields_len x hx9
      have e1 : (q_new g (.inr (.inr (x, q_fields x))) (q_fields x).length).2.1 - g.2.1 = 1 := Nat.add_sub_cancel_left ..
      have e2 : (q_new g (.inr (.inr (x, q_fields x))) (q_fields x).length).2.2 - g.2.2 = q_N x := by rw [← hfl]; exact Nat.add_sub_cancel_left ..
      rw [e1] at hc kk
      rw [e2] at hsl kk
      refine va_new hx hb hts (q_lay x hx9) (q_tyT x) (q_tyT_ok x hx9) hown (hgt g1) (hgt g2) (hgt g3) hE.1 hP hD hS hA (q_vw x hx9) (fs := (List.range (q_N x)).map fun i => defaultValue (q_tyT x i)) (q_def_fs x) hc hsl hdg (fun q H1 hP1 hD1 hS1 => ?_)
      obtain ⟨hW1, hex⟩ := hW.new (a := q) (n := (q_fields x).length) (m' := q_zero m g.2.1) (z := .inr (.inr (x, q_fields x))) (e := .inr (x, (List.range (q_N x)).map fun i => defaultValue (q_tyT x i))) (by omega) (q_new_er x hx9 m) (fun k' hk' => by funext i; simp [q_zero, hk']) (q_new_ty x hx9)
      exact kk _ _ H1 locs ls (.ref q :: rst) hex ⟨hW1, hP1, hD1, hS1, hl.mono hex (Nat.le_succ _), ⟨_, _, rfl, ⟨Or.inl (Nat.lt_succ_self _), (va_up_self _ _ _).symm⟩, q_sr.mono hex (Nat.le_succ _) hst⟩⟩
  | newarray ty =>
    cases ty with
    | int =>
      dsimp only [q_step] at hs
      split at hs
      · next a st2 =>
        split at hs
        · cases hs
        · next hN =>
          cases hs
          obtain ⟨r, rfl, hr⟩ := hst.i
          have e1 : (q_new g (.inl a.toNatClampNeg) a.toNatClampNeg).2.1 - g.2.1 = 1 := Nat.add_sub_cancel_left ..
          have e2 : (q_new g (.inl a.toNatClampNeg) a.toNatClampNeg).2.2 - g.2.2 = a.toNatClampNeg := Nat.add_sub_cancel_left ..
          rw [e1] at hc kk
          rw [e2] at hsl kk
          refine va_newa (atype := .int) hx hb (hgt q_ac) rfl hE.1 hP hD hS hA (a0 := (a.toNatClampNeg, .inl fun _ => 0)) (N' := a.toNatClampNeg) (fun _ => rfl) (fun q => hN (Or.inr (Or.inl q))) rfl (by show _ * 4 ≤ _; omega) hc hsl hdg (fun q cA H1 hK1 hP1 hD1 hS1 => ?_)
          have hcA : cA = cI := by
            have k1 := (hE.1.2 0 _ rfl).2
            have k2 := (hK1.2 3 (cA, .int) rfl).2
            exact Option.some.inj (k2.symm.trans k1)
          subst hcA
          obtain ⟨hW1, hex⟩ := hW.new (a := q) (n := a.toNatClampNeg) (m' := q_zero m g.2.1) (z := .inl a.toNatClampNeg) (e := .inl (cA, a.toNatClampNeg, .inl fun _ => 0)) (by omega) (by show _ = _; congr; funext i; simp [q_zero]) (fun k' hk' => by funext i; simp [q_zero, hk']) trivial
          exact kk _ _ H1 locs ls (.ref q :: r) hex ⟨hW1, hP1, hD1, hS1, hl.mono hex (Nat.le_succ _), ⟨_, _, rfl, ⟨Or.inl (Nat.lt_succ_self _), (va_up_self _ _ _).symm⟩, q_sr.mono hex (Nat.le_succ _) hr⟩⟩
      · cases hs
    | _ => cases hs
  | anewarray idx =>
    dsimp only [q_step] at hs
    split at hs
    · next a st2 =>
      split at hs
      · cases hs
      · next hN =>
        cases hs
        obtain ⟨r, rfl, hr⟩ := hst.i
        simp only [q_lk, Bool.and_eq_true, Bool.or_eq_true, beq_iff_eq, List.contains_iff_mem] at hlk
        obtain ⟨h1, h46⟩ := hlk
        obtain ⟨hx9, g1, g2, g3⟩ := q_ncl_ok _ h1
        have e1 : (q_new g (.inr (.inl (x, a.toNatClampNeg, fun _ => none))) a.toNatClampNeg).2.1 - g.2.1 = 1 := Nat.add_sub_cancel_left ..
        have e2 : (q_new g (.inr (.inl (x, a.toNatClampNeg, fun _ => none))) a.toNatClampNeg).2.2 - g.2.2 = a.toNatClampNeg := Nat.add_sub_cancel_left ..
        rw [e1] at hc kk
        rw [e2] at hsl kk
        have hAO : va_AO (q_cn x) s := by
          rcases h46 with rfl | rfl
          · exact hE.2.2.1
          · exact hE.2.2.2.1
        refine va_newq hx hb hown (hgt g1) hAO hE.1 hP hD hS hA (N' := a.toNatClampNeg) (fun q => hN (Or.inr (Or.inl q))) rfl (by omega) hc hsl hdg (fun q cA H1 hK1 hP1 hD1 hS1 => ?_)
        have hcA : cA = cR x := by
          have k2 := (hK1.2 3 (cA, .object (q_cn x)) rfl).2
          obtain ⟨_, _, _, _, _, k3⟩ := k2
          rcases h46 with rfl | rfl
          · obtain ⟨_, _, _, _, _, k1⟩ := (hE.1.2 1 _ rfl).2
            exact Option.some.inj (k3.symm.trans k1)
          · obtain ⟨_, _, _, _, _, k1⟩ := (hE.1.2 2 _ rfl).2
            exact Option.some.inj (k3.symm.trans k1)
        subst hcA
        obtain ⟨hW1, hex⟩ := hW.new (a := q) (n := a.toNatClampNeg) (m' := m) (z := .inr (.inl (x, a.toNatClampNeg, fun _ => none))) (e := .inl (cR x, a.toNatClampNeg, .inr (.inr (.inr (.inr fun _ => none))))) (by omega) ⟨_, rfl, h46, fun _ => rfl⟩ (fun _ _ => rfl) trivial
        exact kk _ _ H1 locs ls (.ref q :: r) hex ⟨hW1, hP1, hD1, hS1, hl.mono hex (Nat.le_succ _), ⟨_, _, rfl, ⟨Or.inl (Nat.lt_succ_self _), (va_up_self _ _ _).symm⟩, q_sr.mono hex (Nat.le_succ _) hr⟩⟩
    · cases hs
  | invokestatic idx =>
    dsimp only [q_step] at hs
    split at hs
    · split at hs
      · next hsm =>
        obtain ⟨r, rfl, hr⟩ := hst.ii
        have hsum := q_sm_le hrf hr
        split at hs
        · next hx1 =>
          cases hs
          have h1 : (q_oc j, idx, x) ∈ q_mm := by simpa [q_lk, hx1] using hlk
          have hM := q_mm_ok _ h1
          rw [hx1] at hM
          exact va_mmax hx hb (hml.trans hl.1.symm) hown (hgt hM) (hgt q_mmax.1) (hgt q_mmax.2.1) (hgt q_mmax.2.2) hR.1 (by omega) (by omega) (by omega) hdg (q_K hW hP hD hS kk _ _ hl ⟨_, _, rfl, rfl, hr⟩)
        · next hx0 =>
          split at hs
          · next hx1 =>
            cases hs
            have h1 : (q_oc j, idx, x) ∈ q_mm := by simpa [q_lk, hx1] using hlk
            have hM := q_mm_ok _ h1
            rw [hx1] at hM
            exact va_mmin hx hb (hml.trans hl.1.symm) hown (hgt hM) (hgt q_mmin.1) (hgt q_mmin.2.1) (hgt q_mmin.2.2) hR.1 (by omega) (by omega) (by omega) hdg (q_K hW hP hD hS kk _ _ hl ⟨_, _, rfl, rfl, hr⟩)
          · cases hs
      · cases hs
    · cases hs
  | invokespecial idx =>
    dsimp only [q_step] at hs
    split at hs
    · next k st2 =>
      split at hs
      · next hx1 =>
        cases hs
        obtain ⟨r, rfl, hv, hr⟩ := hst.r
        have hsum := q_sm_le hrf hr
        have h1 : (q_oc j, idx) ∈ q_ol := by simpa [q_lk, hx1.1] using hlk
        have hne : k ≠ 950 := q_ne9 hx1.2.2
        obtain ⟨b, q4⟩ := q_nn hW hE.2.2.2.2.2.2.2.2 hv hne
        rw [q4]
        exact W.objInit hx hb hown (hgt (q_ol_ok _ h1)) (hgt q_oi1) (hgt q_oi2) rfl (by show ls.size = _; rw [hml, hl.1]) rfl hdg hR.1 (by show 2 * 0 + _ + 12 ≤ _; omega) (q_K hW hP hD hS kk _ _ hl hr)
      · cases hs
    · cases hs
  | areturn => cases hs
  | athrow => cases hs
  | bastore => cases hs
  | caload => cases hs
  | castore => cases hs
  | checkcast _ => cases hs
  | d2f => cases hs
  | d2i => cases hs
  | d2l => cases hs
  | dadd => cases hs
  | daload => cases hs
  | dastore => cases hs
  | dcmp _ => cases hs
  | dconst _ => cases hs
  | ddiv => cases hs
  | dload _ => cases hs
  | dload_n _ => cases hs
  | dmul => cases hs
  | dneg => cases hs
  | drem => cases hs
  | dreturn => cases hs
  | dstore _ => cases hs
  | dstore_n _ => cases hs
  | dsub => cases hs
  | dup_x1 => cases hs
  | dup_x2 => cases hs
  | dup2_x1 => cases hs
  | dup2_x2 => cases hs
  | f2d => cases hs
  | f2i => cases hs
  | f2l => cases hs
  | fadd => cases hs
  | faload => cases hs
  | fastore => cases hs
  | fcmp _ => cases hs
  | fconst _ => cases hs
  | fdiv => cases hs
  | fload _ => cases hs
  | fload_n _ => cases hs
  | fmul => cases hs
  | fneg => cases hs
  | frem => cases hs
  | freturn => cases hs
  | fstore _ => cases hs
  | fstore_n _ => cases hs
  | fsub => cases hs
  | goto_w _ => cases hs
  | i2d => cases hs
  | i2f => cases hs
  | if_acmp _ _ => cases hs
  | instanceof _ => cases hs
  | invokedynamic _ => cases hs
  | invokeinterface _ _ => cases hs
  | invokevirtual _ => cases hs
  | ireturn => cases hs
  | jsr _ => cases hs
  | jsr_w _ => cases hs
  | l2d => cases hs
  | l2f => cases hs
  | laload => cases hs
  | land => cases hs
  | lastore => cases hs
  | lneg => cases hs
  | lor => cases hs
  | lreturn => cases hs
  | lshl => cases hs
  | lshr => cases hs
  | lsub => cases hs
  | lushr => cases hs
  | lxor => cases hs
  | monitorenter => cases hs
  | monitorexit => cases hs
  | multianewarray _ _ => cases hs
  | nop => cases hs
  | pop2 => cases hs
  | putstatic _ => cases hs
  | ret _ => cases hs
  | return_ => cases hs
  | saload => cases hs
  | sastore => cases hs
  | swap => cases hs
end QS
