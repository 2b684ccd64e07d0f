/-! ===== what lies at the places from 900 on ===== -/
def q_slens : List Nat := [5, 5, 4, 2, 3, 3, 4, 5, 6, 5, 5, 5]
def q_sbyts : List (List Int32) := [[112, 108, 97, 121, 115], [99, 111, 115, 116, 115], [111, 119, 101, 115], [111, 114], [97, 110, 100], [110, 111, 116], [109, 111, 114, 101], [97, 112, 97, 114, 116], [109, 97, 116, 116, 101, 114], [110, 105, 103, 104, 116], [111, 102, 116, 101, 110], [112, 117, 114, 115, 101]]
def q_stabs : List (List Int32) := [[60, -1, 3, -14, -12, -20, 10, -20, 5, -20], [-1, 0, 0, 1, 2, 0], [1, 1, 2, 6, 24, 120, 720], [1, 0, 1, 2, 9, 44, 265]]
def q_xs (L k : Nat) : q_Sh := if k = 905 then .inl L else if k < 904 then .inl (q_stabs.getD (k - 900) []).length else if k < 910 then .inr (.inr (99, [])) else if k < 922 then .inr (.inr (9, [some (.ref (k + 20)), none])) else if k < 930 then .inr (.inr (99, [])) else if k < 942 then .inl (q_slens.getD (k - 930) 0) else .inr (.inr (99, []))
def q_xm (xs : Nat → Int32) (k i : Nat) : Int32 := if k = 905 then xs i else if k < 904 then (q_stabs.getD (k - 900) []).getD i 0 else if k < 930 then 0 else (q_sbyts.getD (k - 930) []).getD i 0
/-! ===== what a cell, a stack, a row of locals is of the small machine's ===== -/
def q_vr (ad : Nat → Value) (N : Nat) (w v : Value) : Prop := match w with
  | .ref k => (k < N ∨ 900 ≤ k) ∧ v = ad k
  | w => v = w
def q_or (ad : Nat → Value) (N : Nat) (o r : Option Nat) : Prop := match o with
  | none => r = none
  | some z => z < N ∧ ∃ a, ad z = .ref a ∧ r = some a
def q_er (ad : Nat → Value) (N : Nat) (cI : ClassId) (cR : Nat → ClassId) (z : q_Sh) (f : Nat → Int32) (e : va_E) : Prop := match z with
  | .inl n => e = .inl (cI, n, .inl f)
  | .inr (.inl (c, n, h)) => ∃ h' : Nat → Option Nat, e = .inl (cR c, n, .inr (.inr (.inr (.inr h')))) ∧ (c = 4 ∨ c = 6) ∧ ∀ i, q_or ad N (h i) (h' i)
  | .inr (.inr (c, fs)) => c < 9 ∧ ∃ vs : List Value, e = .inr (c, vs) ∧ vs.length = fs.length ∧ fs.length = q_N c ∧ ∀ i : Nat, (fs[i]? = some none → vs[i]? = some (.int (f i))) ∧ ∀ w, fs[i]? = some (some w) → (w = .null ∨ ∃ z, w = .ref z) ∧ ∃ v, vs[i]? = some v ∧ q_vr ad N w v
/-- a shape's fields are as the class's types say -/
def q_ty (z : q_Sh) : Prop := match z with
  | .inr (.inr (c, fs)) => ∀ i : Nat, (fs[i]? = some none → q_tyT c i = .int ∨ q_tyT c i = .boolean) ∧ ∀ w, fs[i]? = some (some w) → (∃ n, q_tyT c i = .object n) ∨ ∃ t, q_tyT c i = .array t
  | _ => True
def q_wr (L : Nat) (xs : Nat → Int32) (ex ad : Nat → Value) (cI : ClassId) (cR : Nat → ClassId) (g : q_G) (m : q_M) (ws : va_W) : Prop :=
  ws.length = g.2.1 ∧ g.2.1 ≤ 900 ∧ (∀ k, k < g.2.1 → ∃ a e, ad k = .ref a ∧ ws[k]? = some (a, e) ∧ q_er ad g.2.1 cI cR (g.1 k) (m k) e ∧ q_ty (g.1 k)) ∧
  (∀ k, 900 ≤ k → ad k = ex k ∧ g.1 k = q_xs L k ∧ ∀ i, m k i = q_xm xs k i)
def q_ex (ad ad' : Nat → Value) (N : Nat) : Prop := ∀ k, k < N ∨ 900 ≤ k → ad' k = ad k
def q_sr (ad : Nat → Value) (N : Nat) : List Value → List Value → Prop
  | [], r => r = []
  | w :: st, r => ∃ v r', r = v :: r' ∧ q_vr ad N w v ∧ q_sr ad N st r'
def q_lr (nL : Nat) (ad : Nat → Value) (N : Nat) (lv : List (Option Value)) (ls : Array Slot) : Prop := ls.size = nL ∧ lv.length = nL ∧ lv_wf ls ∧ ∀ (i : Nat) (w : Value), lv[i]? = some (some w) → ∃ v, ls[i]? = some (.val v) ∧ q_vr ad N w v
def q_ov (ad : Nat → Value) (N : Nat) (o r : Option Value) : Prop := match o with
  | none => r = none
  | some w => ∃ v, r = some v ∧ q_vr ad N w v
def q_St (L : Nat) (xs : Nat → Int32) (ex : Nat → Value) (D : va_G) (cI : ClassId) (cR : Nat → ClassId) (A : Nat → Prop) (s : State) (nL : Nat) (g : q_G) (m : q_M) (lv : List (Option Value)) (st : List Value) (ad : Nat → Value) (ws : va_W) (H : Heap) (locs : List Loc) (ls : Array Slot) (rst : List Value) : Prop :=
  q_wr L xs ex ad cI cR g m ws ∧ va_P D vwCl ws H ∧ va_D A ws ∧ va_S A s.heap H locs ∧ q_lr nL ad g.2.1 lv ls ∧ q_sr ad g.2.1 st rst
theorem q_ex.rf {ad : Nat → Value} {N : Nat} : q_ex ad ad N := fun _ _ => rfl
theorem q_ex.tr {ad ad' ad2 : Nat → Value} {N N' : Nat} (h : q_ex ad ad' N) (h2 : q_ex ad' ad2 N') (hN : N ≤ N') : q_ex ad ad2 N := fun k hk => (h2 k (hk.imp (fun h => Nat.lt_of_lt_of_le h hN) id)).trans (h k hk)
theorem q_vr.mono {ad ad' : Nat → Value} {N N' : Nat} {w v : Value} (h : q_vr ad N w v) (he : q_ex ad ad' N) (hN : N ≤ N') : q_vr ad' N' w v := by
  cases w with
  | ref k =>
    obtain ⟨h1, h2⟩ := h
    exact ⟨h1.imp (fun h => Nat.lt_of_lt_of_le h hN) id, by rw [he k h1]; exact h2⟩
  | _ => exact h
theorem q_or.mono {ad ad' : Nat → Value} {N N' : Nat} {w v : Option Nat} (h : q_or ad N w v) (he : q_ex ad ad' N) (hN : N ≤ N') : q_or ad' N' w v := by
  cases w with
  | none => exact h
  | some z =>
    obtain ⟨h1, a, h2, h3⟩ := h
    exact ⟨Nat.lt_of_lt_of_le h1 hN, a, by rw [he z (Or.inl h1)]; exact h2, h3⟩
theorem q_er.mono {ad ad' : Nat → Value} {N N' : Nat} {cI : ClassId} {cR : Nat → ClassId} {z : q_Sh} {f : Nat → Int32} {e : va_E} (h : q_er ad N cI cR z f e) (he : q_ex ad ad' N) (hN : N ≤ N') : q_er ad' N' cI cR z f e := by
  rcases z with n | ⟨c, n, hh⟩ | ⟨c, fs⟩
  · exact (show e = _ from h)
  · obtain ⟨h', h1, h2, h3⟩ := h
    exact ⟨h', h1, h2, fun i => (h3 i).mono he hN⟩
  · obtain ⟨hc, vs, h1, h2, h2b, h3⟩ := h
    refine ⟨hc, vs, h1, h2, h2b, fun i => ⟨(h3 i).1, fun w hw => ?_⟩⟩
    obtain ⟨h5, v, h6, h7⟩ := (h3 i).2 w hw
    exact ⟨h5, v, h6, h7.mono he hN⟩
theorem q_sr.mono {ad ad' : Nat → Value} {N N' : Nat} (he : q_ex ad ad' N) (hN : N ≤ N') : ∀ {st r : List Value}, q_sr ad N st r → q_sr ad' N' st r
  | [], _, h => h
  | _ :: _, _, ⟨v, r', h1, h2, h3⟩ => ⟨v, r', h1, h2.mono he hN, q_sr.mono he hN h3⟩
theorem q_lr.mono {nL : Nat} {ad ad' : Nat → Value} {N N' : Nat} {lv : List (Option Value)} {ls : Array Slot} (h : q_lr nL ad N lv ls) (he : q_ex ad ad' N) (hN : N ≤ N') : q_lr nL ad' N' lv ls := by
  obtain ⟨h1, h2, h3, h4⟩ := h
  refine ⟨h1, h2, h3, fun i w hw => ?_⟩
  obtain ⟨v, h5, h6⟩ := h4 i w hw
  exact ⟨v, h5, h6.mono he hN⟩
theorem q_vr.cat {ad : Nat → Value} {N : Nat} {w v : Value} (h : q_vr ad N w v) (hr : ∀ k, k < N ∨ 900 ≤ k → (ad k = .null ∨ ∃ a, ad k = .ref a)) : v.category = w.category := by
  cases w with
  | ref k =>
    obtain ⟨h1, h2⟩ := h
    rw [h2]
    rcases hr k h1 with q | ⟨a, q⟩ <;> rw [q] <;> rfl
  | _ => rw [show v = _ from h]
/-! the environment: the classes, the nest mates' words, the tables, the script, the texts -/
def q_isN (w : Cond) : Bool := match w with
  | .methodLinkNest .. => true
  | .fieldLinkNest .. => true
  | _ => false
def q_Env (L : Nat) (xs : Nat → Int32) (ex : Nat → Value) (D : va_G) (cI : ClassId) (cR : Nat → ClassId) (A : Nat → Prop) (U : State) : Prop :=
  va_K D vwCl [(cI, .int), (cR 4, .object RX4), (cR 6, .object RX6)] U ∧
  (∀ w ∈ lw_tbl, q_isN w = true → va_Nw w U) ∧ va_AO RX4 U ∧ va_AO RX6 U ∧
  (∀ k n, 900 ≤ k → q_xs L k = .inl n → ∃ t, ex k = .ref t ∧ va_T (if k < 930 then .int else .byte) t n (fun j => .int (q_xm xs k j)) A U U.heap) ∧
  (∀ k, 910 ≤ k → k < 922 → ∃ a, ex k = .ref a ∧ va_O "java/lang/String" a A U U.heap ∧ va_OF "java/lang/String" "coder" "B" (.int 0) a A U U.heap ∧ va_OF "java/lang/String" "value" "[B" (ex (k + 20)) a A U U.heap) ∧
  (∀ q ∈ q_strs, ∃ a, ex q.1.2.2 = .ref a ∧ vk_R (q_cn q.1.1) q.1.2.1 q.2 a U) ∧
  (∀ q ∈ q_tl, va_Z q.2.1 q.2.2.1 q.2.2.2 (if q.1.2.2.1 = 0 then .int (Int32.ofInt q.1.2.2.2) else ex q.1.2.2.1) A U U.heap) ∧
  (∀ k, 900 ≤ k → (ex k = .null ∧ k = 950) ∨ ∃ a, ex k = .ref a)
theorem q_Env.mv {L : Nat} {xs : Nat → Int32} {ex : Nat → Value} {D : va_G} {cI : ClassId} {cR : Nat → ClassId} {A B : Nat → Prop} {u U : State} (h : q_Env L xs ex D cI cR A u) (hal : u.vm.Alike U.vm) (hA : ∀ q, B q → A q) (hk : ∀ a : Nat, a < u.heap.size → ¬ A a → U.heap[a]? = u.heap[a]?)
    (hN : ∀ w, q_isN w = true → va_Nw w u → va_Nw w U) (hR : ∀ own k tx a, vk_R own k tx a u → vk_R own k tx a U) : q_Env L xs ex D cI cR B U := by
  obtain ⟨h1, h2, h3, h4, h5, h6, h7, h8, h9⟩ := h
  refine ⟨va_K.moved hal h1, fun w hw hn => hN w hn (h2 w hw hn), va_AO.moved hal h3, va_AO.moved hal h4, fun k n hk1 hk2 => ?_, fun k hk1 hk2 => ?_, fun q hq => ?_, fun q hq => ?_, h9⟩
  · obtain ⟨t, q1, q2⟩ := h5 k n hk1 hk2
    exact ⟨t, q1, va_T.moved hal ((q2.kept hk).narrow hA)⟩
  · obtain ⟨a, q1, q2, q3, q4⟩ := h6 k hk1 hk2
    exact ⟨a, q1, va_O.moved hal ((q2.kept hk).narrow hA), va_OF.moved hal ((q3.kept hk).narrow hA), va_OF.moved hal ((q4.kept hk).narrow hA)⟩
  · obtain ⟨a, q1, q2⟩ := h7 q hq
    exact ⟨a, q1, hR _ _ _ _ q2⟩
  · exact va_Z.moved hal (((h8 q hq).kept hk).narrow hA)
theorem q_nw_warm {s U : State} (hW : s.WarmedH U.vm) : ∀ w, q_isN w = true → va_Nw w s → va_Nw w U := by
  intro w hw hz
  cases w <;> first | exact va_Nw.warmM hW hz | exact va_Nw.warmF hW hz | (simp [q_isN] at hw)
theorem q_nw_same {u U : State} (hv : u.vm = U.vm) : ∀ w, q_isN w = true → va_Nw w u → va_Nw w U := by
  intro w hw hz
  cases w <;> first | exact va_Nw.same rfl hv hz | (simp [q_isN] at hw)
theorem q_Env.at {L : Nat} {xs : Nat → Int32} {ex : Nat → Value} {D : va_G} {cI : ClassId} {cR : Nat → ClassId} {A B : Nat → Prop} {s U : State} {H : Heap} {locs : List Loc} (h : q_Env L xs ex D cI cR A s) (hS : va_S A s.heap H locs) (hA : ∀ q, B q → A q) (hU : U.heap = H) (hW : s.WarmedH U.vm) : q_Env L xs ex D cI cR B U :=
  h.mv hW.alike hA (fun a ha hn => by rw [hU]; exact hS.2.1 a ha hn) (q_nw_warm hW) (fun _ _ _ _ z => vk_R.warm hW z)
theorem q_Env.blind {L : Nat} {xs : Nat → Int32} {ex : Nat → Value} {D : va_G} {cI : ClassId} {cR : Nat → ClassId} {A : Nat → Prop} {U : State} (h : q_Env L xs ex D cI cR A U) (g : JFrame) (mk : MethodId) (a : Array Value) : q_Env L xs ex D cI cR A (U.calling g mk a) :=
  h.mv (Vm.Alike.refl U.vm) (fun _ q => q) (fun _ _ _ => rfl) (q_nw_same rfl) (fun _ _ _ _ z => vk_R.same rfl z)
/-! reading, writing, making -/
theorem q_sr.cons {ad : Nat → Value} {N : Nat} {w : Value} {st r : List Value} (h : q_sr ad N (w :: st) r) : ∃ v r', r = v :: r' ∧ q_vr ad N w v ∧ q_sr ad N st r' := h
theorem q_vri {ad : Nat → Value} {N : Nat} {x : Int32} {v : Value} (h : q_vr ad N (.int x) v) : v = .int x := h
theorem q_wr.ref {L : Nat} {xs : Nat → Int32} {ex ad : Nat → Value} {cI : ClassId} {cR : Nat → ClassId} {g : q_G} {m : q_M} {ws : va_W} (h : q_wr L xs ex ad cI cR g m ws) (hx : ∀ k, 900 ≤ k → (ex k = .null ∧ k = 950) ∨ ∃ a, ex k = .ref a) : ∀ k, k < g.2.1 ∨ 900 ≤ k → (ad k = .null ∨ ∃ a, ad k = .ref a) := by
  intro k hk
  rcases hk with hk | hk
  · obtain ⟨a, e, h1, -⟩ := h.2.2.1 k hk
    exact Or.inr ⟨a, h1⟩
  · rw [(h.2.2.2 k hk).1]
    exact (hx k hk).imp (fun h => h.1) id
theorem q_up_at (m : q_M) (k i : Nat) (x : Int32) : q_up m k i x k = upd (m k) i x := by
  funext j
  simp [q_up, upd]
theorem q_up_ne (m : q_M) {k k' : Nat} (i : Nat) (x : Int32) (h : k' ≠ k) : q_up m k i x k' = m k' := by
  funext j
  simp [q_up, h]
/-- a cell's ints change -/
theorem q_wr.ints {L : Nat} {xs : Nat → Int32} {ex ad : Nat → Value} {cI : ClassId} {cR : Nat → ClassId} {g : q_G} {m m' : q_M} {ws : va_W} (h : q_wr L xs ex ad cI cR g m ws) {k a : Nat} {e : va_E} (hk : k < g.2.1) (ha : ad k = .ref a) (he : q_er ad g.2.1 cI cR (g.1 k) (m' k) e) (hm : ∀ k', k' ≠ k → m' k' = m k') : q_wr L xs ex ad cI cR g m' (ws.set k (a, e)) := by
  obtain ⟨h1, h2, h3, h4⟩ := h
  refine ⟨by rw [List.length_set]; exact h1, h2, fun k' hk' => ?_, fun k' hk' => ?_⟩
  · by_cases q : k' = k
    · subst q
      exact ⟨a, e, ha, by rw [List.getElem?_set_self (by omega)], he, (h3 k' hk').elim fun _ z => z.elim fun _ z => z.2.2.2⟩
    · obtain ⟨a', e', q1, q2, q3, q4⟩ := h3 k' hk'
      exact ⟨a', e', q1, by rw [List.getElem?_set_ne (Ne.symm q)]; exact q2, by rw [hm k' q]; exact q3, q4⟩
  · obtain ⟨q1, q2, q3⟩ := h4 k' hk'
    exact ⟨q1, q2, fun i => by rw [hm k' (by omega)]; exact q3 i⟩
/-- a cell's references change -/
theorem q_wr.refs {L : Nat} {xs : Nat → Int32} {ex ad : Nat → Value} {cI : ClassId} {cR : Nat → ClassId} {g : q_G} {m : q_M} {ws : va_W} (h : q_wr L xs ex ad cI cR g m ws) {k a : Nat} {z : q_Sh} {e : va_E} (hk : k < g.2.1) (ha : ad k = .ref a) (he : q_er ad g.2.1 cI cR z (m k) e) (ht : q_ty z) : q_wr L xs ex ad cI cR (q_sh g k z) m (ws.set k (a, e)) := by
  obtain ⟨h1, h2, h3, h4⟩ := h
  refine ⟨by rw [List.length_set]; exact h1, h2, fun k' hk' => ?_, fun k' hk' => ?_⟩
  · by_cases q : k' = k
    · subst q
      exact ⟨a, e, ha, by rw [List.getElem?_set_self (by omega)], by show q_er ad g.2.1 cI cR (va_up g.1 k' z k') _ _; rw [va_up_self]; exact he, by show q_ty (va_up g.1 k' z k'); rw [va_up_self]; exact ht⟩
    · obtain ⟨a', e', q1, q2, q3, q4⟩ := h3 k' hk'
      exact ⟨a', e', q1, by rw [List.getElem?_set_ne (Ne.symm q)]; exact q2, by show q_er ad g.2.1 cI cR (va_up g.1 k z k') _ _; rw [va_up_ne _ _ q]; exact q3, by show q_ty (va_up g.1 k z k'); rw [va_up_ne _ _ q]; exact q4⟩
  · obtain ⟨q1, q2, q3⟩ := h4 k' hk'
    exact ⟨q1, by show va_up g.1 k z k' = _; rw [va_up_ne _ _ (by omega)]; exact q2, q3⟩
/-- a new cell -/
theorem q_wr.new {L : Nat} {xs : Nat → Int32} {ex ad : Nat → Value} {cI : ClassId} {cR : Nat → ClassId} {g : q_G} {m m' : q_M} {ws : va_W} (h : q_wr L xs ex ad cI cR g m ws) {a n : Nat} {z : q_Sh} {e : va_E} (hk : g.2.1 < 900) (he : q_er (va_up ad g.2.1 (.ref a)) (g.2.1 + 1) cI cR z (m' g.2.1) e) (hm : ∀ k', k' ≠ g.2.1 → m' k' = m k') (ht : q_ty z) : q_wr L xs ex (va_up ad g.2.1 (.ref a)) cI cR (q_new g z n) m' (ws ++ [(a, e)]) ∧ q_ex ad (va_up ad g.2.1 (.ref a)) g.2.1 := by
  obtain ⟨h1, h2, h3, h4⟩ := h
  have hx : q_ex ad (va_up ad g.2.1 (.ref a)) g.2.1 := fun k hk => va_up_ne _ _ (by omega)
  refine ⟨⟨by rw [List.length_append, h1]; rfl, hk, fun k' hk' => ?_, fun k' hk' => ?_⟩, hx⟩
  · have hk2 : k' < g.2.1 + 1 := hk'
    by_cases q : k' = g.2.1
    · subst q
      refine ⟨a, e, va_up_self _ _ _, by rw [List.getElem?_append_right (by omega), h1, Nat.sub_self]; rfl, ?_⟩
      show q_er _ _ cI cR (va_up g.1 g.2.1 z g.2.1) _ _ ∧ q_ty (va_up g.1 g.2.1 z g.2.1)
      rw [va_up_self]
      exact ⟨he, ht⟩
    · obtain ⟨a', e', q1, q2, q3, q4⟩ := h3 k' (by omega)
      refine ⟨a', e', by rw [va_up_ne _ _ q]; exact q1, by rw [List.getElem?_append_left (by omega)]; exact q2, ?_⟩
      show q_er _ _ cI cR (va_up g.1 g.2.1 z k') _ _ ∧ q_ty (va_up g.1 g.2.1 z k')
      rw [va_up_ne _ _ q, hm k' q]
      exact ⟨q3.mono hx (Nat.le_succ _), q4⟩
  · obtain ⟨q1, q2, q3⟩ := h4 k' hk'
    have hne : k' ≠ g.2.1 := by omega
    exact ⟨by rw [va_up_ne _ _ hne]; exact q1, by show va_up g.1 g.2.1 z k' = _; rw [va_up_ne _ _ hne]; exact q2, fun i => by rw [hm k' hne]; exact q3 i⟩
/-! locals -/
def q_lst (ls : Array Slot) : List (Nat × Value) := (List.range ls.size).filterMap fun (k : Nat) => match ls[k]? with
  | some (.val v) => some (k, v)
  | _ => none
theorem q_lst_in {ls : Array Slot} {k : Nat} {v : Value} : (k, v) ∈ q_lst ls ↔ ls[k]? = some (.val v) := by
  unfold q_lst
  rw [List.mem_filterMap]
  constructor
  · rintro ⟨a, -, h⟩
    split at h
    · next w hw =>
      cases h
      exact hw
    · cases h
  · intro h
    refine ⟨k, List.mem_range.mpr (Array.getElem?_eq_some_iff.mp h).1, ?_⟩
    rw [h]
theorem q_lst_has {ls : Array Slot} {nL : Nat} (h1 : ls.size = nL) (h2 : lv_wf ls) : lv_has ls nL (q_lst ls) := ⟨h1, h2, fun q hq => q_lst_in.mp (show (q.1, q.2) ∈ q_lst ls from hq)⟩
theorem q_c1_cat {w : Value} (h : q_c1 (some w) = true) : ¬ w.category = 2 := by
  cases w <;> simp_all [q_c1, Value.category]
theorem q_lset {nL : Nat} {ad : Nat → Value} {N : Nat} {lv : List (Option Value)} {ls ls' : Array Slot} {i : Nat} {w v : Value} (h : q_lr nL ad N lv ls) (hr : ∀ k, k < N ∨ 900 ≤ k → (ad k = .null ∨ ∃ a, ad k = .ref a)) (hc : q_cl lv i = true) (hv : q_vr ad N w v)
    (h' : lv_has ls' nL ((i, v) :: (q_lst ls).filter (fun q => !(q.1 == i) && !(q.1 + 1 == i && q.2.category == 2)))) : q_lr nL ad N (lv.set i (some w)) ls' := by
  obtain ⟨h1, h2, h3, h4⟩ := h
  refine ⟨h'.1, by rw [List.length_set]; exact h2, h'.2.1, fun k w' hk => ?_⟩
  by_cases q : i = k
  · subst q
    have hl : i < lv.length := by
      have := (List.getElem?_eq_some_iff.mp hk).1
      rwa [List.length_set] at this
    rw [List.getElem?_set_self hl] at hk
    cases hk
    exact ⟨v, h'.2.2 _ List.mem_cons_self, hv⟩
  · rw [List.getElem?_set_ne q] at hk
    obtain ⟨v', q1, q2⟩ := h4 k w' hk
    refine ⟨v', h'.2.2 (k, v') (List.mem_cons_of_mem _ (List.mem_filter.mpr ⟨q_lst_in.mpr q1, ?_⟩)), q2⟩
    have e1 : (k == i) = false := by simpa using Ne.symm q
    simp only [e1, Bool.not_false, Bool.true_and]
    by_cases e2 : k + 1 = i
    · subst e2
      simp only [q_cl] at hc
      rw [hk] at hc
      have hcat := q2.cat hr
      have := q_c1_cat hc
      simp [hcat, this]
    · simp [e2]
theorem q_lset2 {nL : Nat} {ad : Nat → Value} {N : Nat} {lv : List (Option Value)} {ls ls' : Array Slot} {i : Nat} {w v : Value} (h : q_lr nL ad N lv ls) (hr : ∀ k, k < N ∨ 900 ≤ k → (ad k = .null ∨ ∃ a, ad k = .ref a)) (hc : q_cl lv i = true) (hv : q_vr ad N w v) (hi : i + 1 < nL)
    (h' : lv_has ls' nL ((i, v) :: (q_lst ls).filter (fun q => !(q.1 == i) && (!(q.1 == i + 1) && !(q.1 + 1 == i && q.2.category == 2))))) : q_lr nL ad N ((lv.set i (some w)).set (i + 1) none) ls' := by
  obtain ⟨h1, h2, h3, h4⟩ := h
  refine ⟨h'.1, by rw [List.length_set, List.length_set]; exact h2, h'.2.1, fun k w' hk => ?_⟩
  by_cases q3 : i + 1 = k
  · subst q3
    rw [List.getElem?_set_self (by rw [List.length_set]; omega)] at hk
    cases hk
  · rw [List.getElem?_set_ne q3] at hk
    by_cases q : i = k
    · subst q
      rw [List.getElem?_set_self (by omega)] at hk
      cases hk
      exact ⟨v, h'.2.2 _ List.mem_cons_self, hv⟩
    · rw [List.getElem?_set_ne q] at hk
      obtain ⟨v', q1, q2⟩ := h4 k w' hk
      refine ⟨v', h'.2.2 (k, v') (List.mem_cons_of_mem _ (List.mem_filter.mpr ⟨q_lst_in.mpr q1, ?_⟩)), q2⟩
      have e1 : (k == i) = false := by simpa using Ne.symm q
      have e3 : (k == i + 1) = false := by simpa using Ne.symm q3
      simp only [e1, e3, Bool.not_false, Bool.true_and]
      by_cases e2 : k + 1 = i
      · subst e2
        simp only [q_cl] at hc
        rw [hk] at hc
        have hcat := q2.cat hr
        have := q_c1_cat hc
        simp [hcat, this]
      · simp [e2]
