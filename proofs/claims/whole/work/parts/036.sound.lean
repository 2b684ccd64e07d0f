/-! ===== a run of the small machine is a run of the machine ===== -/
theorem q_sr.len {ad : Nat → Value} {N : Nat} : ∀ {st r : List Value}, q_sr ad N st r → r.length = st.length
  | [], r, h => by rw [show r = [] from h]
  | _ :: st, r, ⟨v, r', h1, _, h3⟩ => by rw [h1, List.length_cons, List.length_cons, q_sr.len h3]
theorem q_sr.take {ad : Nat → Value} {N : Nat} : ∀ (n : Nat) {st r : List Value}, q_sr ad N st r → q_sr ad N (st.take n) (r.take n)
  | 0, _, _, _ => rfl
  | n + 1, [], r, h => by rw [show r = [] from h]; rfl
  | n + 1, w :: st, r, ⟨v, r', h1, h2, h3⟩ => by rw [h1]; exact ⟨v, _, rfl, h2, q_sr.take n h3⟩
theorem q_sr.drop {ad : Nat → Value} {N : Nat} : ∀ (n : Nat) {st r : List Value}, q_sr ad N st r → q_sr ad N (st.drop n) (r.drop n)
  | 0, _, _, h => h
  | n + 1, [], r, h => by rw [show r = [] from h]; rfl
  | n + 1, w :: st, r, ⟨v, r', h1, h2, h3⟩ => by rw [h1]; exact q_sr.drop n h3
theorem q_sr.app {ad : Nat → Value} {N : Nat} : ∀ {a b ra rb : List Value}, q_sr ad N a ra → q_sr ad N b rb → q_sr ad N (a ++ b) (ra ++ rb)
  | [], _, ra, _, h, h2 => by rw [show ra = [] from h]; exact h2
  | _ :: _, _, _, _, ⟨v, r', h1, h2, h3⟩, h4 => by rw [h1]; exact ⟨v, _, rfl, h2, q_sr.app h3 h4⟩
theorem q_sr.rev {ad : Nat → Value} {N : Nat} : ∀ {st r : List Value}, q_sr ad N st r → q_sr ad N st.reverse r.reverse
  | [], r, h => by rw [show r = [] from h]; rfl
  | _ :: _, _, ⟨v, r', h1, h2, h3⟩ => by rw [h1, List.reverse_cons, List.reverse_cons]; exact q_sr.app (q_sr.rev h3) ⟨v, [], rfl, h2, rfl⟩
theorem q_sr.push {ad : Nat → Value} {N : Nat} {v rv : Option Value} {st r : List Value} (h : q_ov ad N v rv) (hs : q_sr ad N st r) : q_sr ad N (q_push v st) (rv.toList ++ r) := by
  cases v with
  | none => rw [show rv = none from h]; exact hs
  | some w =>
    obtain ⟨u, h1, h2⟩ := h
    rw [h1]
    exact ⟨u, _, rfl, h2, hs⟩
/-- a method's first locals -/
theorem q_ent_args {ad : Nat → Value} {N : Nat} (hr : ∀ k, k < N ∨ 900 ≤ k → (ad k = .null ∨ ∃ a, ad k = .ref a)) : ∀ {as ras : List Value} (b : Nat), q_sr ad N as ras → (lg_sl ras).length = (q_ent as).length ∧ ∀ (i : Nat) (w : Value), (q_ent as)[i]? = some (some w) → ∃ v, (b + i, v) ∈ lv_args b ras ∧ q_vr ad N w v
  | [], ras, b, h => by rw [show ras = [] from h]; exact ⟨rfl, fun i w hi => by simp [q_ent] at hi⟩
  | x :: as, ras, b, ⟨v, r', h1, h2, h3⟩ => by
    subst h1
    have hcat := h2.cat hr
    have two : x.category = 2 → q_ent (x :: as) = some x :: none :: q_ent as := by
      intro hx
      cases x <;> first | rfl | (simp [Value.category] at hx)
    have one : ¬ x.category = 2 → q_ent (x :: as) = some x :: q_ent as := by
      intro hx
      cases x <;> first | rfl | (simp [Value.category] at hx)
    by_cases hx : x.category = 2
    · obtain ⟨ih1, ih2⟩ := q_ent_args hr (b + 2) h3
      rw [two hx]
      have hv : v.category = 2 := hcat.trans hx
      refine ⟨by simp [lg_sl, hv] at ih1 ⊢; omega, fun i w hi => ?_⟩
      simp only [lv_args, hv, if_true]
      match i, hi with
      | 0, hi => cases hi; exact ⟨v, List.mem_cons_self, h2⟩
      | 1, hi => cases hi
      | i + 2, hi =>
        obtain ⟨u, h4, h5⟩ := ih2 i w hi
        exact ⟨u, List.mem_cons_of_mem _ (by rw [show b + (i + 2) = b + 2 + i by omega]; exact h4), h5⟩
    · obtain ⟨ih1, ih2⟩ := q_ent_args hr (b + 1) h3
      rw [one hx]
      have hv : ¬ v.category = 2 := by rw [hcat]; exact hx
      refine ⟨by simp [lg_sl, hv] at ih1 ⊢; omega, fun i w hi => ?_⟩
      simp only [lv_args, hv, if_false]
      match i, hi with
      | 0, hi => cases hi; exact ⟨v, List.mem_cons_self, h2⟩
      | i + 1, hi =>
        obtain ⟨u, h4, h5⟩ := ih2 i w hi
        exact ⟨u, List.mem_cons_of_mem _ (by rw [show b + (i + 1) = b + 1 + i by omega]; exact h4), h5⟩
theorem q_entry_lr {ad : Nat → Value} {N n : Nat} (hr : ∀ k, k < N ∨ 900 ≤ k → (ad k = .null ∨ ∃ a, ad k = .ref a)) {as ras : List Value} (h : q_sr ad N as ras) (hn : (q_ent as).length ≤ n) : q_lr n ad N (q_entry n as) ((lg_sl ras ++ List.replicate (n - (lg_sl ras).length) Slot.unset).toArray) := by
  obtain ⟨h1, h2⟩ := q_ent_args hr 0 h
  obtain ⟨g1, g2, g3⟩ := lv_entry ras (n := n) (by omega)
  refine ⟨g1, by simp [q_entry]; omega, g2, fun i w hi => ?_⟩
  unfold q_entry at hi
  by_cases hl : i < (q_ent as).length
  · rw [List.getElem?_append_left hl] at hi
    obtain ⟨v, h3, h4⟩ := h2 i w hi
    rw [Nat.zero_add] at h3
    exact ⟨v, g3 _ h3, h4⟩
  · rw [List.getElem?_append_right (by omega)] at hi
    have := List.eq_of_mem_replicate (List.mem_of_getElem? hi)
    cases this
theorem q_step_grow {i : Instr} {x : Nat} {y : Int} {pc pc' : Nat} {lv lv' : List (Option Value)} {st st' : List Value} {g g' : q_G} {m m' : q_M} (h : q_step q_fields i x y pc lv st g m = some (pc', lv', st', g', m')) : g.2.1 ≤ g'.2.1 ∧ g.2.2 ≤ g'.2.2 := by
  have key : ∀ (z : q_Sh) (n : Nat), g.2.1 ≤ (q_new g z n).2.1 ∧ g.2.2 ≤ (q_new g z n).2.2 := fun z n => ⟨Nat.le_succ _, Nat.le_add_right _ _⟩
  have same : ∀ (k : Nat) (z : q_Sh), g.2.1 ≤ (q_sh g k z).2.1 ∧ g.2.2 ≤ (q_sh g k z).2.2 := fun k z => ⟨Nat.le_refl _, Nat.le_refl _⟩
  unfold q_step at h
  repeat' split at h
  all_goals first
    | (cases h; done)
    | (cases h; exact ⟨Nat.le_refl _, Nat.le_refl _⟩)
    | (cases h; exact key _ _)
    | (cases h; exact same _ _)
theorem q_run_grow : ∀ (n j pc d : Nat) (lv : List (Option Value)) (st : List Value) (g : q_G) (m : q_M) (v : Option Value) (g' : q_G) (m' : q_M), q_run n j pc d lv st g m = some (v, g', m') → g.2.1 ≤ g'.2.1 ∧ g.2.2 ≤ g'.2.2 := by
  intro n
  induction n with
  | zero => intro j pc d lv st g m v g' m' h; simp [q_run] at h
  | succ n ih =>
    intro j pc d lv st g m v g' m' h
    rw [q_run] at h
    generalize q_ins j pc = o at h
    cases o with
    | none => cases h
    | some I =>
      obtain ⟨i, x, y⟩ := I
      dsimp only at h
      generalize q_kind i x = k at h
      match k, h with
      | 0, h =>
        cases hs : q_step q_fields i x y pc lv st g m with
        | none => rw [hs] at h; cases h
        | some s =>
          obtain ⟨pc', lv', st', g1, m1⟩ := s
          rw [hs] at h
          have h1 := q_step_grow hs
          have h2 := ih _ _ _ _ _ _ _ _ _ _ h
          omega
      | 1, h =>
        generalize q_args i y.toNat (q_oc x) g st = o at h
        cases d with
        | zero => cases h
        | succ d' =>
          cases o with
          | none => cases h
          | some s =>
            obtain ⟨as, rest⟩ := s
            have h : (if (q_ent as).length ≤ q_nl x then (match q_run n x 0 d' (q_entry (q_nl x) as) [] g m with
              | none => none
              | some (v, g', m') => q_run n j (pc + 3) (d' + 1) lv (q_push v rest) g' m') else none) = some (v, g', m') := h
            by_cases hle : (q_ent as).length ≤ q_nl x
            · rw [if_pos hle] at h
              cases hc : q_run n x 0 d' (q_entry (q_nl x) as) [] g m with
              | none => rw [hc] at h; cases h
              | some s =>
                obtain ⟨v1, g1, m1⟩ := s
                rw [hc] at h
                have h1 := ih _ _ _ _ _ _ _ _ _ _ hc
                have h2 := ih _ _ _ _ _ _ _ _ _ _ h
                omega
            · rw [if_neg hle] at h
              cases h
      | k + 2, h =>
        generalize q_ret i (q_rt j) st = o at h
        cases o with
        | none => cases h
        | some w => cases h; exact ⟨Nat.le_refl _, Nat.le_refl _⟩
theorem q_ins_in {j pc : Nat} {i : Instr} {x : Nat} {y : Int} (h : q_ins j pc = some (i, x, y)) : (pc, i, x, y) ∈ q_code j := by
  unfold q_ins at h
  generalize q_code j = l at h
  induction l with
  | nil => cases h
  | cons a l ih =>
    obtain ⟨a1, a2⟩ := a
    rw [List.lookup_cons] at h
    by_cases e : pc = a1
    · subst e
      rw [show (pc == pc) = true by simp] at h
      cases h
      exact List.mem_cons_self
    · rw [show (pc == a1) = false by simpa using e] at h
      exact List.mem_cons_of_mem _ (ih h)
theorem q_ck_use {j pc : Nat} {i : Instr} {x : Nat} {y : Int} (hj : q_ck j = true) (h : q_ins j pc = some (i, x, y)) : decode (q_b j) pc = .ok (i, q_len i y) ∧ q_lk (q_oc j) (decide (q_kd j = 2)) pc i x y = true := by
  have h1 := List.all_eq_true.mp hj _ (q_ins_in h)
  simp only [Bool.and_eq_true] at h1
  refine ⟨?_, h1.2⟩
  have h2 := h1.1
  unfold q_dec at h2
  split at h2
  · next i' n' hd =>
    simp only [Bool.and_eq_true, decide_eq_true_eq] at h2
    rw [hd, h2.1, h2.2]
  · cases h2
section QQ
variable (l : Launch) (L : Nat) (xs : Nat → Int32) (ex : Nat → Value) (D : va_G) (cI : ClassId) (cR : Nat → ClassId)
def q_SN (n : Nat) : Prop := ∀ (p : Program) (e : Env) (R : Room) (s : State) (m0 : MethodId) (args : Array Value) (below : List Frame) (meth : Method) (c : Code) (Q : State → Prop) (A : Nat → Prop) (j pc d : Nat) (lv : List (Option Value)) (st : List Value) (g : q_G) (m : q_M) (v : Option Value) (g' : q_G) (m' : q_M) (ad : Nat → Value) (ws : va_W) (H : Heap) (locs : List Loc) (ls : Array Slot) (rst : List Value) (cells slots : Nat),
  q_run n j pc d lv st g m = some (v, g', m') → q_ck j = true →
  p.tables.exec = Jvm.exec → c.code = q_b j → c.maxLocals = q_nl j → s.vm.findClass (q_cn (q_oc j)) = some m0.cls → (∀ w ∈ q_good, w.before args s = true) → (q_kd j = 2 → meth.name = "<init>") → q_Env L xs ex D cI cR A s → (∀ q, s.heap.size ≤ q → A q) →
  d + 1 ≤ R.frames → 40 * (d + 1) ≤ R.locals → cells + (g'.2.1 - g.2.1) ≤ R.cells → slots + (g'.2.2 - g.2.2) ≤ R.slots →
  q_St L xs ex D cI cR A s (q_nl j) g m lv st ad ws H locs ls rst →
  (∀ (i : Instr) (x : Nat) (y : Int) (pcr : Nat) (lvr : List (Option Value)) (str : List Value) (ad' : Nat → Value) (ws' : va_W) (H' : Heap) (locs' : List Loc) (ls' : Array Slot) (rst' : List Value), q_ins j pcr = some (i, x, y) → q_ret i (q_rt j) str = some v → q_ex ad ad' g.2.1 → q_St L xs ex D cI cR A s (q_nl j) g' m' lvr str ad' ws' H' locs' ls' rst' →
    W p l e R s m0 args below meth c H' locs' (cells + (g'.2.1 - g.2.1)) (slots + (g'.2.2 - g.2.2)) Q (F0 m0 pcr ls' rst')) →
  W p l e R s m0 args below meth c H locs cells slots Q (F0 m0 pc ls rst)
/-- what a method may take for given at its start, and what it leaves -/
def q_PB (sz : Nat) (ws : va_W) (U : State) : Prop := U.heap.size = sz ∧ va_P D vwCl ws U.heap ∧ va_D (fun _ => True) ws ∧ q_Env L xs ex D cI cR (va_A ws sz) U
def q_Qc (ad : Nat → Value) (N : Nat) (v : Option Value) (g' : q_G) (m' : q_M) (A : Nat → Prop) : Array Value → State → Outcome → State → Prop := fun _ st oc t => (∃ (rv : Option Value) (ad' : Nat → Value) (ws' : va_W), oc = .returned rv ∧ q_ov ad' g'.2.1 v rv ∧ q_ex ad ad' N ∧ q_wr L xs ex ad' cI cR g' m' ws' ∧ va_P D vwCl ws' t.heap ∧ va_D A ws') ∧ va_F A st t
def q_ws (x : Nat) : List Cond := Cond.code (q_y x) (q_b x) (q_nl x) (q_rt x) :: q_good
end QQ
theorem q_PB.blind {L : Nat} {xs : Nat → Int32} {ex : Nat → Value} {D : va_G} {cI : ClassId} {cR : Nat → ClassId} {sz : Nat} {ws : va_W} {av : List Value} : FrameBlind (va_Pc av (q_PB L xs ex D cI cR sz ws)) := fun a U g mk ⟨h1, h2, h3, h4, h5⟩ => ⟨h1, h2, h3, h4, h5.blind g mk a⟩
section QT
variable {l : Launch} {L : Nat} {xs : Nat → Int32} {ex : Nat → Value} {D : va_G} {cI : ClassId} {cR : Nat → ClassId}
/-- a method's contract out of its run -/
theorem q_met {n : Nat} (IH : q_SN l L xs ex D cI cR n) {x d : Nat} {as ras : List Value} {g : q_G} {m : q_M} {v : Option Value} {g' : q_G} {m' : q_M} {ad : Nat → Value} {ws : va_W} (hrun : q_run n x 0 d (q_entry (q_nl x) as) [] g m = some (v, g', m')) (hle : (q_ent as).length ≤ q_nl x) (hck : q_ck x = true) (hmf : q_MF x)
    (hW : q_wr L xs ex ad cI cR g m ws) (has : q_sr ad g.2.1 as ras) (sz : Nat) :
    Met l (q_y x) (q_ws x) { frames := d + 1, cells := g'.2.1 - g.2.1, slots := g'.2.2 - g.2.2, locals := 40 * (d + 1) } (va_Pc ras (q_PB L xs ex D cI cR sz ws)) (q_Qc L xs ex D cI cR ad g.2.1 v g' m' (va_A ws sz)) (g'.2.1 - g.2.1) (g'.2.2 - g.2.2) (va_A ws sz) := by
  refine Met.ofW (cc := q_b x) (maxL := q_nl x) (ret := q_rt x) hmf.2.1 rfl ?_
  intro p e s m0 args below meth c s₁ B hml hv
  obtain ⟨rfl, hsz, hP, hD0, hE⟩ := hv
  have hx := B.exec
  have hb := B.bytes
  have hr := B.returns
  have hlocks := B.notSynchronized
  have hts : ∀ w ∈ q_good, w.before ras.toArray s = true := fun w hw => atoms_spec (ws := q_ws x) B.pre w (List.mem_cons_of_mem _ hw)
  have hown : s.vm.findClass (q_cn (q_oc x)) = some m0.cls := by rw [← hmf.1]; exact findClass_of_methodNamed B.named
  have hname : meth.name = (q_y x).name := (name_of_methodNamed B.named B.method).1
  have hin : q_kd x = 2 → meth.name = "<init>" := by
    intro h
    have h2 := hmf.2.2.2.2.2
    rw [h] at h2
    rw [hname]
    exact h2.1
  subst hsz
  have hD := hD0.self (sz := s.heap.size)
  generalize hAe : va_A ws s.heap.size = A at hD hE ⊢
  have hA : ∀ q : Nat, s.heap.size ≤ q → A q := fun q h => by rw [← hAe]; exact Or.inr h
  have hS : va_S A s.heap s.heap [] := va_S.rf
  have hrf := hW.ref hE.2.2.2.2.2.2.2.2
  rw [lg_entry_eq]
  refine IH p e _ s m0 ras.toArray below meth c _ A x 0 d _ [] g m v g' m' ad ws s.heap [] _ [] 0 0 hrun hck hx hb hml hown hts hin hE hA (Nat.le_refl _) (Nat.le_refl _) (by rw [Nat.zero_add]; exact Nat.le_refl _) (by rw [Nat.zero_add]; exact Nat.le_refl _) ⟨hW, hP, hD, hS, q_entry_lr hrf has hle, rfl⟩ ?_
  intro i x2 y pcr lvr str ad' ws' H' locs' ls' rst' hi hret hex S
  obtain ⟨hW', hP', hD', hS', hl', hst'⟩ := S
  obtain ⟨hdg, -⟩ := q_ck_use hck hi
  have hrf' := hW'.ref hE.2.2.2.2.2.2.2.2
  rw [Nat.zero_add, Nat.zero_add]
  have post : ∀ (rv : Option Value), q_ov ad' g'.2.1 v rv → ∀ t : State, t.heap = H' → s.WarmedH t.vm → q_Qc L xs ex D cI cR ad g.2.1 v g' m' A ras.toArray s (.returned rv) t := by
    intro rv hov t ht _
    exact ⟨⟨rv, ad', ws', rfl, hov, hex, hW', by rw [ht]; exact hP', hD'⟩, hS'.F ht⟩
  unfold q_ret at hret
  split at hret
  · next q1 q2 =>
    cases hret
    obtain ⟨r, rfl, hr2⟩ := hst'.i
    cases (show r = [] from hr2)
    exact W.iret hx hb (hr.trans (by assumption)) (post _ ⟨_, rfl, rfl⟩) hS'.2.2 hdg
  · next q1 q2 =>
    split at hret
    · next hz =>
      cases hret
      obtain ⟨r, rfl, hr2⟩ := hst'.i
      cases (show r = [] from hr2)
      refine W.zret hx hb (hr.trans (by assumption)) ?_ (post _ ⟨_, rfl, rfl⟩) hS'.2.2 hdg
      rcases hz with rfl | rfl <;> decide
    · cases hret
  · next q1 q2 =>
    split at hret
    · next hz =>
      cases hret
      obtain ⟨r, rfl, hr2⟩ := hst'.i
      cases (show r = [] from hr2)
      refine W.zret hx hb (hr.trans (by assumption)) ?_ (post _ ⟨_, rfl, rfl⟩) hS'.2.2 hdg
      rw [hz]
      decide
    · cases hret
  · next q1 q2 =>
    split at hret
    · next hz =>
      cases hret
      obtain ⟨r, rfl, hr2⟩ := hst'.i
      cases (show r = [] from hr2)
      exact W.zret hx hb (hr.trans (by assumption)) hz (post _ ⟨_, rfl, rfl⟩) hS'.2.2 hdg
    · cases hret
  · next q1 q2 =>
    cases hret
    obtain ⟨r, rfl, hr2⟩ := hst'.l
    cases (show r = [] from hr2)
    exact W.lret hx hb (hr.trans (by assumption)) (post _ ⟨_, rfl, rfl⟩) hS'.2.2 hdg
  · next q1 q2 =>
    cases hret
    obtain ⟨r, rfl, hv, hr2⟩ := hst'.r
    cases (show r = [] from hr2)
    exact W.aret hx hb (hr.trans (by assumption)) (Or.inl ⟨_, rfl⟩) (hrf' _ hv) (post _ ⟨_, rfl, hv, rfl⟩) hS'.2.2 hdg
  · next q1 q2 =>
    cases hret
    obtain ⟨r, rfl, hr2⟩ := hst'.n
    cases (show r = [] from hr2)
    exact W.aret hx hb (hr.trans (by assumption)) (Or.inl ⟨_, rfl⟩) (Or.inl rfl) (post _ ⟨_, rfl, rfl⟩) hS'.2.2 hdg
  · next q1 q2 =>
    cases hret
    cases (show rst' = [] from hst')
    exact W.vret hx hb (hr.trans (by assumption)) (post _ rfl) hS'.2.2 hdg
  · cases hret
end QT
theorem q_nl_le (x : Nat) : q_nl x ≤ 21 := by
  have h : ∀ k, k < 216 → q_nls.getD k 0 ≤ 21 := by decide +kernel
  by_cases hx : x < 216
  · exact h x hx
  · have : q_nls.getD x 0 = 0 := by
      rw [List.getD_eq_getElem?_getD, List.getElem?_eq_none]
      · rfl
      · show 216 ≤ x
        omega
    show q_nls.getD x 0 ≤ 21
    rw [this]
    exact Nat.zero_le _
theorem q_ws_good {x : Nat} (h : q_MF x) : GoodIn q_good (q_ws x) := by
  intro w hw
  rcases List.mem_cons.mp hw with rfl | hw
  · exact ⟨q_gm_in h.2.2.2.1, good_of_word h.2.2.2.1.2⟩
  · exact ⟨hw, good_of_word (List.mem_filter.mp hw).2⟩
theorem q_oc_99 (x : Nat) (h : x < 215) : q_oc x ≠ 99 := by
  have h2 : ∀ k, k < 215 → q_oc k ≠ 99 := by decide +kernel
  exact h2 x h
theorem q_args_v {idx n co : Nat} {g : q_G} {st as rest : List Value} (h : q_args (.invokevirtual idx) n co g st = some (as, rest)) : ∃ a l, (st.take n).reverse = .ref a :: l ∧ as = .ref a :: l ∧ rest = st.drop n ∧ l.length + 1 = n ∧ q_sm (st.drop n) ≤ 8 ∧ ∃ fs, g.1 a = .inr (.inr (co, fs)) := by
  unfold q_args at h
  generalize (st.take n).reverse = z at h
  rcases z with _ | ⟨v, l⟩
  · cases h
  · cases v with
    | ref a =>
      dsimp only at h
      split at h
      · next cc fs hz =>
        split at h
        · next hc =>
          cases h
          exact ⟨a, l, rfl, rfl, rfl, hc.1, hc.2.1, fs, by rw [hz, hc.2.2]⟩
        · cases h
      · cases h
    | _ => cases h
theorem q_args_p {idx n co : Nat} {g : q_G} {st as rest : List Value} (h : q_args (.invokespecial idx) n co g st = some (as, rest)) : ∃ a l, (st.take n).reverse = .ref a :: l ∧ as = .ref a :: l ∧ rest = st.drop n ∧ l.length + 1 = n ∧ q_sm (st.drop n) ≤ 8 ∧ a < 900 := by
  unfold q_args at h
  generalize (st.take n).reverse = z at h
  rcases z with _ | ⟨v, l⟩
  · cases h
  · cases v with
    | ref a =>
      dsimp only at h
      split at h
      · next hc =>
        cases h
        exact ⟨a, l, rfl, rfl, rfl, hc.1, hc.2.1, hc.2.2⟩
      · cases h
    | _ => cases h
section QU
variable {l : Launch} {L : Nat} {xs : Nat → Int32} {ex : Nat → Value} {D : va_G} {cI : ClassId} {cR : Nat → ClassId}
variable {p : Program} {e : Env} {R : Room} {s : State} {m0 : MethodId} {args : Array Value} {below : List Frame} {meth : Method} {c : Code} {Q : State → Prop} {A : Nat → Prop}
theorem q_callg {H : Heap} {locs : List Loc} {cells slots mc ms pc N : Nat} {ls : Array Slot} {st0 rest : List Value} {a : Array Value} {A1 free : Nat → Prop} {ad : Nat → Value} {v : Option Value} {g' : q_G} {m' : q_M} (hr : va_Run p l e R s m0 args below meth c H locs cells slots mc ms (F0 m0 pc ls st0) rest (q_Qc L xs ex D cI cR ad N v g' m' A1 a) free) (hS : va_S A s.heap H locs) (hA : ∀ q, A1 q → A q) (hf : ∀ q, free q → A q)
    (kk : ∀ (rv : Option Value) (ad' : Nat → Value) (ws' : va_W) (H1 : Heap) (locs1 : List Loc), q_ov ad' g'.2.1 v rv → q_ex ad ad' N → q_wr L xs ex ad' cI cR g' m' ws' → va_P D vwCl ws' H1 → va_D A1 ws' → va_S A s.heap H1 locs1 → W p l e R s m0 args below meth c H1 locs1 (cells + mc) (slots + ms) Q (F0 m0 (pc + 3) ls (rv.toList ++ rest))) : W p l e R s m0 args below meth c H locs cells slots Q (F0 m0 pc ls st0) := by
  intro T hT X
  obtain ⟨v1, st₀, t, T', L1, h0, X', hL, e1, e2, ⟨⟨rv, ad', ws', hv, hov, hex, hW, hP, hD⟩, hz, hk⟩, st⟩ := hr T hT X
  cases hv
  rw [h0] at hz hk
  obtain ⟨t2, a1, b1⟩ := kk v1 ad' ws' T'.heap (locs ++ L1) hov hex hW (by rw [e1]; exact hP) hD
    ⟨Nat.le_trans hS.1 (by rw [e1]; exact hz), fun q h1 h2 => by rw [e1, hk q (Nat.lt_of_lt_of_le h1 hS.1) (fun z => h2 (hA q z))]; exact hS.2.1 q h1 h2, fun q hq => by
      rcases List.mem_append.mp hq with h | h
      · exact hS.2.2 q h
      · exact hf _ (hL q h)⟩ T' rfl X'
  exact ⟨t2, st t2 a1, b1⟩
/-- a call, whichever its kind -/
theorem q_call {n : Nat} (IH : q_SN l L xs ex D cI cR n) (hchk : ∀ x, x < 215 → q_ck x = true) {j pc d : Nat} {i : Instr} {x : Nat} {y : Int} {lv : List (Option Value)} {st as rest : List Value} {g : q_G} {m : q_M} {v : Option Value} {g' : q_G} {m' : q_M} {ad : Nat → Value} {ws : va_W} {H : Heap} {locs : List Loc} {ls : Array Slot} {rst : List Value} {cells slots : Nat}
    (hx : p.tables.exec = Jvm.exec) (hb : c.code = q_b j) (hml : c.maxLocals = q_nl j) (hown : s.vm.findClass (q_cn (q_oc j)) = some m0.cls) (hts : ∀ w ∈ q_good, w.before args s = true) (hE : q_Env L xs ex D cI cR A s) (hA : ∀ q, s.heap.size ≤ q → A q) (hR : d + 2 ≤ R.frames ∧ 40 * (d + 2) ≤ R.locals)
    (hdg : decode (q_b j) pc = .ok (i, q_len i y)) (hlk : q_lk (q_oc j) (decide (q_kd j = 2)) pc i x y = true) (hk : q_kind i x = 1) (ha : q_args i y.toNat (q_oc x) g st = some (as, rest)) (hle : (q_ent as).length ≤ q_nl x)
    (hrun : q_run n x 0 d (q_entry (q_nl x) as) [] g m = some (v, g', m'))
    (S : q_St L xs ex D cI cR A s (q_nl j) g m lv st ad ws H locs ls rst) (hc : cells + (g'.2.1 - g.2.1) ≤ R.cells) (hsl : slots + (g'.2.2 - g.2.2) ≤ R.slots)
    (kk : ∀ (ad' : Nat → Value) (ws' : va_W) (H' : Heap) (locs' : List Loc) (rst' : List Value), q_ex ad ad' g.2.1 → q_St L xs ex D cI cR A s (q_nl j) g' m' lv (q_push v rest) ad' ws' H' locs' ls rst' → W p l e R s m0 args below meth c H' locs' (cells + (g'.2.1 - g.2.1)) (slots + (g'.2.2 - g.2.2)) Q (F0 m0 (pc + 3) ls rst')) :
    W p l e R s m0 args below meth c H locs cells slots Q (F0 m0 pc ls rst) := by
  obtain ⟨hW, hP, hD, hS, hl, hst⟩ := S
  have hrf := hW.ref hE.2.2.2.2.2.2.2.2
  have hgt : ∀ {w : Cond}, q_gm w → w.before args s = true := fun h => hts _ (q_gm_in h)
  have hF : ∀ q, va_A ws H.size q → A q := by
    intro q hq
    rcases hq with ⟨k, ee, h⟩ | h
    · exact hD.2 k _ h
    · exact hA q (Nat.le_trans hS.1 h)
  have hgrow := q_run_grow _ _ _ _ _ _ _ _ _ _ _ hrun
  have hPB : ∀ U : State, U.heap = H → s.WarmedH U.vm → q_PB L xs ex D cI cR H.size ws U := fun U hU hw => ⟨by rw [hU], by rw [hU]; exact hP, hD.weaken (fun _ _ _ _ => trivial), hE.at hS hF hU hw⟩
  have hnl := q_nl_le x
  -- what the stack is
  have hras : q_sr ad g.2.1 (st.take y.toNat).reverse (rst.take y.toNat).reverse := (hst.take _).rev
  have hrest : q_sr ad g.2.1 (st.drop y.toNat) (rst.drop y.toNat) := hst.drop _
  have hsplit : rst = (rst.take y.toNat).reverse.reverse ++ rst.drop y.toNat := by rw [List.reverse_reverse, List.take_append_drop]
  have hlen := hras.len
  generalize hr1 : (rst.take y.toNat).reverse = ras at hras hsplit hlen
  generalize hr2 : rst.drop y.toNat = rrest at hrest hsplit
  have fin : ∀ {mp : q_sm rest ≤ 8 ∧ rest = st.drop y.toNat} (hr : va_Run p l e R s m0 args below meth c H locs cells slots (g'.2.1 - g.2.1) (g'.2.2 - g.2.2) (F0 m0 pc ls rst) rrest (q_Qc L xs ex D cI cR ad g.2.1 v g' m' (va_A ws H.size) ras.toArray) (va_A ws H.size)), W p l e R s m0 args below meth c H locs cells slots Q (F0 m0 pc ls rst) := by
    intro mp hr
    refine q_callg hr hS hF hF (fun rv ad' ws' H1 locs1 hov hex hW1 hP1 hD1 hS1 => ?_)
    refine kk ad' ws' H1 locs1 _ hex ⟨hW1, hP1, hD1.weaken (fun k q _ h => hF q.1 h), hS1, hl.mono hex hgrow.1, ?_⟩
    rw [mp.2]
    exact q_sr.push hov (hrest.mono hex hgrow.1)
  have room : ∀ {z : Nat}, z = q_sm (st.drop y.toNat) → z ≤ 8 → (rrest.map fun v => v.category).sum ≤ 8 := by
    intro z hz hz2
    rw [q_sm_le hrf hrest, ← hz]
    exact hz2
  have hRR : (d + 1) + 1 ≤ R.frames ∧ 8 + (q_nl x + 11) + 40 * (d + 1) ≤ R.locals := ⟨by omega, by omega⟩
  cases i with
  | invokestatic idx =>
    have hx12 : ¬ (x = 9998 ∨ x = 9997) := by
      intro q
      simp [q_kind, q] at hk
    simp only [q_lk, if_neg (fun q => hx12 (Or.inl q)), if_neg (fun q => hx12 (Or.inr q)), Bool.and_eq_true, decide_eq_true_eq, List.contains_iff_mem] at hlk
    obtain ⟨⟨⟨⟨h1, h2⟩, h3⟩, h4⟩, h5⟩ := hlk
    have hmf := q_mf x h2 h3
    simp only [q_args] at ha
    split at ha
    · next hcond =>
      cases ha
      have hM := q_met IH hrun hle (hchk x h2) hmf hW hras H.size
      have hkind := hmf.2.2.2.2.2
      rw [h4] at hkind
      have hn : ras.length = q_np x := by rw [hlen, hcond.1, h5]
      refine fin (mp := ⟨hcond.2, rfl⟩) ?_
      rcases q_ml_ok _ h1 with hL | ⟨host, hL⟩
      · exact va_runS (As := ras) (rest := rrest) ⟨hx, hb, hml, hown, hts⟩ hM ⟨callB_of (q_np x) hts (q_ws_good hmf) rfl rfl rfl (hgt hmf.2.2.1) (hgt hL) hmf.2.2.2.2.1 hRR, hgt hkind⟩ ⟨q_PB.blind, fun U hU hw => ⟨rfl, hPB U hU hw⟩⟩ rfl hn hl.1 hsplit (lv_room (room rfl hcond.2)) hdg ⟨hc, hsl⟩
      · exact va_runSN (As := ras) (rest := rrest) ⟨hx, hb, hml, hown, hts⟩ hM ⟨va_cnB (q_np x) hts (q_ws_good hmf) rfl rfl rfl (hE.2.1 _ hL rfl) (hgt hmf.2.2.1) hmf.2.2.2.2.1 hRR, hgt hkind, trivial⟩ ⟨q_PB.blind, fun U hU hw => ⟨rfl, hPB U hU hw⟩⟩ rfl hn hl.1 hsplit (lv_room (room rfl hcond.2)) hdg ⟨hc, hsl⟩
    · cases ha
  | invokevirtual idx =>
    simp only [q_lk, Bool.and_eq_true, decide_eq_true_eq, List.contains_iff_mem] at hlk
    obtain ⟨⟨⟨⟨h1, h2⟩, h3⟩, h4⟩, h5⟩ := hlk
    have hmf := q_mf x h2 h3
    have hkind := hmf.2.2.2.2.2
    rw [h4] at hkind
    obtain ⟨a0, l0, heq2, rfl, rfl, hc1, hc2, fs, hz⟩ := q_args_v ha
    rw [heq2] at hras hlen
    have hM := q_met IH hrun hle (hchk x h2) hmf hW hras H.size
    obtain ⟨vr, l1, rfl, ⟨hv0, hv1⟩, hl1⟩ := hras
    have hn : l1.length = q_np x := by
      have := hl1.len
      omega
    have hcx : q_cn (q_oc x) = (q_y x).cls := hmf.1.symm
    obtain ⟨b, hb1, hrc⟩ : ∃ b, ad a0 = .ref b ∧ ∃ cellB : Cell, H[b]? = some cellB ∧ cellB.vm.isStatics = false ∧ s.vm.findClass (q_y x).cls = some cellB.cls := by
      rcases Nat.lt_or_ge a0 900 with hk9 | hk9
      · obtain ⟨b, ee, q1, q2, q3, -⟩ := hW.2.2.1 a0 (q_ltN hv0 hk9)
        rw [hz] at q3
        obtain ⟨hc9, vs, rfl, -⟩ := q3
        have := va_recv hE.1 hP (q_vw _ hc9) q2
        rw [← hcx]
        exact ⟨b, q1, this⟩
      · obtain ⟨g1, g2, g3⟩ := hW.2.2.2 a0 hk9
        obtain ⟨hk1, hk2, hc9, hfs⟩ := q_xs_obj hk9 (g2.symm.trans hz) (q_oc_99 x h2)
        obtain ⟨b, q1, q2, q3, q4⟩ := hE.2.2.2.2.2.1 a0 hk1 hk2
        obtain ⟨cell, z1, z2, z3, -⟩ := q2.kept hS.2.1
        refine ⟨b, g1.trans q1, cell, z1, z2, ?_⟩
        rw [← hcx, hc9]
        exact z3
    subst hv1
    rw [hb1] at hM hsplit fin
    have hsplit2 : rst = l1.reverse ++ .ref b :: rrest := by
      rw [hsplit]
      simp
    refine fin (mp := ⟨hc2, rfl⟩) ?_
    rcases q_ml_ok _ h1 with hL | ⟨host, hL⟩
    · exact va_runV (C := (q_y x).cls) (As := l1) (rest := rrest) ⟨hx, hb, hml, hown, hts⟩ hM ⟨callB_of (q_np x) hts (q_ws_good hmf) rfl rfl rfl (hgt hmf.2.2.1) (hgt hL) hmf.2.2.2.2.1 hRR, hgt hkind.1, hgt hkind.2⟩ ⟨q_PB.blind, hrc, fun U hU hw => ⟨rfl, hPB U hU hw⟩⟩ rfl hn hl.1 hsplit2 (lv_room (room rfl hc2)) hdg ⟨hc, hsl⟩
    · exact va_runVN (C := (q_y x).cls) (As := l1) (rest := rrest) ⟨hx, hb, hml, hown, hts⟩ hM ⟨va_cnB (q_np x) hts (q_ws_good hmf) rfl rfl rfl (hE.2.1 _ hL rfl) (hgt hmf.2.2.1) hmf.2.2.2.2.1 hRR, hgt hkind.1, hgt hkind.2⟩ ⟨q_PB.blind, hrc, fun U hU hw => ⟨rfl, hPB U hU hw⟩⟩ rfl hn hl.1 hsplit2 (lv_room (room rfl hc2)) hdg ⟨hc, hsl⟩
  | invokespecial idx =>
    have hx9 : ¬ x = 9999 := by
      intro q
      simp [q_kind, q] at hk
    simp only [q_lk, if_neg hx9, Bool.and_eq_true, decide_eq_true_eq, List.contains_iff_mem] at hlk
    obtain ⟨⟨⟨⟨h1, h2⟩, h3⟩, h4⟩, h5⟩ := hlk
    have hmf := q_mf x h2 h3
    have hkind := hmf.2.2.2.2.2
    rw [h4] at hkind
    obtain ⟨k1, k2, k3⟩ := hkind
    obtain ⟨a0, l0, heq2, rfl, rfl, hc1, hc2, hc3⟩ := q_args_p ha
    rw [heq2] at hras hlen
    have hM := q_met IH hrun hle (hchk x h2) hmf hW hras H.size
    obtain ⟨vr, l1, rfl, ⟨hv0, hv1⟩, hl1⟩ := hras
    have hn : l1.length = q_np x := by
      have := hl1.len
      omega
    subst hv1
    have hwsn : q_ws x = Cond.code (q_y x) (q_b x) (q_nl x) none :: q_good := by unfold q_ws; rw [k3]
    obtain ⟨b, hb1⟩ := q_nn hW hE.2.2.2.2.2.2.2.2 hv0 (q_ne9 hc3)
    rw [hb1] at hM hsplit fin
    have hsplit2 : rst = l1.reverse ++ .ref b :: rrest := by
      rw [hsplit]
      simp
    refine fin (mp := ⟨hc2, rfl⟩) ?_
    rcases q_ml_ok _ h1 with hL | ⟨host, hL⟩
    · exact va_runI (As := l1) (rest := rrest) ⟨hx, hb, hml, hown, hts⟩ hM ⟨callB_of (q_np x) hts (q_ws_good hmf) hwsn rfl rfl (hgt hmf.2.2.1) (hgt hL) hmf.2.2.2.2.1 hRR, k1, hgt k2⟩ ⟨q_PB.blind, fun U hU hw => ⟨rfl, hPB U hU hw⟩⟩ rfl hn hl.1 hsplit2 (lv_room (room rfl hc2)) hdg ⟨hc, hsl⟩
    · exact va_runIN (As := l1) (rest := rrest) ⟨hx, hb, hml, hown, hts⟩ hM ⟨va_cnB (q_np x) hts (q_ws_good hmf) hwsn rfl rfl (hE.2.1 _ hL rfl) (hgt hmf.2.2.1) hmf.2.2.2.2.1 hRR, k1, hgt k2⟩ ⟨q_PB.blind, fun U hU hw => ⟨rfl, hPB U hU hw⟩⟩ rfl hn hl.1 hsplit2 (lv_room (room rfl hc2)) hdg ⟨hc, hsl⟩
  | _ => cases ha
end QU
section QV
variable {l : Launch} {L : Nat} {xs : Nat → Int32} {ex : Nat → Value} {D : va_G} {cI : ClassId} {cR : Nat → ClassId}
/-- A RUN OF THE SMALL MACHINE IS A RUN OF THE MACHINE -/
theorem q_sound (hchk : ∀ x, x < 215 → q_ck x = true) : ∀ n, q_SN l L xs ex D cI cR n := by
  intro n
  induction n with
  | zero =>
    intro p e R s m0 args below meth c Q A j pc d lv st g m v g' m' ad ws H locs ls rst cells slots h
    simp [q_run] at h
  | succ n IH =>
    intro p e R s m0 args below meth c Q A j pc d lv st g m v g' m' ad ws H locs ls rst cells slots h hck hx hb hml hown hts hin hE hA hRf hRl hc hsl S hret
    rw [q_run] at h
    cases hi : q_ins j pc with
    | none => rw [hi] at h; cases h
    | some I =>
      obtain ⟨i, x, y⟩ := I
      rw [hi] at h
      dsimp only at h
      obtain ⟨hdg, hlk⟩ := q_ck_use hck hi
      generalize hk : q_kind i x = k at h
      match k, h, hk with
      | 0, h, hk =>
        cases hs : q_step q_fields i x y pc lv st g m with
        | none => rw [hs] at h; cases h
        | some s1 =>
          obtain ⟨pc1, lv1, st1, g1, m1⟩ := s1
          rw [hs] at h
          have g1a := q_step_grow hs
          have g2a := q_run_grow _ _ _ _ _ _ _ _ _ _ _ h
          refine q_plain hx hb hml hown hts hin hE hA ⟨by omega, by omega⟩ hdg hlk hs S (by omega) (by omega) (fun ad' ws' H' locs' ls' rst' hex S' => ?_)
          refine IH p e R s m0 args below meth c Q A j pc1 d lv1 st1 g1 m1 v g' m' ad' ws' H' locs' ls' rst' _ _ h hck hx hb hml hown hts hin hE hA hRf hRl (by omega) (by omega) S' ?_
          intro i2 x2 y2 pcr lvr str ad2 ws2 H2 locs2 ls2 rst2 hi2 hr2 hex2 S2
          have e1 : cells + (g1.2.1 - g.2.1) + (g'.2.1 - g1.2.1) = cells + (g'.2.1 - g.2.1) := by omega
          have e2 : slots + (g1.2.2 - g.2.2) + (g'.2.2 - g1.2.2) = slots + (g'.2.2 - g.2.2) := by omega
          rw [e1, e2]
          exact hret i2 x2 y2 pcr lvr str ad2 ws2 H2 locs2 ls2 rst2 hi2 hr2 (hex.tr hex2 g1a.1) S2
      | 1, h, hk =>
        cases ha : q_args i y.toNat (q_oc x) g st with
        | none => rw [ha] at h; cases d <;> cases h
        | some s1 =>
          obtain ⟨as, rest⟩ := s1
          cases d with
          | zero => cases h
          | succ d' =>
            rw [ha] at h
            have h : (if (q_ent as).length ≤ q_nl x then (match q_run n x 0 d' (q_entry (q_nl x) as) [] g m with
              | none => none
              | some (v, g', m') => q_run n j (pc + 3) (d' + 1) lv (q_push v rest) g' m') else none) = some (v, g', m') := h
            by_cases hle : (q_ent as).length ≤ q_nl x
            · rw [if_pos hle] at h
              cases hcr : q_run n x 0 d' (q_entry (q_nl x) as) [] g m with
              | none => rw [hcr] at h; cases h
              | some s1 =>
                obtain ⟨v1, g1, m1⟩ := s1
                rw [hcr] at h
                have g1a := q_run_grow _ _ _ _ _ _ _ _ _ _ _ hcr
                have g2a := q_run_grow _ _ _ _ _ _ _ _ _ _ _ h
                refine q_call IH hchk hx hb hml hown hts hE hA ⟨hRf, hRl⟩ hdg hlk hk ha hle hcr S (by omega) (by omega) (fun ad' ws' H' locs' rst' hex S' => ?_)
                refine IH p e R s m0 args below meth c Q A j (pc + 3) (d' + 1) lv _ g1 m1 v g' m' ad' ws' H' locs' ls rst' _ _ h hck hx hb hml hown hts hin hE hA hRf hRl (by omega) (by omega) S' ?_
                intro i2 x2 y2 pcr lvr str ad2 ws2 H2 locs2 ls2 rst2 hi2 hr2 hex2 S2
                have e1 : cells + (g1.2.1 - g.2.1) + (g'.2.1 - g1.2.1) = cells + (g'.2.1 - g.2.1) := by omega
                have e2 : slots + (g1.2.2 - g.2.2) + (g'.2.2 - g1.2.2) = slots + (g'.2.2 - g.2.2) := by omega
                rw [e1, e2]
                exact hret i2 x2 y2 pcr lvr str ad2 ws2 H2 locs2 ls2 rst2 hi2 hr2 (hex.tr hex2 g1a.1) S2
            · rw [if_neg hle] at h
              cases h
      | k + 2, h, hk =>
        cases hr : q_ret i (q_rt j) st with
        | none => rw [hr] at h; cases h
        | some w =>
          rw [hr] at h
          cases h
          have := hret i x y pc lv st ad ws H locs ls rst hi hr q_ex.rf S
          rw [Nat.sub_self, Nat.sub_self] at this
          exact this
end QV
