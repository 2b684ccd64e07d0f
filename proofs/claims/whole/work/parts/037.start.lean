def R_law : String := "SomebodyElseTonightLaw"
def lw_P (b : Addr) (xs : List Int32) (args : Array Value) (s : State) : Prop := args = #[.ref b] ∧ s.IntsAt b xs ∧ xs.length ≤ 3584 ∧ (Jvm.Cond.and given_1 narrow_1).before args s = true
def lw_Q (_ : Array Value) (s : State) (o : Outcome) (t : State) : Prop := o = .returned (some (.int 1)) ∧ Framed s o t [] 600000 7302250
def lw_Z (below : List Frame) (a : Array Value) (s : State) : State → Prop := fun t => ∃ o, t.status = .running ∧ Ended t below o ∧ lw_Q a s o t
/-- the law's own end, with 1 on the stack, nothing written that was there before, its room as the claim has it -/
theorem lw_ret {p : Program} {l : Launch} {e : Env} {s : State} {m : MethodId} {below : List Frame} {meth : Method} {c : Code} {b : Nat} (hx : p.tables.exec = Jvm.exec) (hb : c.code = code) (hr : meth.sig.returnType = ret) (hlocks : meth.locks = false) {pc : Nat} {H : Heap} {ls : Array Slot} (hdg : decode code pc = .ok (.ireturn, 1)) : W p l e room_1 s m #[Value.ref b] below meth c H [] 600000 7302250 (lw_Z below #[Value.ref b] s) (F0 m pc ls [.int 1]) := by
  intro T hT X
  obtain ⟨fs, hret, hrun, hended, hW, hframe⟩ := X.leave (v := some (.int 1)) (hlocks := hlocks) (fun h => by rw [hr] at h; cases h)
  have hmeth' : T.vm.method? m = some meth := X.method'
  refine ⟨T.setFrames fs, ?_, .returned (some (.int 1)), hrun, hended, rfl, ⟨_, rfl⟩, hW, hframe⟩
  jvm_step X.here [X.here.top, hx, hb, hdg, hmeth', hr, ret, narrow_b1]
  (try refine ⟨rfl, ?_⟩); (try refine ⟨rfl, ?_⟩)
  first | (intro acts; rw [hret _ acts rfl rfl rfl]) | rw [hret _ _ rfl rfl rfl]
  exact Steps.refl _
/-- what holds at the law's entry: the machine, the code, the tables' words (any of lw_tbl by 'hts w (by decide +kernel)'), the script of L ints xs at the cell b, what the Statement gives of the start (any of its parts by flat_of_before) -/
def lw_At (p : Program) (s : State) (m : MethodId) (meth : Method) (c : Code) (b L : Nat) (xs : Nat → Int32) : Prop :=
  p.tables.exec = Jvm.exec ∧ c.code = code ∧ meth.sig.returnType = ret ∧ c.maxLocals = 4 ∧ s.vm.findClass R_law = some m.cls ∧ (∀ w ∈ lw_tbl, w.before #[Value.ref b] s = true) ∧ va_X b L xs s s.heap ∧ b < s.heap.size ∧ meth.locks = false ∧ (Jvm.Cond.and given_1 narrow_1).before #[Value.ref b] s = true

/-! ===== from the law's entry to the small machine's ===== -/
def q_g0 (L : Nat) : q_G := (q_xs L, 0, 0)
def q_sidx : List Nat := [96, 102, 104, 106, 108, 110, 112, 114, 116, 118, 120, 122]
def q_stx : List String := ["plays", "costs", "owes", "or", "and", "not", "more", "apart", "matter", "night", "often", "purse"]
def q_tm (i : Nat) : Term := .string "SomebodyElseTonight$Reader" (q_sidx.getD i 0)
abbrev q_giv : List Cond := flatC (Jvm.Cond.and given_1 narrow_1)
def q_tnm : List String := ["FIRST_TEXT", "KIND_ABOVE", "FACTORIAL", "NOBODY_HIMSELF"]
def q_tt (k : Nat) : Term := .static "SomebodyElseTonight" (q_tnm.getD k "") "[I"
theorem q_n_arr : ∀ k, k < 4 → Cond.arrayOf (q_tt k) .int ∈ q_giv := by decide +kernel
theorem q_n_len : ∀ k, k < 4 → Cond.eq (.length (q_tt k)) (.int (Int32.ofNat (q_stabs.getD k []).length)) ∈ q_giv := by decide +kernel
theorem q_n_el : ∀ k, k < 4 → ∀ j, j < (q_stabs.getD k []).length → Cond.eq (.elem (q_tt k) (.int (Int32.ofNat j))) (.int ((q_stabs.getD k []).getD j 0)) ∈ q_giv := by decide +kernel
theorem q_n_lay : ∀ k, k < 4 → Cond.laysStatic "SomebodyElseTonight" (q_tnm.getD k "") "[I" ∈ lw_tbl := by decide +kernel
theorem q_n_ini : Cond.initialized "SomebodyElseTonight" ∈ lw_tbl := by decide +kernel
theorem q_s_len : ∀ i, i < 12 → q_slens.getD i 0 < 2 ^ 31 := by decide +kernel
theorem q_s_ex : ∀ i, i < 12 → Cond.exactly (q_tm i) "java/lang/String" ∈ q_giv := by decide +kernel
theorem q_s_co : ∀ i, i < 12 → Cond.eq (.field (q_tm i) "java/lang/String" "coder" "B") (.int 0) ∈ q_giv := by decide +kernel
theorem q_s_ar : ∀ i, i < 12 → Cond.arrayOf (.field (q_tm i) "java/lang/String" "value" "[B") .byte ∈ q_giv := by decide +kernel
theorem q_s_le : ∀ i, i < 12 → Cond.eq (.length (.field (q_tm i) "java/lang/String" "value" "[B")) (.int (Int32.ofNat (q_slens.getD i 0))) ∈ q_giv := by decide +kernel
theorem q_s_el : ∀ i, i < 12 → ∀ j, j < q_slens.getD i 0 → Cond.eq (.elem (.field (q_tm i) "java/lang/String" "value" "[B") (.int (Int32.ofNat j))) (.int ((q_sbyts.getD i []).getD j 0)) ∈ q_giv := by decide +kernel
theorem q_s_ne : ∀ i, i < 12 → ∀ j, j < 12 → i ≠ j → Cond.not (Cond.eq (q_tm i) (q_tm j)) ∈ q_giv ∨ Cond.not (Cond.eq (q_tm j) (q_tm i)) ∈ q_giv := by decide +kernel
theorem q_s_ref : ∀ i, i < 12 → Cond.stringRef "SomebodyElseTonight$Reader" (q_sidx.getD i 0) (q_stx.getD i "") ∈ lw_tbl := by decide +kernel
theorem q_s_strs : ∀ q ∈ q_strs, ∃ i, i < 12 ∧ q.1.2.2 = 910 + i ∧ q_cn q.1.1 = "SomebodyElseTonight$Reader" ∧ q.1.2.1 = q_sidx.getD i 0 ∧ q.2 = q_stx.getD i "" := by decide +kernel
theorem q_i_cs : Cond.eq (.static "java/lang/String" "COMPACT_STRINGS" "Z") (.int 1) ∈ q_giv ∧ Cond.laysStatic "java/lang/String" "COMPACT_STRINGS" "Z" ∈ lw_tbl ∧ Cond.initialized "java/lang/String" ∈ lw_tbl := by decide +kernel
theorem q_i_ad : Cond.eq (.static "java/lang/StringUTF16" "$assertionsDisabled" "Z") (.int 1) ∈ q_giv ∧ Cond.laysStatic "java/lang/StringUTF16" "$assertionsDisabled" "Z" ∈ lw_tbl ∧ Cond.initialized "java/lang/StringUTF16" ∈ lw_tbl := by decide +kernel
theorem q_i_hi : Cond.eq (.static "java/lang/StringUTF16" "HI_BYTE_SHIFT" "I") (.int 0) ∈ q_giv ∧ Cond.laysStatic "java/lang/StringUTF16" "HI_BYTE_SHIFT" "I" ∈ lw_tbl := by decide +kernel
theorem q_i_lo : Cond.eq (.static "java/lang/StringUTF16" "LO_BYTE_SHIFT" "I") (.int 8) ∈ q_giv ∧ Cond.laysStatic "java/lang/StringUTF16" "LO_BYTE_SHIFT" "I" ∈ lw_tbl := by decide +kernel
theorem q_i_si : Cond.isRef (.static "jdk/internal/util/Preconditions" "SIOOBE_FORMATTER" "Ljava/util/function/BiFunction;") ∈ q_giv ∧ Cond.laysStatic "jdk/internal/util/Preconditions" "SIOOBE_FORMATTER" "Ljava/util/function/BiFunction;" ∈ lw_tbl ∧ Cond.initialized "jdk/internal/util/Preconditions" ∈ lw_tbl := by decide +kernel
theorem q_tl_all : ∀ q ∈ q_tl, (∃ k, k < 4 ∧ q.1.2.2.1 = 900 + k ∧ q.2 = ("SomebodyElseTonight", q_tnm.getD k "", "[I")) ∨ (q.1.2.2.1 = 950 ∧ q.2 = ("jdk/internal/util/Preconditions", "SIOOBE_FORMATTER", "Ljava/util/function/BiFunction;")) ∨ (q.1.2.2.1 = 0 ∧ q.1.2.2.2 = 1 ∧ q.2 = ("java/lang/String", "COMPACT_STRINGS", "Z")) ∨ (q.1.2.2.1 = 0 ∧ q.1.2.2.2 = 1 ∧ q.2 = ("java/lang/StringUTF16", "$assertionsDisabled", "Z")) ∨ (q.1.2.2.1 = 0 ∧ q.1.2.2.2 = 0 ∧ q.2 = ("java/lang/StringUTF16", "HI_BYTE_SHIFT", "I")) ∨ (q.1.2.2.1 = 0 ∧ q.1.2.2.2 = 8 ∧ q.2 = ("java/lang/StringUTF16", "LO_BYTE_SHIFT", "I")) := by decide +kernel
theorem q_inst : ∀ c, c < 9 → q_gm (.instantiable (q_cn c) (q_N c)) := by
  have h : ∀ c, c < 9 → ∃ e ∈ q_ncl, e.2.2 = c := by decide +kernel
  intro c hc
  obtain ⟨e, h1, h2⟩ := h c hc
  have := (q_ncl_ok e h1).2.2.1
  rw [h2] at this
  exact this
theorem q_xs_arr {L k n : Nat} (hk : 900 ≤ k) (h : q_xs L k = .inl n) : (k = 905 ∧ n = L) ∨ (k < 904 ∧ n = (q_stabs.getD (k - 900) []).length) ∨ (930 ≤ k ∧ k < 942 ∧ n = q_slens.getD (k - 930) 0) := by
  unfold q_xs at h
  split at h
  · next h1 => exact Or.inl ⟨h1, (Sum.inl.inj h).symm⟩
  · split at h
    · next h1 => exact Or.inr (Or.inl ⟨h1, (Sum.inl.inj h).symm⟩)
    · split at h
      · cases h
      · split at h
        · cases h
        · split at h
          · cases h
          · split at h
            · next h1 h2 h3 => exact Or.inr (Or.inr ⟨by omega, h3, (Sum.inl.inj h).symm⟩)
            · cases h
theorem q_env0 {p : Program} {s : State} {m : MethodId} {meth : Method} {c : Code} {b L : Nat} {xs : Nat → Int32} (C0 : lw_At p s m meth c b L xs) : ∃ (ex : Nat → Value) (D : va_G) (cI : ClassId) (cR : Nat → ClassId), ex 905 = .ref b ∧ q_Env L xs ex D cI cR (fun q : Nat => s.heap.size ≤ q) s := by
  obtain ⟨hx, hb, hr, hml, hown, hts, hX, hbl, hlocks, hgv⟩ := C0
  have hA : ∀ a : Nat, a < s.heap.size → ¬ (fun q : Nat => s.heap.size ≤ q) a := fun a h => Nat.not_le.mpr h
  have hg : ∀ w ∈ q_giv, w.before #[Value.ref b] s = true := flat_of_before _ hgv
  have hgt : ∀ {w : Cond}, q_gm w → w.before #[Value.ref b] s = true := fun h => hts _ h.1
  -- classes
  have hcls : ∀ c : Nat, ∃ q : ClassId × (Nat → Nat), c < 9 → u_Kn s (q_cn c) (q_T c) (q_N c) q.1 q.2 := by
    intro c
    by_cases hc : c < 9
    · obtain ⟨cC, iS, h⟩ := u_known (ws := q_good) (fun w hw => hts w (List.mem_filter.mp hw).1) (q_lay c hc) (hgt (q_inst c hc))
      exact ⟨(cC, iS), fun _ => h⟩
    · exact ⟨(0, fun _ => 0), fun h => absurd h hc⟩
  obtain ⟨Df, hDf⟩ := Classical.axiomOfChoice hcls
  -- array classes
  obtain ⟨cI, kI, compI, i1, i2, i3⟩ := Cond.arrayClass_spec (hgt q_ac)
  have hao4 : va_AO RX4 s := va_AO.of (hts _ q_ao4)
  have hao6 : va_AO RX6 s := va_AO.of (hts _ q_ao6)
  obtain ⟨p4, c4, k4, a1, a2, a3, a4, a5⟩ := Cond.arrayOver_spec hao4
  obtain ⟨p6, c6, k6, b1, b2, b3, b4, b5⟩ := Cond.arrayOver_spec hao6
  -- tables
  have htab : ∀ k : Nat, ∃ t : Nat, k < 4 → (q_tt k).eval #[Value.ref b] s none [] s = some (.ref t) ∧ va_T .int t (q_stabs.getD k []).length (fun j => .int ((q_stabs.getD k []).getD j 0)) (fun q : Nat => s.heap.size ≤ q) s s.heap := by
    intro k
    by_cases hk : k < 4
    · obtain ⟨t, h1, h2⟩ := va_Tof (tm := q_tt k) (ty := .int) (N := (q_stabs.getD k []).length) (f := fun j => .int ((q_stabs.getD k []).getD j 0)) (A := fun q : Nat => s.heap.size ≤ q) (by
        have : ∀ k, k < 4 → (q_stabs.getD k []).length < 2 ^ 31 := by decide +kernel
        exact this k hk) (hg _ (q_n_arr k hk)) (va_eqt (hg _ (q_n_len k hk))) (fun j hj => va_eqt (hg _ (q_n_el k hk j hj))) hA
      exact ⟨t, fun _ => ⟨h1, h2⟩⟩
    · exact ⟨0, fun h => absurd h hk⟩
  obtain ⟨tf, htf⟩ := Classical.axiomOfChoice htab
  -- texts
  obtain ⟨adK, adV, hS, hK⟩ := vk_Sof (N := 12) (tm := q_tm) (len := q_slens) (byt := q_sbyts) (A := fun q : Nat => s.heap.size ≤ q) q_s_len (fun i hi => hg _ (q_s_ex i hi)) (fun i hi => hg _ (q_s_co i hi)) (fun i hi => hg _ (q_s_ar i hi)) (fun i hi => hg _ (q_s_le i hi)) (fun i hi j hj => hg _ (q_s_el i hi j hj)) (fun i j hi hj hn => (q_s_ne i hi j hj hn).imp (hg _) (hg _)) hA
  -- the formatter
  obtain ⟨sio, hsio, hsz⟩ : ∃ v : Value, (v = .null ∨ ∃ a, v = .ref a) ∧ va_Z "jdk/internal/util/Preconditions" "SIOOBE_FORMATTER" "Ljava/util/function/BiFunction;" v (fun q : Nat => s.heap.size ≤ q) s s.heap := by
    rcases va_Zqof (hts _ q_i_si.2.1) (hts _ q_i_si.2.2) (hg _ q_i_si.1) hA with h | ⟨t, h⟩
    · exact ⟨_, Or.inl rfl, h⟩
    · exact ⟨_, Or.inr ⟨t, rfl⟩, h⟩
  let ex : Nat → Value := fun k => if k = 905 then .ref b else if k < 904 then .ref (tf (k - 900)) else if k < 922 then .ref (adK (k - 910)) else if k < 942 then .ref (adV (k - 930)) else if k = 950 then sio else .ref 0
  have e905 : ex 905 = .ref b := rfl
  have eT : ∀ k, k < 4 → ex (900 + k) = .ref (tf k) := by
    intro k hk
    show (if 900 + k = 905 then _ else _) = _
    rw [if_neg (by omega), if_pos (by omega), Nat.add_sub_cancel_left]
  have eK : ∀ i, i < 12 → ex (910 + i) = .ref (adK i) := by
    intro k hk
    show (if 910 + k = 905 then _ else _) = _
    rw [if_neg (by omega), if_neg (by omega), if_pos (by omega), Nat.add_sub_cancel_left]
  have eV : ∀ i, i < 12 → ex (930 + i) = .ref (adV i) := by
    intro k hk
    show (if 930 + k = 905 then _ else _) = _
    rw [if_neg (by omega), if_neg (by omega), if_neg (by omega), if_pos (by omega), Nat.add_sub_cancel_left]
  have e950 : ex 950 = sio := rfl
  refine ⟨ex, (fun k => (Df k).1, fun k => (Df k).2), cI, fun k => if k = 4 then c4 else c6, e905, ⟨fun cc q hq => ?_, fun k q hq => ?_⟩, fun w hw hn => va_Nw.of ?_ (hts w hw), hao4, hao6, fun k n hk hn => ?_, fun k h1 h2 => ?_, fun q hq => ?_, fun q hq => ?_, fun k hk => ?_⟩
  · by_cases hc : cc < 9
    · rw [q_vw cc hc] at hq
      cases hq
      exact hDf cc hc
    · have : (9 : Nat) ≤ cc := by omega
      rw [List.getElem?_eq_none (by exact this)] at hq
      cases hq
  · match k, hq with
    | 0, hq => cases hq; exact ⟨fun n z => ⟨fun k h => (by cases h), kI, i2, compI, i3⟩, i1⟩
    | 1, hq => cases hq; exact ⟨fun n z => ⟨fun k h => (by cases h), k4, a3, p4, a4⟩, ⟨k4, p4, a3, a4, a1, a5⟩⟩
    | 2, hq => cases hq; exact ⟨fun n z => ⟨fun k h => (by cases h), k6, b3, p6, b4⟩, ⟨k6, p6, b3, b4, b1, b5⟩⟩
    | k + 3, hq => simp at hq
  · cases w <;> first | rfl | (simp [q_isN] at hn)
  · rcases q_xs_arr hk hn with ⟨h0, hnn⟩ | ⟨h1, hnn⟩ | ⟨h1, h2, hnn⟩
    · subst h0
      subst hnn
      refine ⟨b, e905, ?_⟩
      rw [if_pos (by decide)]
      obtain ⟨scr, x1, x2, x3, x4, x5⟩ := hX
      refine ⟨scr, x1, x2, x3, Nat.le_of_eq x4.symm, by rw [x4], fun j hj => ?_, hA b hbl⟩
      rw [x5 j hj]
      rfl
    · obtain ⟨i, hi, rfl⟩ : ∃ i, i < 4 ∧ k = 900 + i := ⟨k - 900, by omega, by omega⟩
      refine ⟨tf i, eT i hi, ?_⟩
      rw [Nat.add_sub_cancel_left] at hnn
      rw [if_pos (by omega), hnn]
      have h3 := (htf i hi).2
      have : (fun j => Value.int (q_xm xs (900 + i) j)) = fun j => Value.int ((q_stabs.getD i []).getD j 0) := by
        funext j
        unfold q_xm
        rw [if_neg (by omega), if_pos (by omega), Nat.add_sub_cancel_left]
      rw [this]
      exact h3
    · obtain ⟨i, hi, rfl⟩ : ∃ i, i < 12 ∧ k = 930 + i := ⟨k - 930, by omega, by omega⟩
      refine ⟨adV i, eV i hi, ?_⟩
      rw [Nat.add_sub_cancel_left] at hnn
      rw [if_neg (by omega), hnn]
      have h3 := (hS.1 i hi).2.2.2
      have : (fun j => Value.int (q_xm xs (930 + i) j)) = fun j => Value.int ((q_sbyts.getD i []).getD j 0) := by
        funext j
        unfold q_xm
        rw [if_neg (by omega), if_neg (by omega), if_neg (by omega), Nat.add_sub_cancel_left]
      rw [this]
      exact h3
  · obtain ⟨i, hi, rfl⟩ : ∃ i, i < 12 ∧ k = 910 + i := ⟨k - 910, by omega, by omega⟩
    obtain ⟨z1, z2, z3, -⟩ := hS.1 i hi
    refine ⟨adK i, eK i hi, z1, z2, ?_⟩
    rw [show 910 + i + 20 = 930 + i by omega, eV i hi]
    exact z3
  · obtain ⟨i, hi, h1, h2, h3, h4⟩ := q_s_strs q hq
    refine ⟨adK i, by rw [h1]; exact eK i hi, ?_⟩
    rw [h2, h3, h4]
    exact vk_R.of (hts _ (q_s_ref i hi)) (hK i hi)
  · obtain ⟨⟨o1, i1, x1, y1⟩, t1⟩ := q
    rcases q_tl_all _ hq with ⟨k, hk, h1, h2⟩ | ⟨h1, h2⟩ | ⟨h1, h2, h3⟩ | ⟨h1, h2, h3⟩ | ⟨h1, h2, h3⟩ | ⟨h1, h2, h3⟩
    · cases h1; cases h2
      show va_Z _ _ _ (if 900 + k = 0 then _ else ex (900 + k)) _ s s.heap
      rw [if_neg (by omega), eT k hk]
      exact va_Zof (hts _ (q_n_lay k hk)) (hts _ q_n_ini) (htf k hk).1 hA
    · cases h1; cases h2
      exact hsz
    · cases h1; cases h2; cases h3
      exact va_Zof (hts _ q_i_cs.2.1) (hts _ q_i_cs.2.2) (va_eqi (hg _ q_i_cs.1)) hA
    · cases h1; cases h2; cases h3
      exact va_Zof (hts _ q_i_ad.2.1) (hts _ q_i_ad.2.2) (va_eqi (hg _ q_i_ad.1)) hA
    · cases h1; cases h2; cases h3
      exact va_Zof (hts _ q_i_hi.2) (hts _ q_i_ad.2.2) (va_eqi (hg _ q_i_hi.1)) hA
    · cases h1; cases h2; cases h3
      exact va_Zof (hts _ q_i_lo.2) (hts _ q_i_ad.2.2) (va_eqi (hg _ q_i_lo.1)) hA
  · by_cases h950 : k = 950
    · subst h950
      rcases hsio with h | h
      · exact Or.inl ⟨h, rfl⟩
      · exact Or.inr h
    · right
      show ∃ a, (if k = 905 then _ else _) = _
      split
      · exact ⟨_, rfl⟩
      · split
        · exact ⟨_, rfl⟩
        · split
          · exact ⟨_, rfl⟩
          · split
            · exact ⟨_, rfl⟩
            · exact ⟨_, rfl⟩
/-- WHAT IS LEFT IS PURE: the law's run on the small machine -/
theorem q_start (hchk : ∀ x, x < 216 → q_ck x = true) (hpure : ∀ (L : Nat) (xs : Nat → Int32), L ≤ 3584 → q_C 215 100 [.ref 905] (q_g0 L) (q_xm xs) (fun v g _ => v = some (.int 1) ∧ g.2.1 ≤ 600000 ∧ g.2.2 ≤ 7302250))
    {p : Program} {e : Env} {s : State} {m : MethodId} {below : List Frame} {meth : Method} {c : Code} (l : Launch) {b L : Nat} {xs : Nat → Int32} (hL : L ≤ 3584) (C0 : lw_At p s m meth c b L xs) : W p l e room_1 s m #[Value.ref b] below meth c s.heap [] 0 0 (lw_Z below #[Value.ref b] s) (entryFrame m ([Value.ref b] : List Value).toArray 4) := by
  obtain ⟨ex, D, cI, cR, h905, hE⟩ := q_env0 C0
  obtain ⟨hx, hb, hr, hml, hown, hts, hX, hbl, hlocks, hgv⟩ := id C0
  obtain ⟨n, v, g', m', hrun, rfl, hc, hs⟩ := hpure L xs hL
  have hA : ∀ q : Nat, s.heap.size ≤ q → (fun q : Nat => s.heap.size ≤ q) q := fun _ h => h
  have hW : q_wr L xs ex ex cI cR (q_g0 L) (q_xm xs) [] := ⟨rfl, Nat.zero_le _, fun k hk => absurd hk (Nat.not_lt_zero k), fun k _ => ⟨rfl, rfl, fun _ => rfl⟩⟩
  have hrf := hW.ref hE.2.2.2.2.2.2.2.2
  have hP : va_P D vwCl [] s.heap := fun k q h => by simp at h
  have hD : va_D (fun q : Nat => s.heap.size ≤ q) [] := ⟨fun i j p q h => by simp at h, fun k q h => by simp at h⟩
  have has : q_sr ex (q_g0 L).2.1 [.ref 905] [.ref b] := ⟨_, _, rfl, ⟨Or.inr (by decide), h905.symm⟩, rfl⟩
  rw [lg_entry_eq]
  refine q_sound (l := l) (fun x hx => hchk x (by omega)) n p e room_1 s m #[Value.ref b] below meth c _ (fun q : Nat => s.heap.size ≤ q) 215 0 100 _ [] (q_g0 L) (q_xm xs) _ g' m' ex [] s.heap [] _ [] 0 0 hrun (hchk 215 (by decide)) hx hb hml hown (fun w hw => hts w (List.mem_filter.mp hw).1) (fun h => absurd h (by decide +kernel)) hE hA (Nat.le_of_ble_eq_true rfl) (Nat.le_of_ble_eq_true rfl) (by show 0 + (g'.2.1 - 0) ≤ 600000; omega) (by show 0 + (g'.2.2 - 0) ≤ 7302250; omega) ⟨hW, hP, hD, va_S.rf, q_entry_lr hrf has (by decide +kernel), rfl⟩ ?_
  intro i x y pcr lvr str ad' ws' H' locs' ls' rst' hi hret hex S
  obtain ⟨hW', hP', hD', hS', hl', hst'⟩ := S
  obtain ⟨hdg, -⟩ := q_ck_use (hchk 215 (by decide)) hi
  have hrt : q_rt 215 = some .boolean := rfl
  rw [hrt] at hret
  refine va_forget (fun q hq => hS'.2.2 q hq) (W.widen (k := 600000) (n := 7302250) (by show 0 + (g'.2.1 - 0) ≤ 600000; omega) (by show 0 + (g'.2.2 - 0) ≤ 7302250; omega) ?_)
  unfold q_ret at hret
  split at hret
  · next q1 => cases q1
  · split at hret
    · cases hret
      obtain ⟨r, rfl, hr2⟩ := hst'.i
      cases (show r = [] from hr2)
      exact lw_ret hx hb hr hlocks hdg
    · cases hret
  · next q1 => cases q1
  · next q1 => cases q1
  · next q1 => cases q1
  · next q1 => cases q1
  · next q1 => cases q1
  · next q1 => cases q1
  · cases hret
