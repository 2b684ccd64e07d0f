/-! ===== the law begins: both objects are made, nothing has been asked ===== -/
def y_MM (m1 : q_M) : q_M := q_zero (q_up (q_up (q_zero (q_zero (q_up (q_up (q_zero (q_zero (q_up (q_up (q_zero (q_zero (q_up (q_up (q_zero (q_ZM 13 29 (q_up (q_up m1 2 3 (nI 1)) 0 4 (nI 0))) 30) 30 0 (-1 : Int32)) 30 1 (nI 0)) 31) 32) 32 0 (-1 : Int32)) 32 1 (nI 0)) 33) 34) 34 0 (-1 : Int32)) 34 1 (nI 0)) 35) 36) 36 0 (-1 : Int32)) 36 1 (nI 0)) 37
def y_st0 : ZS := (fun _ => 0, fun _ _ => 0, fun _ => 0)
def y_tx0 (_ : Nat) (p : Nat) : List Nat := match p with
  | 0 => [100060, 0, 100003, 18, 16]
  | 1 => [100010]
  | _ => [100005]
def y_hh0 : ZH := (fun _ => (-1 : Int32), fun _ => 0, fun _ _ => 0)
theorem y_fo_1 : (y_fo y_S0 10 0 0 0 0).2.1 = 6 := by decide +kernel
theorem y_fo_2 : (y_fo y_S0 10 0 0 0 0).2.2 = 8 := by decide +kernel
theorem y_S0_e : y_S0 5 = (-20 : Int32) ∧ y_S0 7 = (-20 : Int32) ∧ y_S0 9 = (-20 : Int32) := by decide +kernel
theorem y_S0_0 : y_S0 0 = z_cc 100060 ∧ y_S0 1 = z_cc 0 ∧ y_S0 2 = z_cc 100003 ∧ y_S0 3 = z_cc 18 ∧ y_S0 4 = z_cc 16 ∧ y_S0 6 = z_cc 100010 ∧ y_S0 8 = z_cc 100005 := by decide +kernel
section
variable {f : Nat → q_Sh} {L : Nat} {xs : Nat → Int32} {m m1 m' : q_M} {K : Option Value → q_G → q_M → Prop}
theorem g0_B : q_g0 L = q_B (q_xs L) 0 [] L 0 := rfl
theorem ZM_0 : q_zero m 0 = q_ZM 0 1 m := by
  funext k i
  show (if k = 0 then 0 else m k i) = if 0 ≤ k ∧ k < 1 then 0 else m k i
  by_cases q : k = 0
  · rw [if_pos q, if_pos (by omega)]
  · rw [if_neg q, if_neg (by omega)]
theorem ZM_38 : q_zero m 38 = q_ZM 38 39 m := by
  funext k i
  show (if k = 38 then 0 else m k i) = if 38 ≤ k ∧ k < 39 then 0 else m k i
  by_cases q : k = 38
  · rw [if_pos q, if_pos (by omega)]
  · rw [if_neg q, if_neg (by omega)]
theorem y_va6 : (va_up (va_up (va_up (va_up (va_up (va_up (fun _ => none) 0 (some 10)) 1 none) 2 none) 3 none) 4 none) 5 none) = q_tf 0 := by
  funext i
  show va_up (va_up (va_up (va_up (va_up (va_up (fun _ => none) 0 (some 10)) 1 none) 2 none) 3 none) 4 none) 5 none i = q_tf 0 i
  unfold q_tf
  by_cases q5 : i = 5
  · rw [q5, va_up_e]; rfl
  rw [va_up_n _ _ q5]
  by_cases q4 : i = 4
  · rw [q4, va_up_e]; rfl
  rw [va_up_n _ _ q4]
  by_cases q3 : i = 3
  · rw [q3, va_up_e]; rfl
  rw [va_up_n _ _ q3]
  by_cases q2 : i = 2
  · rw [q2, va_up_e]; rfl
  rw [va_up_n _ _ q2]
  by_cases q1 : i = 1
  · rw [q1, va_up_e]; rfl
  rw [va_up_n _ _ q1]
  by_cases q0 : i = 0
  · rw [q0, va_up_e]; rfl
  rw [va_up_n _ _ q0, if_neg q0, if_neg (by omega)]
theorem y_va4 : (va_up (va_up (va_up (va_up (fun _ => none) 0 (some 30)) 1 (some 32)) 2 (some 34)) 3 (some 36)) = q_sf := by
  funext i
  unfold q_sf
  by_cases q3 : i = 3
  · rw [q3, va_up_e]; rfl
  rw [va_up_n _ _ q3]
  by_cases q2 : i = 2
  · rw [q2, va_up_e]; rfl
  rw [va_up_n _ _ q2]
  by_cases q1 : i = 1
  · rw [q1, va_up_e]; rfl
  rw [va_up_n _ _ q1]
  by_cases q0 : i = 0
  · rw [q0, va_up_e]; rfl
  rw [va_up_n _ _ q0, if_neg (by omega)]
theorem B_38 : q_B f 0 ((.inr (.inr (7, [some (.ref 1), some (.ref 2), some (.ref 3), some (.ref 19), none, some (.ref 26), some (.ref 29)])) : q_Sh) :: (.inr (.inr (2, [some (.ref 2), some (.ref 3), some (.ref 15), some (.ref 16), some (.ref 17), some (.ref 18)])) : q_Sh) :: (.inr (.inr (5, [some (.ref 3), some (.ref 10), some (.ref 12), none, some (.ref 13)])) : q_Sh) :: (.inr (.inr (1, [none, none, none, some (.ref 4), some (.ref 5), some (.ref 6), some (.ref 7), some (.ref 8), some (.ref 9)])) : q_Sh) :: (.inl 6 : q_Sh) :: (.inl 6 : q_Sh) :: (.inl 6 : q_Sh) :: (.inl 6 : q_Sh) :: (.inl 6 : q_Sh) :: (.inl 36 : q_Sh) :: (.inr (.inr (6, [some (.ref 11), none, none])) : q_Sh) :: (.inl 10 : q_Sh) :: (.inr (.inl (6, 6, va_up (va_up (va_up (va_up (va_up (va_up (fun _ => none) 0 (some 10)) 1 none) 2 none) 3 none) 4 none) 5 none)) : q_Sh) :: (.inr (.inr (0, [none, none, none, none, none, none, some (.ref 14)])) : q_Sh) :: (.inl 40 : q_Sh) :: (.inl 36 : q_Sh) :: (.inl 64 : q_Sh) :: (.inl 6 : q_Sh) :: (.inl 6 : q_Sh) :: (.inr (.inr (1, [none, none, none, some (.ref 20), some (.ref 21), some (.ref 22), some (.ref 23), some (.ref 24), some (.ref 25)])) : q_Sh) :: (.inl 6 : q_Sh) :: (.inl 6 : q_Sh) :: (.inl 6 : q_Sh) :: (.inl 6 : q_Sh) :: (.inl 6 : q_Sh) :: (.inl 36 : q_Sh) :: (.inr (.inr (3, [some (.ref 27), none, some (.ref 28), none, none, none, none, none])) : q_Sh) :: (.inl 160 : q_Sh) :: (.inl 160 : q_Sh) :: (.inr (.inl (4, 4, va_up (va_up (va_up (va_up (fun _ => none) 0 (some 30)) 1 (some 32)) 2 (some 34)) 3 (some 36))) : q_Sh) :: (.inr (.inr (4, [none, none, some (.ref 31)])) : q_Sh) :: (.inl 40 : q_Sh) :: (.inr (.inr (4, [none, none, some (.ref 33)])) : q_Sh) :: (.inl 40 : q_Sh) :: (.inr (.inr (4, [none, none, some (.ref 35)])) : q_Sh) :: (.inl 40 : q_Sh) :: (.inr (.inr (4, [none, none, some (.ref 37)])) : q_Sh) :: (.inl 40 : q_Sh) :: []) L 850 = q_B (q_S [] L) 38 [] L 850 := by
  have h1 : (q_B f 0 ((.inr (.inr (7, [some (.ref 1), some (.ref 2), some (.ref 3), some (.ref 19), none, some (.ref 26), some (.ref 29)])) : q_Sh) :: (.inr (.inr (2, [some (.ref 2), some (.ref 3), some (.ref 15), some (.ref 16), some (.ref 17), some (.ref 18)])) : q_Sh) :: (.inr (.inr (5, [some (.ref 3), some (.ref 10), some (.ref 12), none, some (.ref 13)])) : q_Sh) :: (.inr (.inr (1, [none, none, none, some (.ref 4), some (.ref 5), some (.ref 6), some (.ref 7), some (.ref 8), some (.ref 9)])) : q_Sh) :: (.inl 6 : q_Sh) :: (.inl 6 : q_Sh) :: (.inl 6 : q_Sh) :: (.inl 6 : q_Sh) :: (.inl 6 : q_Sh) :: (.inl 36 : q_Sh) :: (.inr (.inr (6, [some (.ref 11), none, none])) : q_Sh) :: (.inl 10 : q_Sh) :: (.inr (.inl (6, 6, va_up (va_up (va_up (va_up (va_up (va_up (fun _ => none) 0 (some 10)) 1 none) 2 none) 3 none) 4 none) 5 none)) : q_Sh) :: (.inr (.inr (0, [none, none, none, none, none, none, some (.ref 14)])) : q_Sh) :: (.inl 40 : q_Sh) :: (.inl 36 : q_Sh) :: (.inl 64 : q_Sh) :: (.inl 6 : q_Sh) :: (.inl 6 : q_Sh) :: (.inr (.inr (1, [none, none, none, some (.ref 20), some (.ref 21), some (.ref 22), some (.ref 23), some (.ref 24), some (.ref 25)])) : q_Sh) :: (.inl 6 : q_Sh) :: (.inl 6 : q_Sh) :: (.inl 6 : q_Sh) :: (.inl 6 : q_Sh) :: (.inl 6 : q_Sh) :: (.inl 36 : q_Sh) :: (.inr (.inr (3, [some (.ref 27), none, some (.ref 28), none, none, none, none, none])) : q_Sh) :: (.inl 160 : q_Sh) :: (.inl 160 : q_Sh) :: (.inr (.inl (4, 4, va_up (va_up (va_up (va_up (fun _ => none) 0 (some 30)) 1 (some 32)) 2 (some 34)) 3 (some 36))) : q_Sh) :: (.inr (.inr (4, [none, none, some (.ref 31)])) : q_Sh) :: (.inl 40 : q_Sh) :: (.inr (.inr (4, [none, none, some (.ref 33)])) : q_Sh) :: (.inl 40 : q_Sh) :: (.inr (.inr (4, [none, none, some (.ref 35)])) : q_Sh) :: (.inl 40 : q_Sh) :: (.inr (.inr (4, [none, none, some (.ref 37)])) : q_Sh) :: (.inl 40 : q_Sh) :: []) L 850).1 = (q_B (q_S [] L) 38 [] L 850).1 := by
    funext k
    rw [B_1, B_1, if_neg (Nat.not_lt_zero k), Nat.sub_zero]
    by_cases q : k < 38
    · rw [if_pos q]
      rcases (show k = 0 ∨ k = 1 ∨ k = 2 ∨ k = 3 ∨ k = 4 ∨ k = 5 ∨ k = 6 ∨ k = 7 ∨ k = 8 ∨ k = 9 ∨ k = 10 ∨ k = 11 ∨ k = 12 ∨ k = 13 ∨ k = 14 ∨ k = 15 ∨ k = 16 ∨ k = 17 ∨ k = 18 ∨ k = 19 ∨ k = 20 ∨ k = 21 ∨ k = 22 ∨ k = 23 ∨ k = 24 ∨ k = 25 ∨ k = 26 ∨ k = 27 ∨ k = 28 ∨ k = 29 ∨ k = 30 ∨ k = 31 ∨ k = 32 ∨ k = 33 ∨ k = 34 ∨ k = 35 ∨ k = 36 ∨ k = 37 by omega) with rfl | rfl | rfl | rfl | rfl | rfl | rfl | rfl | rfl | rfl | rfl | rfl | rfl | rfl | rfl | rfl | rfl | rfl | rfl | rfl | rfl | rfl | rfl | rfl | rfl | rfl | rfl | rfl | rfl | rfl | rfl | rfl | rfl | rfl | rfl | rfl | rfl | rfl
      · rfl
      · rfl
      · rfl
      · rfl
      · rfl
      · rfl
      · rfl
      · rfl
      · rfl
      · rfl
      · rfl
      · rfl
      · exact congrArg (fun z => (Sum.inr (Sum.inl (6, 6, z)) : q_Sh)) y_va6
      · rfl
      · rfl
      · rfl
      · rfl
      · rfl
      · rfl
      · rfl
      · rfl
      · rfl
      · rfl
      · rfl
      · rfl
      · rfl
      · rfl
      · rfl
      · rfl
      · exact congrArg (fun z => (Sum.inr (Sum.inl (4, 4, z)) : q_Sh)) y_va4
      · rfl
      · rfl
      · rfl
      · rfl
      · rfl
      · rfl
      · rfl
      · rfl
    · rw [if_neg q, List.getElem?_eq_none (by simp only [List.length_cons, List.length_nil]; omega)]
      rfl
  exact Prod.ext h1 rfl
theorem y_MM_l {p : Nat} (h : p < 13) (h2 : p ≠ 2) (h0 : p ≠ 0) : y_MM m1 p = m1 p := by
  unfold y_MM
  rw [q_zero_n (by omega), q_up_f _ _ _ (by omega), q_up_f _ _ _ (by omega), q_zero_n (by omega), q_zero_n (by omega), q_up_f _ _ _ (by omega), q_up_f _ _ _ (by omega), q_zero_n (by omega), q_zero_n (by omega), q_up_f _ _ _ (by omega), q_up_f _ _ _ (by omega), q_zero_n (by omega), q_zero_n (by omega), q_up_f _ _ _ (by omega), q_up_f _ _ _ (by omega), q_zero_n (by omega)]
  funext i
  show (if 13 ≤ p ∧ p < 29 then 0 else q_up (q_up m1 2 3 (nI 1)) 0 4 (nI 0) p i) = m1 p i
  rw [if_neg (by omega), q_up_f _ _ _ h0, q_up_f _ _ _ h2]
theorem y_MM_h {p : Nat} (h : 38 ≤ p) : y_MM m1 p = m1 p := by
  unfold y_MM
  rw [q_zero_n (by omega), q_up_f _ _ _ (by omega), q_up_f _ _ _ (by omega), q_zero_n (by omega), q_zero_n (by omega), q_up_f _ _ _ (by omega), q_up_f _ _ _ (by omega), q_zero_n (by omega), q_zero_n (by omega), q_up_f _ _ _ (by omega), q_up_f _ _ _ (by omega), q_zero_n (by omega), q_zero_n (by omega), q_up_f _ _ _ (by omega), q_up_f _ _ _ (by omega), q_zero_n (by omega)]
  funext i
  show (if 13 ≤ p ∧ p < 29 then 0 else q_up (q_up m1 2 3 (nI 1)) 0 4 (nI 0) p i) = m1 p i
  rw [if_neg (by omega), q_up_f _ _ _ (by omega), q_up_f _ _ _ (by omega)]
theorem l_lj (f1 : ∀ k, k ≠ 10 → k ≠ 11 → m1 k = q_ZM 0 12 (q_xm xs) k) (f2 : ∀ x, x < 10 → m1 11 x = y_S0 x) (f3 : m1 10 1 = nI (y_fo y_S0 10 0 0 0 0).2.1) (f4 : m1 10 2 = nI (y_fo y_S0 10 0 0 0 0).2.2)
    (e1 : ∀ p, (p < 38 ∨ 58 ≤ p) → m' p = y_MM m1 p) (e38 : ∀ x, x < 21 → x ≠ 7 → x ≠ 10 → m' 38 x = 0) (e7 : m' 38 7 = nI 0) (e10 : m' 38 10 = nI 1) (e45 : m' 45 0 = nI 0 ∧ m' 45 1 = nI 5 ∧ m' 45 2 = nI 6 ∧ m' 45 3 = nI 7) (ecd : y_cd 0 [100060, 0, 100003, 18, 16, 100010, 100005] m') (e47 : ∀ x, x < 4 → m' 47 x = (-1 : Int32) ∧ m' 48 x = 0) (e42 : ∀ x, m' 42 x = 0) (e51 : ∀ i, i < 96 → m' 51 i = nI (y_wl i)) :
    LJ [] L xs y_st0 y_tx0 1 y_ft 0 y_hh0 (fun i => nI (y_wl i)) m' := by
  have n0 : nI 0 = (0 : Int32) := nI_0
  have z13 : ∀ p, p < 10 → p ≠ 2 → p ≠ 0 → ∀ i, m' p i = 0 := fun p hp h2 h0 i => by
    rw [e1 p (by omega), y_MM_l (by omega) h2 h0, f1 p (by omega) (by omega)]
    show (if 0 ≤ p ∧ p < 12 then 0 else q_xm xs p i) = 0
    rw [if_pos (by omega)]
  have p10 : m' 10 = m1 10 := (e1 10 (by omega)).trans (y_MM_l (by omega) (by omega) (by omega))
  have p11 : m' 11 = m1 11 := (e1 11 (by omega)).trans (y_MM_l (by omega) (by omega) (by omega))
  have r0 : z_rp [100060, 0, 100003, 18, 16] 0 1 := by have := ft_s0.2.2.1 0 [] 1 (by decide) rfl; rw [List.append_nil] at this; exact this
  have r1 : z_rp [100010] 0 1 := by have := ft_s1.2.2.1 0 [] 1 (by decide) rfl; rw [List.append_nil] at this; exact this
  have r2 : z_rp [100005] 0 1 := by have := ft_s2.2.2.1 0 [] 1 (by decide) rfl; rw [List.append_nil] at this; exact this
  have p3 : ∀ p, p < 3 → p = 0 ∨ p = 1 ∨ p = 2 := fun p hp => by omega
  refine ⟨⟨⟨⟨by decide, ⟨by decide, fun i _ _ => n0.symm⟩, by decide, fun g hg => absurd hg (Nat.not_lt_zero g)⟩, fun t ht => ⟨by show (7 : Nat) ≤ 157; decide, fun p hp => ?_⟩, by decide, by decide⟩, rfl, fun x hx => absurd hx List.not_mem_nil⟩,
    ⟨⟨fun x hx => (z13 3 (by decide) (by decide) (by decide) x).trans n0.symm, fun r hr g hg => absurd hg (Nat.not_lt_zero g), fun i hi => z13 9 (by decide) (by decide) (by decide) i⟩, ⟨⟨(e38 0 (by decide) (by decide) (by decide)).trans n0.symm, (e38 5 (by decide) (by decide) (by decide)).trans n0.symm, (e38 11 (by decide) (by decide) (by decide)).trans n0.symm⟩, fun g hg => absurd hg (Nat.not_lt_zero g), fun g hg => absurd hg (Nat.not_lt_zero g), fun i hi => e42 i⟩⟩,
    ⟨fun t ht => ?_, fun t ht => ?_⟩, ⟨?_, e10⟩, ⟨by decide, ?_, e7, fun i hi => absurd hi (Nat.not_lt_zero i)⟩, Or.inl ⟨(by rw [e1 0 (by omega)]; rfl), (e38 12 (by decide) (by decide) (by decide)).trans n0.symm⟩, fun k hk => ⟨Or.inl rfl, fun _ => rfl, by show (0 : Nat) ≤ 40; decide, ?_, (e47 k hk).1, ?_, (e47 k hk).2.trans n0.symm, fun i hi => absurd hi (Nat.not_lt_zero i)⟩, fun k hk => ?_, e51⟩
  · rcases p3 p hp with rfl | rfl | rfl
    · exact r0
    · exact r1
    · exact r2
  · have et : t = 0 := by omega
    subst et
    refine ⟨rfl, rfl, ?_, ?_, fun p hp => ?_⟩
    · show m' 10 1 = nI 6
      rw [p10, f3, y_fo_1]
    · show m' 10 2 = nI 8
      rw [p10, f4, y_fo_2]
    · rcases p3 p hp with rfl | rfl | rfl
      · refine ⟨?_, fun i hi => ?_⟩
        · show m' 11 5 = (-20 : Int32)
          rw [p11, f2 5 (by decide)]; exact y_S0_e.1
        · have hi5 : i < 5 := hi
          rcases (show i = 0 ∨ i = 1 ∨ i = 2 ∨ i = 3 ∨ i = 4 by omega) with rfl | rfl | rfl | rfl | rfl
          · show m' 11 0 = z_cc 100060
            rw [p11, f2 0 (by decide)]; exact y_S0_0.1
          · show m' 11 1 = z_cc 0
            rw [p11, f2 1 (by decide)]; exact y_S0_0.2.1
          · show m' 11 2 = z_cc 100003
            rw [p11, f2 2 (by decide)]; exact y_S0_0.2.2.1
          · show m' 11 3 = z_cc 18
            rw [p11, f2 3 (by decide)]; exact y_S0_0.2.2.2.1
          · show m' 11 4 = z_cc 16
            rw [p11, f2 4 (by decide)]; exact y_S0_0.2.2.2.2.1
      · refine ⟨?_, fun i hi => ?_⟩
        · show m' 11 7 = (-20 : Int32)
          rw [p11, f2 7 (by decide)]; exact y_S0_e.2.1
        · have hi5 : i < 1 := hi
          have e0 : i = 0 := by omega
          subst e0
          show m' 11 6 = z_cc 100010
          rw [p11, f2 6 (by decide)]; exact y_S0_0.2.2.2.2.2.1
      · refine ⟨?_, fun i hi => ?_⟩
        · show m' 11 9 = (-20 : Int32)
          rw [p11, f2 9 (by decide)]; exact y_S0_e.2.2
        · have hi5 : i < 1 := hi
          have e0 : i = 0 := by omega
          subst e0
          show m' 11 8 = z_cc 100005
          rw [p11, f2 8 (by decide)]; exact y_S0_0.2.2.2.2.2.2
  · have et : t = 0 := by omega
    subst et
    refine ⟨fun p hp => ?_, fun p hp i hi => ?_⟩
    · rcases (show p = 0 ∨ p = 1 ∨ p = 2 ∨ p = 3 by omega) with rfl | rfl | rfl | rfl
      · exact e45.1
      · exact e45.2.1
      · exact e45.2.2.1
      · exact e45.2.2.2
    · rcases p3 p hp with rfl | rfl | rfl
      · have hi5 : i < 5 := hi
        rcases (show i = 0 ∨ i = 1 ∨ i = 2 ∨ i = 3 ∨ i = 4 by omega) with rfl | rfl | rfl | rfl | rfl
        · exact ecd 0 (by decide)
        · exact ecd 1 (by decide)
        · exact ecd 2 (by decide)
        · exact ecd 3 (by decide)
        · exact ecd 4 (by decide)
      · have hi5 : i < 1 := hi
        have e0 : i = 0 := by omega
        subst e0
        exact ecd 5 (by decide)
      · have hi5 : i < 1 := hi
        have e0 : i = 0 := by omega
        subst e0
        exact ecd 6 (by decide)
  · rw [e1 2 (by omega)]; rfl
  · rw [e1 26 (by omega)]; rfl
  · rw [e1 (30 + 2 * k) (by omega)]
    rcases (show k = 0 ∨ k = 1 ∨ k = 2 ∨ k = 3 by omega) with rfl | rfl | rfl | rfl <;> rfl
  · rw [e1 (30 + 2 * k) (by omega)]
    rcases (show k = 0 ∨ k = 1 ∨ k = 2 ∨ k = 3 by omega) with rfl | rfl | rfl | rfl <;> rfl
  · rw [e1 k (by omega), y_MM_h (by omega), f1 k (by omega) (by omega)]
    funext i
    show (if 0 ≤ k ∧ k < 12 then 0 else q_xm xs k i) = q_xm xs k i
    rw [if_neg (by omega)]
theorem l_made (hK : ∀ m, LJ [] L xs y_st0 y_tx0 1 y_ft 0 y_hh0 (fun i => nI (y_wl i)) m → q_R 215 18 100 [some (.ref 905), some (.ref 0), some (.ref 38), some (.int (nI 0))] [] (GG [] L) m K) :
    q_C 215 100 [.ref 905] (q_g0 L) (q_xm xs) K := by
  have l0 : ∀ (z : q_Sh) n, q_new (q_B (q_xs L) 0 [] L 0) z n = q_B (q_xs L) 0 [z] L n := fun z n => by rw [B_new, Nat.zero_add]; rfl
  have b0 : (q_B (q_xs L) 0 [] L 0).2.1 = 0 := rfl
  simp only [e215, u215_0, u215_3, u215_3r, u215_4, q_push_s, q_push_n, q_sm_0, q_sm_i, q_sm_r, q_sm_n, q_sm_l, q_c1_0, q_c1_i, q_c1_r, q_c1_n, Nat.zero_add, Nat.reduceAdd, Nat.reduceMul, Nat.reduceSub, Nat.reduceLeDiff, Nat.reduceLT, Nat.reduceEqDiff, true_and, and_true, not_false_eq_true, if_true, if_false, ite_true, ite_false, or_true, true_or, or_false, false_or, not_true_eq_false, g0_B, b0, l0, qf_7, List.length_cons, List.length_nil, ZM_0]
  refine c_X7 (d := 93) (y_S0_x xs) (fun m1 f1 f2 f3 f4 => ?_)
  rw [B_38]
  show q_R _ _ _ _ _ _ (y_MM m1) _
  have l8 : ∀ (z : q_Sh) n, q_new (q_B (q_S [] L) 38 [] L 850) z n = q_B (q_S [] L) 38 [z] L (850 + n) := fun z n => by rw [B_new]; rfl
  have b8 : (q_B (q_S [] L) 38 [] L 850).2.1 = 38 := rfl
  simp only [u215_7, u215_7n, u215_8, u215_11, u215_11r, u215_12, q_push_s, q_push_n, q_sm_0, q_sm_i, q_sm_r, q_sm_n, q_sm_l, q_c1_0, q_c1_i, q_c1_r, q_c1_n, Nat.zero_add, Nat.reduceAdd, Nat.reduceMul, Nat.reduceSub, Nat.reduceLeDiff, Nat.reduceLT, Nat.reduceEqDiff, true_and, and_true, not_false_eq_true, if_true, if_false, ite_true, ite_false, or_true, true_or, or_false, false_or, not_true_eq_false, b8, l8, qf_8, List.length_cons, List.length_nil, ZM_38]
  refine c_X8 (d := 94) (fun k _ => rfl) (fun m' e1 e2 e3 e4 e5 e6 e7 e8 e9 => ?_)
  simp only [u215_15, u215_15n, u215_16, u215_17, q_push_s, q_push_n, q_sm_0, q_sm_i, q_sm_r, q_sm_n, q_sm_l, q_c1_0, q_c1_i, q_c1_r, q_c1_n, Nat.zero_add, Nat.reduceAdd, Nat.reduceMul, Nat.reduceSub, Nat.reduceLeDiff, Nat.reduceLT, Nat.reduceEqDiff, true_and, and_true, not_false_eq_true, if_true, if_false, ite_true, ite_false, or_true, true_or, or_false, false_or, not_true_eq_false]
  exact hK m' (l_lj f1 f2 f3 f4 e1 e2 e3 e4 e5 e6 e7 e8 e9)
theorem y_sum160 : ∀ T : List Nat, (∀ x, x ∈ T → x ≤ 160) → T.sum ≤ 160 * T.length
  | [], _ => Nat.le_refl 0
  | a :: T, h => by
    have h1 := h a List.mem_cons_self
    have h2 := y_sum160 T (fun x hx => h x (List.mem_cons_of_mem a hx))
    rw [List.sum_cons, List.length_cons]
    omega
end
theorem l_pure (L : Nat) (xs : Nat → Int32) (hL : L ≤ 3584) : q_C 215 100 [.ref 905] (q_g0 L) (q_xm xs) (fun v g _ => v = some (.int 1) ∧ g.2.1 ≤ 600000 ∧ g.2.2 ≤ 7302250) := by
  refine l_made (fun m l => ?_)
  refine l_law (wd := fun i => nI (y_wl i)) (fun _ _ => rfl) (show L ≤ 4000 by omega) (fun T s tx n tp z h m' l' => ⟨?_, ?_, ?_⟩) (L + 1) 0 [] y_st0 y_tx0 1 y_ft 0 y_hh0 m (by omega) (by omega) l
  · rw [of_eq_true y_11]
  · have h1 := l'.t
    have h2 := l'.iw.2.2.2
    show 58 + 2 * T.length ≤ 600000
    omega
  · have h1 := l'.t
    have h2 := l'.iw.2.2.2
    have h3 := y_sum160 T l'.1.2.2
    show 3121 + 3 * T.length + T.sum ≤ 7302250
    omega
