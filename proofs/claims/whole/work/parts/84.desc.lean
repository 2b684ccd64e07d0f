/-! ===== an E by its levels: 7 one, 6 product, 5 sum, 3 negation, 2 both, 1 either ===== -/
def y_top (l : Nat) : List Nat → Prop
  | [] => True
  | s :: _ => y_rk s < l
theorem y_uw_top {l : Nat} : ∀ {H : List Nat} (out : List Nat), y_top l H → y_uw l H out = (H, out)
  | [], out, _ => rfl
  | s :: H, out, h => by
    unfold y_uw
    rw [if_neg (by have : y_rk s < l := h; omega)]
theorem y_uw_uw {a b : Nat} (h : a ≤ b) : ∀ (H out : List Nat), y_uw a (y_uw b H out).1 (y_uw b H out).2 = y_uw a H out
  | [], out => rfl
  | s :: H, out => by
    by_cases q : b ≤ y_rk s
    · have e1 : y_uw b (s :: H) out = y_uw b H (out ++ [s]) := by conv => lhs; unfold y_uw; rw [if_pos q]
      have e2 : y_uw a (s :: H) out = y_uw a H (out ++ [s]) := by conv => lhs; unfold y_uw; rw [if_pos (by omega)]
      rw [e1, e2]
      exact y_uw_uw h H _
    · have e1 : y_uw b (s :: H) out = (s :: H, out) := by unfold y_uw; rw [if_neg q]
      rw [e1]
theorem y_uw_go {l s : Nat} (h : l ≤ y_rk s) (H out : List Nat) : y_uw l (s :: H) out = y_uw l H (out ++ [s]) := by
  conv => lhs; unfold y_uw; rw [if_pos h]
theorem y_top_le {a b : Nat} (h : a ≤ b) {H : List Nat} (ht : y_top a H) : y_top b H := by
  match H with
  | [] => trivial
  | s :: H => exact Nat.lt_of_lt_of_le ht h
/-- how far above its level a sign below may bind -/
def y_lt (l : Nat) : Nat := if l = 3 then 4 else if l = 7 then 8 else l
def y_ent (tp : Nat → Nat) (z l o p : Nat) (mn : Bool) (H : List Nat) : Prop := y_op H = o ∧ y_top (y_lt l) H ∧ (l ≤ 3 → mn = true) ∧ (5 ≤ l → mn = true → y_tt tp z p ≠ 6)
def y_ad (l : Nat) : Nat := if l = 7 then 0 else if l = 6 then 1 else if l = 5 then 2 else if l = 3 then 3 else if l = 2 then 4 else 5
def y_dp (l o : Nat) : Nat := 1 + 5 * (5 - o) + y_ad l
def y_rp (l o : Nat) (cs : List Nat) : Prop := ∀ k rest e, k + y_dp l o ≤ 40 → z_rp rest (k + 1) e → z_rp (cs ++ rest) k e
def y_ok (tp : Nat → Nat) (z l o p p' : Nat) (cs : List Nat) : Prop := (∀ mn H out, y_ent tp z l o p mn H → ∃ mn' H' out', y_uw l H' out' = y_uw l H (out ++ cs) ∧ (l ≤ 3 → y_tt tp z p' = 60 ∨ y_tt tp z p' = 61 → y_t4 (y_uw 5 H' out').1) ∧ ∀ g pe oe, y_run tp z false mn' H' p' out' g pe oe → y_run tp z true mn H p out g pe oe) ∧ y_rp l o cs ∧ (cs.length + p ≤ p' ∧ p' ≤ z)
def y_no (tp : Nat → Nat) (z l o p pf : Nat) : Prop := (∀ mn H out, y_ent tp z l o p mn H → y_run tp z true mn H p out false pf []) ∧ pf ≤ z
def y_ex (tp : Nat → Nat) (z l p : Nat) : Prop := (l ≤ 6 → y_tt tp z p ≠ 42) ∧ (l ≤ 5 → y_tt tp z p ≠ 43 ∧ y_tt tp z p ≠ 45) ∧ (l ≤ 2 → y_tt tp z p ≠ 5) ∧ (l ≤ 1 → y_tt tp z p ≠ 4)
section
variable {tp : Nat → Nat} {z l o p p1 p2 pf : Nat} {cs cs1 cs2 : List Nat}
theorem y_val_lt (hg : ∀ x, y_dig (tp x) = true → tp x ≤ 57) : ∀ (c b : Nat), (∀ x, b ≤ x → x < b + c → y_dig (tp x) = true) → y_val tp b c < 10 ^ c
  | 0, b, _ => Nat.one_pos
  | c + 1, b, h => by
    have h1 := y_val_lt hg c b (fun x a a2 => h x a (by omega))
    have h2 := hg (b + c) (h (b + c) (by omega) (by omega))
    rw [y_val_s, Nat.pow_succ]
    omega
theorem y_code_b (hp : p ≤ z) (h : y_tt tp z p = 1 ∨ y_tt tp z p = 2) : y_code tp z p < 6 ∨ (100000 ≤ y_code tp z p ∧ y_code tp z p < 110000) := by
  have hb : y_tb tp z p < z := y_tt_pos (by omega)
  unfold y_code
  rcases h with h | h
  · rw [if_pos h]
    refine Or.inr ⟨by omega, ?_⟩
    have h' := h
    unfold y_tt at h'
    rw [if_pos hb] at h'
    by_cases hl : y_let (tp (y_tb tp z p)) = true
    · rw [if_pos hl] at h'
      exfalso
      have wle := y_wn_le (tp := tp) (y_tb tp z p) (y_te tp z p)
      revert h'
      repeat' split
      all_goals omega
    · rw [if_neg hl] at h'
      by_cases hd : y_dig (tp (y_tb tp z p)) = true
      · rw [if_pos hd] at h'
        by_cases h4 : y_te tp z p - y_tb tp z p ≤ 4
        · have hsk := (y_sk_le (pr := y_dig) (tp := tp) (z := z) _ (y_tb tp z p) rfl).2.2
          rw [← y_te_d hb hl hd] at hsk
          have hv := y_val_lt (tp := tp) (fun x hx => (of_decide_eq_true hx).2) (y_te tp z p - y_tb tp z p) (y_tb tp z p) (fun x a b => hsk x a (by omega))
          have hpow : 10 ^ (y_te tp z p - y_tb tp z p) ≤ 10 ^ 4 := Nat.pow_le_pow_right (by decide) h4
          have e : y_tv tp z p = y_val tp (y_tb tp z p) (y_te tp z p - y_tb tp z p) := by unfold y_tv; rw [if_neg hl]
          rw [e]
          have : (10 : Nat) ^ 4 = 10000 := by decide
          omega
        · rw [if_neg h4] at h'; omega
      · rw [if_neg hd] at h'
        exfalso
        by_cases hs : y_sig (tp (y_tb tp z p)) = true
        · rw [if_pos hs] at h'
          have := of_decide_eq_true hs
          omega
        · rw [if_neg hs] at h'; omega
  · rw [if_neg (by omega)]
    refine Or.inl ?_
    have h' := h
    unfold y_tt at h'
    rw [if_pos hb] at h'
    by_cases hl : y_let (tp (y_tb tp z p)) = true
    · rw [if_pos hl] at h'
      unfold y_tv
      rw [if_pos hl]
      generalize y_wn tp (y_tb tp z p) (y_te tp z p) = w at h' ⊢
      revert h'
      repeat' split
      all_goals omega
    · rw [if_neg hl] at h'
      exfalso
      by_cases hd : y_dig (tp (y_tb tp z p)) = true
      · rw [if_pos hd] at h'
        split at h' <;> omega
      · rw [if_neg hd] at h'
        by_cases hs : y_sig (tp (y_tb tp z p)) = true
        · rw [if_pos hs] at h'
          have := of_decide_eq_true hs
          omega
        · rw [if_neg hs] at h'; omega
theorem y_adv (hp : p ≤ z) (h0 : y_tt tp z p ≠ 0) : p + 1 ≤ y_te tp z p ∧ y_te tp z p ≤ z := (y_len hp (y_tt_pos h0)).2
theorem k_atom (hp : p ≤ z) (h : y_tt tp z p = 1 ∨ y_tt tp z p = 2) : y_ok tp z 7 o p (y_te tp z p) [y_code tp z p] := by
  obtain ⟨a1, a2⟩ := y_adv (tp := tp) hp (by omega)
  refine ⟨fun mn H out he => ⟨mn, _, _, y_uw_uw (Nat.le_refl 7) H (out ++ [y_code tp z p]), fun h3 => absurd h3 (by decide), fun g pe oe r => y_run.atom h r⟩, fun k rest e hk hr => ?_, by simp only [List.length_cons, List.length_nil]; omega, a2⟩
  have hd : 1 ≤ y_dp 7 o := by unfold y_dp; omega
  show z_rp (y_code tp z p :: rest) k e
  unfold z_rp
  rw [if_pos (y_code_b hp h)]
  exact ⟨by omega, hr⟩
theorem k_neg (hp : p ≤ z) (h : y_tt tp z p = 45) (ho : o < 5) (h1 : y_ok tp z 7 (o + 1) (y_te tp z p) p1 cs) : y_ok tp z 7 o p p1 (cs ++ [19]) := by
  obtain ⟨a1, a2⟩ := y_adv (tp := tp) hp (by omega)
  obtain ⟨r1, r2, r3, r4⟩ := h1
  refine ⟨fun mn H out he => ?_, fun k rest e hk hr => ?_, by rw [List.length_append]; simp only [List.length_cons, List.length_nil]; omega, r4⟩
  · obtain ⟨mn', H', out', e1, e2, e3⟩ := r1 false (19 :: H) out ⟨by simp only [y_op, he.1]; rfl, by show y_rk 19 < 8; decide, fun h => absurd h (by decide), fun _ h => Bool.noConfusion h⟩
    refine ⟨mn', H', out', ?_, fun h => absurd h (by decide), fun g pe oe r => y_run.neg h (by have := he.1; omega) (e3 g pe oe r)⟩
    rw [e1, y_uw_go (by decide), List.append_assoc]
  · rw [List.append_assoc]
    refine r2 k _ e (by unfold y_dp at hk ⊢; omega) ?_
    show z_rp (19 :: rest) (k + 1) e
    unfold z_rp
    rw [if_neg (by omega), if_pos (by omega)]
    exact ⟨by omega, hr⟩
theorem k_par (hp : p ≤ z) (h : y_tt tp z p = 40) (ho : o < 5) (h1 : y_ok tp z 1 (o + 1) (y_te tp z p) p1 cs) (h41 : y_tt tp z p1 = 41) : y_ok tp z 7 o p (y_te tp z p1) cs := by
  obtain ⟨a1, a2⟩ := y_adv (tp := tp) hp (by omega)
  obtain ⟨r1, r2, r3, r4⟩ := h1
  obtain ⟨b1, b2⟩ := y_adv (tp := tp) r4 (by omega)
  refine ⟨fun mn H out he => ?_, fun k rest e hk hr => r2 k rest e (by have : y_ad 1 = 5 := rfl; unfold y_dp at hk ⊢; have : y_ad 7 = 0 := rfl; omega) hr, by omega, b2⟩
  obtain ⟨mn', H', out', e1, e2, e3⟩ := r1 true (0 :: H) out ⟨by simp only [y_op, he.1]; rfl, by show y_rk 0 < 1; decide, fun _ => rfl, fun h => absurd h (by decide)⟩
  have e4 : y_uw 1 (0 :: H) (out ++ cs) = (0 :: H, out ++ cs) := y_uw_top _ (by show y_rk 0 < 1; decide)
  refine ⟨mn', _, _, y_uw_uw (Nat.le_refl 7) H (out ++ cs), fun h => absurd h (by decide), fun g pe oe r => y_run.par h (by have := he.1; omega) (e3 g pe oe (y_run.close h41 (e1.trans e4) r))⟩
theorem k_not (hp : p ≤ z) (h : y_tt tp z p = 6) (ho : o < 5) (h1 : y_ok tp z 3 (o + 1) (y_te tp z p) p1 cs) : y_ok tp z 3 o p p1 (cs ++ [13]) := by
  obtain ⟨a1, a2⟩ := y_adv (tp := tp) hp (by omega)
  obtain ⟨r1, r2, r3, r4⟩ := h1
  refine ⟨fun mn H out he => ?_, fun k rest e hk hr => ?_, by rw [List.length_append]; simp only [List.length_cons, List.length_nil]; omega, r4⟩
  · obtain ⟨mn', H', out', e1, e2, e3⟩ := r1 true (13 :: H) out ⟨by simp only [y_op, he.1]; rfl, by show y_rk 13 < 4; decide, fun _ => rfl, fun h => absurd h (by decide)⟩
    have emn : mn = true := he.2.2.1 (by decide)
    subst emn
    refine ⟨mn', H', out', ?_, e2, fun g pe oe r => y_run.not h (by have := he.1; omega) (e3 g pe oe r)⟩
    rw [e1, y_uw_go (by decide), List.append_assoc]
  · rw [List.append_assoc]
    refine r2 k _ e (by unfold y_dp at hk ⊢; omega) ?_
    show z_rp (13 :: rest) (k + 1) e
    unfold z_rp
    rw [if_neg (by omega), if_pos (by omega)]
    exact ⟨by omega, hr⟩
/-- a level that stands for the one below -/
def y_up (l l' : Nat) : Prop := (l = 1 ∧ l' = 2) ∨ (l = 2 ∧ l' = 3) ∨ (l = 5 ∧ l' = 6) ∨ (l = 6 ∧ l' = 7)
theorem y_up_b {l l' : Nat} (h : y_up l l') : l ≤ l' ∧ y_lt l ≤ y_lt l' ∧ y_ad l = y_ad l' + 1 ∧ (l' ≤ 3 ↔ l ≤ 3) ∧ (5 ≤ l' ↔ 5 ≤ l) ∧ y_lt l = l ∧ l < y_lt l' := by
  rcases h with ⟨rfl, rfl⟩ | ⟨rfl, rfl⟩ | ⟨rfl, rfl⟩ | ⟨rfl, rfl⟩ <;> decide
theorem k_lift {l' : Nat} (hu : y_up l l') (h1 : y_ok tp z l' o p p1 cs) : y_ok tp z l o p p1 cs := by
  obtain ⟨u1, u2, u3, u4, u5, u6, u7⟩ := y_up_b hu
  obtain ⟨r1, r2, r3, r4⟩ := h1
  refine ⟨fun mn H out he => ?_, fun k rest e hk hr => r2 k rest e (by unfold y_dp at hk ⊢; omega) hr, r3, r4⟩
  obtain ⟨mn', H', out', e1, e2, e3⟩ := r1 mn H out ⟨he.1, y_top_le u2 he.2.1, fun h => he.2.2.1 (u4.mp h), fun h => he.2.2.2 (u5.mp h)⟩
  refine ⟨mn', H', out', ?_, fun h => e2 (u4.mpr h), e3⟩
  rw [← y_uw_uw u1 H' out', e1, y_uw_uw u1]
theorem k_cmp0 (h6 : y_tt tp z p ≠ 6) (h1 : y_ok tp z 5 o p p1 cs) (hn : y_tt tp z p1 ≠ 60 ∧ y_tt tp z p1 ≠ 61) : y_ok tp z 3 o p p1 cs := by
  obtain ⟨r1, r2, r3, r4⟩ := h1
  refine ⟨fun mn H out he => ?_, fun k rest e hk hr => r2 k rest e (by have : y_ad 3 = 3 := rfl; unfold y_dp at hk ⊢; have : y_ad 5 = 2 := rfl; omega) hr, r3, r4⟩
  obtain ⟨mn', H', out', e1, e2, e3⟩ := r1 mn H out ⟨he.1, y_top_le (by decide) he.2.1, fun h => absurd h (by decide), fun _ _ => h6⟩
  refine ⟨mn', H', out', ?_, fun _ h => absurd h (by omega), e3⟩
  rw [← y_uw_uw (show 3 ≤ 5 by decide) H' out', e1, y_uw_uw (show 3 ≤ 5 by decide)]
/-- a sign between two of a level -/
def y_st (l l' s : Nat) : Prop := y_up l l' ∧ y_rk s = l ∧ y_lv s = l ∧ l ≠ 4 ∧ y_io s = 0 ∧ (l' ≤ 3 → s ≤ 12) ∧ (5 ≤ l' → ¬ s ≤ 12) ∧ (s = 11 ∨ s = 12 ∨ s = 16 ∨ s = 17 ∨ s = 18)
theorem y_rp_s {s : Nat} (hs : s = 11 ∨ s = 12 ∨ s = 14 ∨ s = 15 ∨ s = 16 ∨ s = 17 ∨ s = 18) {k e : Nat} {rest : List Nat} (hr : z_rp rest (k + 1) e) : z_rp (s :: rest) (k + 2) e := by
  unfold z_rp
  rw [if_neg (by omega), if_neg (by omega)]
  exact ⟨hs, by omega, hr⟩
theorem y_ent_s {l' s : Nat} (hs : y_st l l' s) {mn : Bool} {H : List Nat} {q : Nat} (he : y_ent tp z l o p mn H) : y_ent tp z l' o q (decide (s ≤ 12)) (s :: H) := by
  obtain ⟨hu, s1, s2, s3, s4, s5, s6, s7⟩ := hs
  obtain ⟨u1, u2, u3, u4, u5, u6, u7⟩ := y_up_b hu
  refine ⟨by simp only [y_op, s4]; exact he.1, ?_, fun h => decide_eq_true (s5 h), fun h e => absurd (of_decide_eq_true e) (s6 h)⟩
  show y_rk s < y_lt l'
  rw [s1]
  exact u7
theorem k_step {l' s : Nat} (hs : y_st l l' s) (h1 : y_ok tp z l o p p1 cs1) (hsg : y_sg (y_tt tp z p1) = s) (h2 : y_ok tp z l' o (y_te tp z p1) p2 cs2) : y_ok tp z l o p p2 (cs1 ++ cs2 ++ [s]) := by
  have hs0 := hs
  obtain ⟨hu, s1, s2, s3, s4, s5, s6, s7⟩ := hs
  obtain ⟨u1, u2, u3, u4, u5, u6, u7⟩ := y_up_b hu
  obtain ⟨r1, r2, r3, r4⟩ := h1
  obtain ⟨t1, t2, t3, t4⟩ := h2
  have n99 : y_sg (y_tt tp z p1) ≠ 99 := by rw [hsg]; omega
  obtain ⟨a1, a2⟩ := y_adv (tp := tp) r4 (y_sg_b n99).2.2.2.2.2
  refine ⟨fun mn H out he => ?_, fun k rest e hk hr => ?_, by simp only [List.length_append, List.length_cons, List.length_nil]; omega, t4⟩
  · obtain ⟨mn1, H1, out1, e1, e2, e3⟩ := r1 mn H out he
    have htop : y_top l H := by have := he.2.1; rw [u6] at this; exact this
    rw [y_uw_top _ htop] at e1
    obtain ⟨mn2, H2, out2, f1, f2, f3⟩ := t1 (decide (s ≤ 12)) (s :: H) (out ++ cs1) (y_ent_s hs0 he)
    refine ⟨mn2, H2, out2, ?_, fun h => f2 (u4.mpr h), fun g pe oe r => e3 g pe oe ?_⟩
    · rw [← y_uw_uw u1 H2 out2, f1, y_uw_uw u1, y_uw_go (by omega)]
      simp only [List.append_assoc]
    · refine y_run.sign n99 (fun e => s3 (by rw [hsg] at e; omega)) ?_
      rw [hsg, s2, e1]
      exact f3 g pe oe r
  · rw [List.append_assoc, List.append_assoc]
    refine r2 k _ e hk ?_
    refine t2 (k + 1) _ e (by unfold y_dp at hk ⊢; omega) ?_
    exact y_rp_s (by omega) hr
theorem k_stepN {l' s : Nat} (hs : y_st l l' s) (h1 : y_ok tp z l o p p1 cs1) (hsg : y_sg (y_tt tp z p1) = s) (h2 : y_no tp z l' o (y_te tp z p1) pf) : y_no tp z l o p pf := by
  have hs0 := hs
  obtain ⟨hu, s1, s2, s3, s4, s5, s6, s7⟩ := hs
  obtain ⟨u1, u2, u3, u4, u5, u6, u7⟩ := y_up_b hu
  obtain ⟨r1, r2, r3, r4⟩ := h1
  have n99 : y_sg (y_tt tp z p1) ≠ 99 := by rw [hsg]; omega
  refine ⟨fun mn H out he => ?_, h2.2⟩
  obtain ⟨mn1, H1, out1, e1, e2, e3⟩ := r1 mn H out he
  have htop : y_top l H := by have := he.2.1; rw [u6] at this; exact this
  rw [y_uw_top _ htop] at e1
  refine e3 _ _ _ (y_run.sign n99 (fun e => s3 (by rw [hsg] at e; omega)) ?_)
  rw [hsg, s2, e1]
  exact h2.1 _ _ _ (y_ent_s hs0 he)
theorem k_liftN {l' : Nat} (hu : y_up l l') (h1 : y_no tp z l' o p pf) : y_no tp z l o p pf := by
  obtain ⟨u1, u2, u3, u4, u5, u6, u7⟩ := y_up_b hu
  exact ⟨fun mn H out he => h1.1 mn H out ⟨he.1, y_top_le u2 he.2.1, fun h => he.2.2.1 (u4.mp h), fun h => he.2.2.2 (u5.mp h)⟩, h1.2⟩
theorem k_cmp {s : Nat} (hs : s = 14 ∨ s = 15) (h6 : y_tt tp z p ≠ 6) (h1 : y_ok tp z 5 o p p1 cs1) (hsg : y_sg (y_tt tp z p1) = s) (h2 : y_ok tp z 5 o (y_te tp z p1) p2 cs2) : y_ok tp z 3 o p p2 (cs1 ++ cs2 ++ [s]) := by
  have hrk : y_rk s = 4 := by rcases hs with rfl | rfl <;> rfl
  have hlv : y_lv s = 5 := by unfold y_lv; rw [if_pos hrk]
  have hio : y_io s = 0 := by rcases hs with rfl | rfl <;> rfl
  obtain ⟨r1, r2, r3, r4⟩ := h1
  obtain ⟨t1, t2, t3, t4⟩ := h2
  have n99 : y_sg (y_tt tp z p1) ≠ 99 := by rw [hsg]; omega
  obtain ⟨a1, a2⟩ := y_adv (tp := tp) r4 (y_sg_b n99).2.2.2.2.2
  have d3 : y_ad 3 = 3 := rfl
  have d5 : y_ad 5 = 2 := rfl
  refine ⟨fun mn H out he => ?_, fun k rest e hk hr => ?_, by simp only [List.length_append, List.length_cons, List.length_nil]; omega, t4⟩
  · have htop : y_top 4 H := he.2.1
    obtain ⟨mn1, H1, out1, e1, e2, e3⟩ := r1 mn H out ⟨he.1, y_top_le (by decide) he.2.1, fun h => absurd h (by decide), fun _ _ => h6⟩
    rw [y_uw_top _ (y_top_le (show 4 ≤ 5 by decide) htop)] at e1
    obtain ⟨mn2, H2, out2, f1, f2, f3⟩ := t1 false (s :: H) (out ++ cs1) ⟨by simp only [y_op, hio]; exact he.1, by show y_rk s < 5; omega, fun h => absurd h (by decide), fun _ h => Bool.noConfusion h⟩
    have ftop : y_uw 5 (s :: H) (out ++ cs1 ++ cs2) = (s :: H, out ++ cs1 ++ cs2) := y_uw_top _ (by show y_rk s < 5; omega)
    refine ⟨mn2, H2, out2, ?_, fun _ _ => ?_, fun g pe oe r => e3 g pe oe ?_⟩
    · rw [← y_uw_uw (show 3 ≤ 5 by decide) H2 out2, f1, y_uw_uw (show 3 ≤ 5 by decide), y_uw_go (by omega)]
      simp only [List.append_assoc]
    · rw [f1, ftop]; exact hrk
    · refine y_run.sign n99 (fun e => ?_) ?_
      · rw [hsg, hlv, e1] at e
        have h4 := e.2
        match H, htop, h4 with
        | [], _, h4 => exact h4
        | a :: H, ht, h4 => have x1 : y_rk a < 4 := ht; have x2 : y_rk a = 4 := h4; omega
      · rw [hsg, hlv, e1]
        have ed : decide (s ≤ 12) = false := decide_eq_false (by omega)
        rw [ed]
        exact f3 g pe oe r
  · rw [List.append_assoc, List.append_assoc]
    refine r2 k _ e (by unfold y_dp at hk ⊢; omega) ?_
    refine t2 (k + 1) _ e (by unfold y_dp at hk ⊢; omega) ?_
    exact y_rp_s (by omega) hr
theorem k_cmpN {s : Nat} (hs : s = 14 ∨ s = 15) (h6 : y_tt tp z p ≠ 6) (h1 : y_ok tp z 5 o p p1 cs1) (hsg : y_sg (y_tt tp z p1) = s) (h2 : y_no tp z 5 o (y_te tp z p1) pf) : y_no tp z 3 o p pf := by
  have hrk : y_rk s = 4 := by rcases hs with rfl | rfl <;> rfl
  have hlv : y_lv s = 5 := by unfold y_lv; rw [if_pos hrk]
  have hio : y_io s = 0 := by rcases hs with rfl | rfl <;> rfl
  obtain ⟨r1, r2, r3, r4⟩ := h1
  have n99 : y_sg (y_tt tp z p1) ≠ 99 := by rw [hsg]; omega
  refine ⟨fun mn H out he => ?_, h2.2⟩
  have htop : y_top 4 H := he.2.1
  obtain ⟨mn1, H1, out1, e1, e2, e3⟩ := r1 mn H out ⟨he.1, y_top_le (by decide) he.2.1, fun h => absurd h (by decide), fun _ _ => h6⟩
  rw [y_uw_top _ (y_top_le (show 4 ≤ 5 by decide) htop)] at e1
  refine e3 _ _ _ (y_run.sign n99 (fun e => ?_) ?_)
  · rw [hsg, hlv, e1] at e
    have h4 := e.2
    match H, htop, h4 with
    | [], _, h4 => exact h4
    | a :: H, ht, h4 => have x1 : y_rk a < 4 := ht; have x2 : y_rk a = 4 := h4; omega
  · rw [hsg, hlv, e1]
    have ed : decide (s ≤ 12) = false := decide_eq_false (by omega)
    rw [ed]
    exact h2.1 _ _ _ ⟨by simp only [y_op, hio]; exact he.1, by show y_rk s < 5; omega, fun h => absurd h (by decide), fun _ h => Bool.noConfusion h⟩
theorem k_cmp0N (h6 : y_tt tp z p ≠ 6) (h1 : y_no tp z 5 o p pf) : y_no tp z 3 o p pf :=
  ⟨fun mn H out he => h1.1 mn H out ⟨he.1, y_top_le (by decide) he.2.1, fun h => absurd h (by decide), fun _ _ => h6⟩, h1.2⟩
theorem k_negN (h : y_tt tp z p = 45) (ho : o < 5) (h1 : y_no tp z 7 (o + 1) (y_te tp z p) pf) : y_no tp z 7 o p pf :=
  ⟨fun mn H out he => y_run.neg h (by have := he.1; omega) (h1.1 false (19 :: H) out ⟨by simp only [y_op, he.1]; rfl, by show y_rk 19 < 8; decide, fun h => absurd h (by decide), fun _ h => Bool.noConfusion h⟩), h1.2⟩
theorem k_parN (h : y_tt tp z p = 40) (ho : o < 5) (h1 : y_no tp z 1 (o + 1) (y_te tp z p) pf) : y_no tp z 7 o p pf :=
  ⟨fun mn H out he => y_run.par h (by have := he.1; omega) (h1.1 true (0 :: H) out ⟨by simp only [y_op, he.1]; rfl, by show y_rk 0 < 1; decide, fun _ => rfl, fun h => absurd h (by decide)⟩), h1.2⟩
theorem k_notN (h : y_tt tp z p = 6) (ho : o < 5) (h1 : y_no tp z 3 (o + 1) (y_te tp z p) pf) : y_no tp z 3 o p pf :=
  ⟨fun mn H out he => by
    have emn : mn = true := he.2.2.1 (by decide)
    subst emn
    exact y_run.not h (by have := he.1; omega) (h1.1 true (13 :: H) out ⟨by simp only [y_op, he.1]; rfl, by show y_rk 13 < 4; decide, fun _ => rfl, fun h => absurd h (by decide)⟩), h1.2⟩
theorem k_bad (hp : p ≤ z) (h1 : y_tt tp z p ≠ 1) (h2 : y_tt tp z p ≠ 2) (h : o = 5 ∨ (y_tt tp z p ≠ 45 ∧ y_tt tp z p ≠ 40)) : y_no tp z 7 o p p :=
  ⟨fun mn H out he => y_run.bad h1 h2 (by
    rcases h with h | h
    · exact Or.inl (he.1.trans h)
    · refine Or.inr ⟨?_, h.1, h.2⟩
      cases mn with
      | true => exact Or.inl (he.2.2.2 (by decide) rfl)
      | false => exact Or.inr rfl), hp⟩
theorem k_notB (hp : p ≤ z) (h : y_tt tp z p = 6) (ho : o = 5) : y_no tp z 3 o p p :=
  ⟨fun mn H out he => y_run.bad (by omega) (by omega) (Or.inl (he.1.trans ho)), hp⟩
/-- where an either has ended, nothing but its end may stand -/
theorem k_end {H' out' : List Nat} {mn : Bool} (hx : y_ex tp z 1 p1) (h59 : y_tt tp z p1 ≠ 59) (h41 : y_tt tp z p1 ≠ 41) (h4 : y_tt tp z p1 = 60 ∨ y_tt tp z p1 = 61 → y_t4 (y_uw 5 H' out').1) : y_run tp z false mn H' p1 out' false p1 [] := by
  refine y_run.signB h59 h41 ?_
  obtain ⟨x1, x2, x3, x4⟩ := hx
  have y1 := x1 (by decide)
  have y2 := x2 (by decide)
  have y3 := x3 (by decide)
  have y4 := x4 (by decide)
  by_cases q60 : y_tt tp z p1 = 60
  · refine Or.inr ?_
    rw [q60]
    exact ⟨rfl, h4 (Or.inl q60)⟩
  by_cases q61 : y_tt tp z p1 = 61
  · refine Or.inr ?_
    rw [q61]
    exact ⟨rfl, h4 (Or.inr q61)⟩
  refine Or.inl ?_
  unfold y_sg
  rw [if_neg y4, if_neg y3, if_neg q60, if_neg q61, if_neg y2.1, if_neg y2.2, if_neg y1]
theorem k_parE (hp : p ≤ z) (h : y_tt tp z p = 40) (ho : o < 5) (h1 : y_ok tp z 1 (o + 1) (y_te tp z p) p1 cs) (hx : y_ex tp z 1 p1) (h41 : y_tt tp z p1 ≠ 41) : y_no tp z 7 o p p1 := by
  obtain ⟨r1, r2, r3, r4⟩ := h1
  refine ⟨fun mn H out he => y_run.par h (by have := he.1; omega) ?_, r4⟩
  obtain ⟨mn', H', out', e1, e2, e3⟩ := r1 true (0 :: H) out ⟨by simp only [y_op, he.1]; rfl, by show y_rk 0 < 1; decide, fun _ => rfl, fun h => absurd h (by decide)⟩
  have e4 : y_uw 1 (0 :: H) (out ++ cs) = (0 :: H, out ++ cs) := y_uw_top _ (by show y_rk 0 < 1; decide)
  refine e3 _ _ _ ?_
  by_cases h59 : y_tt tp z p1 = 59
  · exact y_run.semiB h59 (by rw [e1, e4]; exact List.cons_ne_nil _ _)
  · exact k_end hx h59 h41 (e2 (by decide))
/-- an E of a part -/
theorem k_part (h1 : y_ok tp z 1 0 p p1 cs) (h59 : y_tt tp z p1 = 59) (out : List Nat) : y_run tp z true true [] p out true p1 (out ++ cs) := by
  obtain ⟨r1, r2, r3, r4⟩ := h1
  obtain ⟨mn', H', out', e1, e2, e3⟩ := r1 true [] out ⟨rfl, trivial, fun _ => rfl, fun h => absurd h (by decide)⟩
  have e4 : y_uw 1 [] (out ++ cs) = ([], out ++ cs) := rfl
  refine e3 _ _ _ ?_
  have := y_run.semi (tp := tp) (z := z) (mn := mn') (H := H') (p := p1) (out := out') h59 (by rw [e1, e4])
  rw [e1, e4] at this
  exact this
theorem k_partE (h1 : y_ok tp z 1 0 p p1 cs) (hx : y_ex tp z 1 p1) (h59 : y_tt tp z p1 ≠ 59) (out : List Nat) : y_run tp z true true [] p out false p1 [] := by
  obtain ⟨r1, r2, r3, r4⟩ := h1
  obtain ⟨mn', H', out', e1, e2, e3⟩ := r1 true [] out ⟨rfl, trivial, fun _ => rfl, fun h => absurd h (by decide)⟩
  have e4 : y_uw 1 [] (out ++ cs) = ([], out ++ cs) := rfl
  refine e3 _ _ _ ?_
  by_cases h41 : y_tt tp z p1 = 41
  · exact y_run.closeB h41 (by rw [e1, e4])
  · exact k_end hx h59 h41 (e2 (by decide))
theorem k_partN (h1 : y_no tp z 1 0 p pf) (out : List Nat) : y_run tp z true true [] p out false pf [] :=
  h1.1 true [] out ⟨rfl, trivial, fun _ => rfl, fun h => absurd h (by decide)⟩
end
