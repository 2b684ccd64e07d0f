/-! ===== the first text, as the reference's lexer sees it ===== -/
def y_ft (i : Nat) : Nat := ([112,108,97,121,115,32,54,48,32,43,32,109,111,114,101,32,42,32,51,32,59,32,99,111,115,116,115,32,49,48,32,59,32,111,119,101,115,32,53,32,59] : List Nat).getD i 0
section
variable {tp : Nat → Nat} {z p b e k : Nat}
theorem tt_w (hb : y_tb tp z p = b) (he : y_te tp z p = e) (hz : b < z) (hl : y_let (tp b) = true) (hk : k < 12) (hw : y_wd tp b e k) : y_tt tp z p = (if k < 3 then 3 else if k < 9 then 2 else if k = 12 then 7 else k - 5) ∧ y_tv tp z p = if k < 3 then k else k - 3 := by
  have hn := y_wn_of hk hw
  unfold y_tt y_tv
  rw [hb, he, hn, if_pos hz, if_pos hl, if_pos hl]
  exact ⟨rfl, rfl⟩
theorem tt_n (hb : y_tb tp z p = b) (he : y_te tp z p = e) (hz : b < z) (hl : ¬ y_let (tp b) = true) (hd : y_dig (tp b) = true) (h4 : e - b ≤ 4) : y_tt tp z p = 1 ∧ y_tv tp z p = y_val tp b (e - b) := by
  unfold y_tt y_tv
  rw [hb, he, if_pos hz, if_neg hl, if_neg hl, if_pos hd, if_pos h4]
  exact ⟨rfl, rfl⟩
theorem tt_s (hb : y_tb tp z p = b) (hz : b < z) (hl : ¬ y_let (tp b) = true) (hd : ¬ y_dig (tp b) = true) (hs : y_sig (tp b) = true) : y_tt tp z p = tp b := by
  unfold y_tt
  rw [hb, if_pos hz, if_neg hl, if_neg hd, if_pos hs]
theorem ok_num (o : Nat) (hp : p ≤ z) (h : y_tt tp z p = 1 ∧ y_tv tp z p = k) (he : y_te tp z p = e) : y_ok tp z 7 o p e [100000 + k] := by
  have h1 := k_atom (tp := tp) (o := o) hp (Or.inl h.1)
  rw [he] at h1
  have : y_code tp z p = 100000 + k := by unfold y_code; rw [if_pos h.1, h.2]
  rw [this] at h1
  exact h1
theorem ok_wd (o : Nat) (hp : p ≤ z) (h : y_tt tp z p = 2 ∧ y_tv tp z p = k) (he : y_te tp z p = e) : y_ok tp z 7 o p e [k] := by
  have h1 := k_atom (tp := tp) (o := o) hp (Or.inr h.1)
  rw [he] at h1
  have : y_code tp z p = k := by unfold y_code; rw [if_neg (by rw [h.1]; decide), h.2]
  rw [this] at h1
  exact h1
theorem ok_7_5 {o p1 : Nat} {cs : List Nat} (h : y_ok tp z 7 o p p1 cs) : y_ok tp z 5 o p p1 cs := k_lift (l' := 6) (by unfold y_up; decide) (k_lift (l' := 7) (by unfold y_up; decide) h)
theorem ok_5_1 {o p1 : Nat} {cs : List Nat} (h6 : y_tt tp z p ≠ 6) (hn : y_tt tp z p1 = 59) (h : y_ok tp z 5 o p p1 cs) : y_ok tp z 1 o p p1 cs :=
  k_lift (l' := 2) (by unfold y_up; decide) (k_lift (l' := 3) (by unfold y_up; decide) (k_cmp0 h6 h (by rw [hn]; decide)))
end
theorem ft_te : y_te y_ft 41 0 = 5 ∧ y_te y_ft 41 5 = 8 ∧ y_te y_ft 41 8 = 10 ∧ y_te y_ft 41 10 = 15 ∧ y_te y_ft 41 15 = 17 ∧ y_te y_ft 41 17 = 19 ∧ y_te y_ft 41 19 = 21 ∧ y_te y_ft 41 21 = 27 ∧ y_te y_ft 41 27 = 30 ∧ y_te y_ft 41 30 = 32 ∧ y_te y_ft 41 32 = 37 ∧ y_te y_ft 41 37 = 39 ∧ y_te y_ft 41 39 = 41 := by decide +kernel
theorem ft_tb : y_tb y_ft 41 0 = 0 ∧ y_tb y_ft 41 5 = 6 ∧ y_tb y_ft 41 8 = 9 ∧ y_tb y_ft 41 10 = 11 ∧ y_tb y_ft 41 15 = 16 ∧ y_tb y_ft 41 17 = 18 ∧ y_tb y_ft 41 19 = 20 ∧ y_tb y_ft 41 21 = 22 ∧ y_tb y_ft 41 27 = 28 ∧ y_tb y_ft 41 30 = 31 ∧ y_tb y_ft 41 32 = 33 ∧ y_tb y_ft 41 37 = 38 ∧ y_tb y_ft 41 39 = 40 ∧ y_tb y_ft 41 41 = 41 := by decide +kernel
theorem ft_0 : y_tt y_ft 41 0 = 3 ∧ y_tv y_ft 41 0 = 0 := tt_w (k := 0) ft_tb.1 ft_te.1 (by decide) (by decide) (by decide) (by unfold y_wd; decide +kernel)
theorem ft_5 : y_tt y_ft 41 5 = 1 ∧ y_tv y_ft 41 5 = 60 := tt_n ft_tb.2.1 ft_te.2.1 (by decide) (by decide) (by decide) (by decide)
theorem ft_8 : y_tt y_ft 41 8 = 43 := tt_s ft_tb.2.2.1 (by decide) (by decide) (by decide) (by decide)
theorem ft_10 : y_tt y_ft 41 10 = 2 ∧ y_tv y_ft 41 10 = 0 := tt_w (k := 3) ft_tb.2.2.2.1 ft_te.2.2.2.1 (by decide) (by decide) (by decide) (by unfold y_wd; decide +kernel)
theorem ft_15 : y_tt y_ft 41 15 = 42 := tt_s ft_tb.2.2.2.2.1 (by decide) (by decide) (by decide) (by decide)
theorem ft_17 : y_tt y_ft 41 17 = 1 ∧ y_tv y_ft 41 17 = 3 := tt_n ft_tb.2.2.2.2.2.1 ft_te.2.2.2.2.2.1 (by decide) (by decide) (by decide) (by decide)
theorem ft_19 : y_tt y_ft 41 19 = 59 := tt_s ft_tb.2.2.2.2.2.2.1 (by decide) (by decide) (by decide) (by decide)
theorem ft_21 : y_tt y_ft 41 21 = 3 ∧ y_tv y_ft 41 21 = 1 := tt_w (k := 1) ft_tb.2.2.2.2.2.2.2.1 ft_te.2.2.2.2.2.2.2.1 (by decide) (by decide) (by decide) (by unfold y_wd; decide +kernel)
theorem ft_27 : y_tt y_ft 41 27 = 1 ∧ y_tv y_ft 41 27 = 10 := tt_n ft_tb.2.2.2.2.2.2.2.2.1 ft_te.2.2.2.2.2.2.2.2.1 (by decide) (by decide) (by decide) (by decide)
theorem ft_30 : y_tt y_ft 41 30 = 59 := tt_s ft_tb.2.2.2.2.2.2.2.2.2.1 (by decide) (by decide) (by decide) (by decide)
theorem ft_32 : y_tt y_ft 41 32 = 3 ∧ y_tv y_ft 41 32 = 2 := tt_w (k := 2) ft_tb.2.2.2.2.2.2.2.2.2.2.1 ft_te.2.2.2.2.2.2.2.2.2.2.1 (by decide) (by decide) (by decide) (by unfold y_wd; decide +kernel)
theorem ft_37 : y_tt y_ft 41 37 = 1 ∧ y_tv y_ft 41 37 = 5 := tt_n ft_tb.2.2.2.2.2.2.2.2.2.2.2.1 ft_te.2.2.2.2.2.2.2.2.2.2.2.1 (by decide) (by decide) (by decide) (by decide)
theorem ft_39 : y_tt y_ft 41 39 = 59 := tt_s ft_tb.2.2.2.2.2.2.2.2.2.2.2.2.1 (by decide) (by decide) (by decide) (by decide)
theorem ft_41 : y_tt y_ft 41 41 = 0 := by
  unfold y_tt
  rw [ft_tb.2.2.2.2.2.2.2.2.2.2.2.2.2, if_neg (by decide)]
theorem ft_s0 : y_PS y_ft 41 0 0 21 [100060, 0, 100003, 18, 16] := by
  have te := ft_te
  have k6 : y_ok y_ft 41 6 0 (y_te y_ft 41 8) 19 [0, 100003, 18] := by
    rw [te.2.2.1]
    have a := k_lift (l := 6) (l' := 7) (by unfold y_up; decide) (ok_wd 0 (by decide) ft_10 te.2.2.2.1)
    have b : y_ok y_ft 41 7 0 (y_te y_ft 41 15) 19 [100003] := by
      rw [te.2.2.2.2.1]
      exact ok_num 0 (by decide) ft_17 te.2.2.2.2.2.1
    exact k_step (l := 6) (l' := 7) (s := 18) (by unfold y_st y_up; decide) a (by rw [ft_15]; decide) b
  have k5 : y_ok y_ft 41 5 0 5 19 [100060, 0, 100003, 18, 16] := k_step (l := 5) (l' := 6) (s := 16) (by unfold y_st y_up; decide) (ok_7_5 (ok_num 0 (by decide) ft_5 te.2.1)) (by rw [ft_8]; decide) k6
  have k1 := ok_5_1 (by rw [ft_5.1]; decide) ft_19 k5
  refine ⟨ft_0, ⟨19, fun out => ?_, te.2.2.2.2.2.2.1.symm⟩, k1.2.1, by decide, by decide⟩
  rw [te.1]
  exact k_part k1 ft_19 out
theorem ft_s1 : y_PS y_ft 41 1 21 32 [100010] := by
  have te := ft_te
  have k1 := ok_5_1 (by rw [ft_27.1]; decide) ft_30 (ok_7_5 (ok_num 0 (by decide) ft_27 te.2.2.2.2.2.2.2.2.1))
  refine ⟨ft_21, ⟨30, fun out => ?_, te.2.2.2.2.2.2.2.2.2.1.symm⟩, k1.2.1, by decide, by decide⟩
  rw [te.2.2.2.2.2.2.2.1]
  exact k_part k1 ft_30 out
theorem ft_s2 : y_PS y_ft 41 2 32 41 [100005] := by
  have te := ft_te
  have k1 := ok_5_1 (by rw [ft_37.1]; decide) ft_39 (ok_7_5 (ok_num 0 (by decide) ft_37 te.2.2.2.2.2.2.2.2.2.2.2.1))
  refine ⟨ft_32, ⟨39, fun out => ?_, te.2.2.2.2.2.2.2.2.2.2.2.2.symm⟩, k1.2.1, by decide, by decide⟩
  rw [te.2.2.2.2.2.2.2.2.2.2.1]
  exact k_part k1 ft_39 out
