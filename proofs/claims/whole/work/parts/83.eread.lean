/-! ===== the reference's reading of an E, as a run ===== -/
noncomputable def y_code (tp : Nat → Nat) (z p : Nat) : Nat := if y_tt tp z p = 1 then 100000 + y_tv tp z p else y_tv tp z p
def y_k_atom (tp : Nat → Nat) (z : Nat) (R : Bool → Bool → List Nat → Nat → List Nat → Bool → Nat → List Nat → Prop) : Prop := ∀ (mn : Bool) (H : List Nat) (p : Nat) (out : List Nat) (g : Bool) (pe : Nat) (oe : List Nat), (y_tt tp z p = 1 ∨ y_tt tp z p = 2) → (R false mn (y_uw 7 H (out ++ [y_code tp z p])).1 (y_te tp z p) (y_uw 7 H (out ++ [y_code tp z p])).2 g pe oe) → R true mn H p out g pe oe
def y_k_not (tp : Nat → Nat) (z : Nat) (R : Bool → Bool → List Nat → Nat → List Nat → Bool → Nat → List Nat → Prop) : Prop := ∀ (H : List Nat) (p : Nat) (out : List Nat) (g : Bool) (pe : Nat) (oe : List Nat), (y_tt tp z p = 6) → (y_op H ≠ 5) → (R true true (13 :: H) (y_te tp z p) out g pe oe) → R true true H p out g pe oe
def y_k_neg (tp : Nat → Nat) (z : Nat) (R : Bool → Bool → List Nat → Nat → List Nat → Bool → Nat → List Nat → Prop) : Prop := ∀ (mn : Bool) (H : List Nat) (p : Nat) (out : List Nat) (g : Bool) (pe : Nat) (oe : List Nat), (y_tt tp z p = 45) → (y_op H ≠ 5) → (R true false (19 :: H) (y_te tp z p) out g pe oe) → R true mn H p out g pe oe
def y_k_par (tp : Nat → Nat) (z : Nat) (R : Bool → Bool → List Nat → Nat → List Nat → Bool → Nat → List Nat → Prop) : Prop := ∀ (mn : Bool) (H : List Nat) (p : Nat) (out : List Nat) (g : Bool) (pe : Nat) (oe : List Nat), (y_tt tp z p = 40) → (y_op H ≠ 5) → (R true true (0 :: H) (y_te tp z p) out g pe oe) → R true mn H p out g pe oe
def y_k_bad (tp : Nat → Nat) (z : Nat) (R : Bool → Bool → List Nat → Nat → List Nat → Bool → Nat → List Nat → Prop) : Prop := ∀ (mn : Bool) (H : List Nat) (p : Nat) (out : List Nat), (y_tt tp z p ≠ 1) → (y_tt tp z p ≠ 2) → (y_op H = 5 ∨ ((y_tt tp z p ≠ 6 ∨ mn = false) ∧ y_tt tp z p ≠ 45 ∧ y_tt tp z p ≠ 40)) → R true mn H p out false p []
def y_k_semi (tp : Nat → Nat) (z : Nat) (R : Bool → Bool → List Nat → Nat → List Nat → Bool → Nat → List Nat → Prop) : Prop := ∀ (mn : Bool) (H : List Nat) (p : Nat) (out : List Nat), (y_tt tp z p = 59) → ((y_uw 1 H out).1 = []) → R false mn H p out true p (y_uw 1 H out).2
def y_k_semiB (tp : Nat → Nat) (z : Nat) (R : Bool → Bool → List Nat → Nat → List Nat → Bool → Nat → List Nat → Prop) : Prop := ∀ (mn : Bool) (H : List Nat) (p : Nat) (out : List Nat), (y_tt tp z p = 59) → ((y_uw 1 H out).1 ≠ []) → R false mn H p out false p []
def y_k_close (tp : Nat → Nat) (z : Nat) (R : Bool → Bool → List Nat → Nat → List Nat → Bool → Nat → List Nat → Prop) : Prop := ∀ (mn : Bool) (H H' : List Nat) (p : Nat) (out o' : List Nat) (g : Bool) (pe : Nat) (oe : List Nat), (y_tt tp z p = 41) → (y_uw 1 H out = (0 :: H', o')) → (R false mn (y_uw 7 H' o').1 (y_te tp z p) (y_uw 7 H' o').2 g pe oe) → R false mn H p out g pe oe
def y_k_closeB (tp : Nat → Nat) (z : Nat) (R : Bool → Bool → List Nat → Nat → List Nat → Bool → Nat → List Nat → Prop) : Prop := ∀ (mn : Bool) (H : List Nat) (p : Nat) (out : List Nat), (y_tt tp z p = 41) → ((y_uw 1 H out).1 = []) → R false mn H p out false p []
def y_k_sign (tp : Nat → Nat) (z : Nat) (R : Bool → Bool → List Nat → Nat → List Nat → Bool → Nat → List Nat → Prop) : Prop := ∀ (mn : Bool) (H : List Nat) (p : Nat) (out : List Nat) (g : Bool) (pe : Nat) (oe : List Nat), (y_sg (y_tt tp z p) ≠ 99) → (¬ (y_rk (y_sg (y_tt tp z p)) = 4 ∧ y_t4 (y_uw (y_lv (y_sg (y_tt tp z p))) H out).1)) → (R true (decide (y_sg (y_tt tp z p) ≤ 12)) (y_sg (y_tt tp z p) :: (y_uw (y_lv (y_sg (y_tt tp z p))) H out).1) (y_te tp z p) (y_uw (y_lv (y_sg (y_tt tp z p))) H out).2 g pe oe) → R false mn H p out g pe oe
def y_k_signB (tp : Nat → Nat) (z : Nat) (R : Bool → Bool → List Nat → Nat → List Nat → Bool → Nat → List Nat → Prop) : Prop := ∀ (mn : Bool) (H : List Nat) (p : Nat) (out : List Nat), (y_tt tp z p ≠ 59) → (y_tt tp z p ≠ 41) → (y_sg (y_tt tp z p) = 99 ∨ (y_rk (y_sg (y_tt tp z p)) = 4 ∧ y_t4 (y_uw (y_lv (y_sg (y_tt tp z p))) H out).1)) → R false mn H p out false p []
def y_cl (tp : Nat → Nat) (z : Nat) (R : Bool → Bool → List Nat → Nat → List Nat → Bool → Nat → List Nat → Prop) : Prop := y_k_atom tp z R ∧ y_k_not tp z R ∧ y_k_neg tp z R ∧ y_k_par tp z R ∧ y_k_bad tp z R ∧ y_k_semi tp z R ∧ y_k_semiB tp z R ∧ y_k_close tp z R ∧ y_k_closeB tp z R ∧ y_k_sign tp z R ∧ y_k_signB tp z R
/-- the least such relation -/
def y_run (tp : Nat → Nat) (z : Nat) (w mn : Bool) (H : List Nat) (p : Nat) (out : List Nat) (g : Bool) (pe : Nat) (oe : List Nat) : Prop := ∀ R : Bool → Bool → List Nat → Nat → List Nat → Bool → Nat → List Nat → Prop, y_cl tp z R → R w mn H p out g pe oe
theorem y_run.atom {tp : Nat → Nat} {z : Nat} {mn : Bool} {H : List Nat} {p : Nat} {out : List Nat} {g : Bool} {pe : Nat} {oe : List Nat} (h : y_tt tp z p = 1 ∨ y_tt tp z p = 2) (r : y_run tp z false mn (y_uw 7 H (out ++ [y_code tp z p])).1 (y_te tp z p) (y_uw 7 H (out ++ [y_code tp z p])).2 g pe oe) : y_run tp z true mn H p out g pe oe := fun R c => (c.1) _ _ _ _ _ _ _ h (r R c)
theorem y_run.not {tp : Nat → Nat} {z : Nat} {H : List Nat} {p : Nat} {out : List Nat} {g : Bool} {pe : Nat} {oe : List Nat} (h : y_tt tp z p = 6) (h5 : y_op H ≠ 5) (r : y_run tp z true true (13 :: H) (y_te tp z p) out g pe oe) : y_run tp z true true H p out g pe oe := fun R c => (c.2.1) _ _ _ _ _ _ h h5 (r R c)
theorem y_run.neg {tp : Nat → Nat} {z : Nat} {mn : Bool} {H : List Nat} {p : Nat} {out : List Nat} {g : Bool} {pe : Nat} {oe : List Nat} (h : y_tt tp z p = 45) (h5 : y_op H ≠ 5) (r : y_run tp z true false (19 :: H) (y_te tp z p) out g pe oe) : y_run tp z true mn H p out g pe oe := fun R c => (c.2.2.1) _ _ _ _ _ _ _ h h5 (r R c)
theorem y_run.par {tp : Nat → Nat} {z : Nat} {mn : Bool} {H : List Nat} {p : Nat} {out : List Nat} {g : Bool} {pe : Nat} {oe : List Nat} (h : y_tt tp z p = 40) (h5 : y_op H ≠ 5) (r : y_run tp z true true (0 :: H) (y_te tp z p) out g pe oe) : y_run tp z true mn H p out g pe oe := fun R c => (c.2.2.2.1) _ _ _ _ _ _ _ h h5 (r R c)
theorem y_run.bad {tp : Nat → Nat} {z : Nat} {mn : Bool} {H : List Nat} {p : Nat} {out : List Nat} (h1 : y_tt tp z p ≠ 1) (h2 : y_tt tp z p ≠ 2) (h : y_op H = 5 ∨ ((y_tt tp z p ≠ 6 ∨ mn = false) ∧ y_tt tp z p ≠ 45 ∧ y_tt tp z p ≠ 40)) : y_run tp z true mn H p out false p [] := fun R c => (c.2.2.2.2.1) _ _ _ _ h1 h2 h
theorem y_run.semi {tp : Nat → Nat} {z : Nat} {mn : Bool} {H : List Nat} {p : Nat} {out : List Nat} (h : y_tt tp z p = 59) (he : (y_uw 1 H out).1 = []) : y_run tp z false mn H p out true p (y_uw 1 H out).2 := fun R c => (c.2.2.2.2.2.1) _ _ _ _ h he
theorem y_run.semiB {tp : Nat → Nat} {z : Nat} {mn : Bool} {H : List Nat} {p : Nat} {out : List Nat} (h : y_tt tp z p = 59) (he : (y_uw 1 H out).1 ≠ []) : y_run tp z false mn H p out false p [] := fun R c => (c.2.2.2.2.2.2.1) _ _ _ _ h he
theorem y_run.close {tp : Nat → Nat} {z : Nat} {mn : Bool} {H H' : List Nat} {p : Nat} {out o' : List Nat} {g : Bool} {pe : Nat} {oe : List Nat} (h : y_tt tp z p = 41) (he : y_uw 1 H out = (0 :: H', o')) (r : y_run tp z false mn (y_uw 7 H' o').1 (y_te tp z p) (y_uw 7 H' o').2 g pe oe) : y_run tp z false mn H p out g pe oe := fun R c => (c.2.2.2.2.2.2.2.1) _ _ _ _ _ _ _ _ _ h he (r R c)
theorem y_run.closeB {tp : Nat → Nat} {z : Nat} {mn : Bool} {H : List Nat} {p : Nat} {out : List Nat} (h : y_tt tp z p = 41) (he : (y_uw 1 H out).1 = []) : y_run tp z false mn H p out false p [] := fun R c => (c.2.2.2.2.2.2.2.2.1) _ _ _ _ h he
theorem y_run.sign {tp : Nat → Nat} {z : Nat} {mn : Bool} {H : List Nat} {p : Nat} {out : List Nat} {g : Bool} {pe : Nat} {oe : List Nat} (h : y_sg (y_tt tp z p) ≠ 99) (h4 : ¬ (y_rk (y_sg (y_tt tp z p)) = 4 ∧ y_t4 (y_uw (y_lv (y_sg (y_tt tp z p))) H out).1)) (r : y_run tp z true (decide (y_sg (y_tt tp z p) ≤ 12)) (y_sg (y_tt tp z p) :: (y_uw (y_lv (y_sg (y_tt tp z p))) H out).1) (y_te tp z p) (y_uw (y_lv (y_sg (y_tt tp z p))) H out).2 g pe oe) : y_run tp z false mn H p out g pe oe := fun R c => (c.2.2.2.2.2.2.2.2.2.1) _ _ _ _ _ _ _ h h4 (r R c)
theorem y_run.signB {tp : Nat → Nat} {z : Nat} {mn : Bool} {H : List Nat} {p : Nat} {out : List Nat} (h1 : y_tt tp z p ≠ 59) (h2 : y_tt tp z p ≠ 41) (h : y_sg (y_tt tp z p) = 99 ∨ (y_rk (y_sg (y_tt tp z p)) = 4 ∧ y_t4 (y_uw (y_lv (y_sg (y_tt tp z p))) H out).1)) : y_run tp z false mn H p out false p [] := fun R c => (c.2.2.2.2.2.2.2.2.2.2) _ _ _ _ h1 h2 h
theorem y_tt_pos {tp : Nat → Nat} {z p : Nat} (h : y_tt tp z p ≠ 0) : y_tb tp z p < z := by
  by_cases q : y_tb tp z p < z
  · exact q
  · exfalso
    apply h
    unfold y_tt
    rw [if_neg q]
theorem y_tt_lt {tp : Nat → Nat} {z p : Nat} (ht : ∀ i, i < z → tp i < 256) : y_tt tp z p < 256 := by
  have wle := y_wn_le (tp := tp) (y_tb tp z p) (y_te tp z p)
  unfold y_tt
  by_cases h : y_tb tp z p < z
  · have := ht _ h
    rw [if_pos h]
    repeat' split
    all_goals omega
  · rw [if_neg h]; omega
theorem y_rt_eq {t v : Nat} (ht : t < 256) (hv : v < 200) (h7 : v ≠ 7) : (y_rt t = nI v) = (t = v) := by
  unfold y_rt
  by_cases q : t = 7
  · rw [if_pos q]
    refine propext ⟨fun h => ?_, fun h => by omega⟩
    exfalso
    have h2 := congrArg Int32.toInt h
    rw [nI_toInt (by omega)] at h2
    have : (-1 : Int32).toInt = -1 := rfl
    omega
  · rw [if_neg q]; exact n_eq (by omega) (by omega)
theorem y_sg_b {t : Nat} (h : y_sg t ≠ 99) : y_sg t < 20 ∧ y_io (y_sg t) = 0 ∧ 1 ≤ y_rk (y_sg t) ∧ t ≠ 59 ∧ t ≠ 41 ∧ t ≠ 0 := by
  by_cases r1 : t = 4
  · subst r1; decide
  by_cases r2 : t = 5
  · subst r2; decide
  by_cases r3 : t = 60
  · subst r3; decide
  by_cases r4 : t = 61
  · subst r4; decide
  by_cases r5 : t = 43
  · subst r5; decide
  by_cases r6 : t = 45
  · subst r6; decide
  by_cases r7 : t = 42
  · subst r7; decide
  exact absurd (by unfold y_sg; rw [if_neg r1, if_neg r2, if_neg r3, if_neg r4, if_neg r5, if_neg r6, if_neg r7]) h
/-- all that eRead changes -/
def YX (n : Nat) (m m' : q_M) : Prop := (∀ p, p ≠ 38 → p ≠ 44 → p ≠ 52 → m' p = m p) ∧ (∀ f, f < 21 → m' 38 f = m 38 f) ∧ ∀ i, i < 200 * n → m' 44 i = m 44 i
theorem YX.refl (n : Nat) (m : q_M) : YX n m m := ⟨fun _ _ _ _ => rfl, fun _ _ => rfl, fun _ _ => rfl⟩
theorem YX.trans {n : Nat} {a b c : q_M} (h : YX n a b) (h' : YX n b c) : YX n a c := ⟨fun p h1 h2 h3 => (h'.1 p h1 h2 h3).trans (h.1 p h1 h2 h3), fun f h1 => (h'.2.1 f h1).trans (h.2.1 f h1), fun i hi => (h'.2.2 i hi).trans (h.2.2 i hi)⟩
theorem YE.x {n : Nat} {m m' : q_M} (h : YE n m m') : YX n m m' := ⟨h.1, fun f hf => h.2.1 f (by omega) (by omega) (by omega), h.2.2⟩
theorem YG.x {n : Nat} {m m' : q_M} (h : YG m m') : YX n m m' := ⟨fun p h1 _ _ => h.1 p h1, fun f hf => h.2 f (by omega), fun i _ => by rw [h.1 44 (by decide)]⟩
/-- where the reference stands -/
def y_Z (tp : Nat → Nat) (z n : Nat) (H : List Nat) (p : Nat) (out : List Nat) (m : q_M) : Prop := (y_T tp z m ∧ ∀ i, i < 96 → m 51 i = nI (y_wl i)) ∧ (p ≤ z ∧ m 38 21 = nI p) ∧ y_Q n H out m ∧ out.length + H.length ≤ p
theorem y_Q.fr {n : Nat} {H out : List Nat} {m m' : q_M} (Q : y_Q n H out m) (f : YG m m') : y_Q n H out m' := by
  obtain ⟨⟨q1, q2⟩, q3, q4, q5, q6, q7, q8⟩ := Q
  exact ⟨⟨by rw [f.2 10 (by omega)]; exact q1, q2⟩, q3, by rw [f.2 27 (by omega)]; exact q4, by rw [f.2 28 (by omega)]; exact q5, by rw [f.2 29 (by omega)]; exact q6, y_hd_fr H (fun i _ => by rw [f.1 52 (by decide)]) q7, fun i hi => by rw [f.1 44 (by decide)]; exact q8 i hi⟩
theorem y_Z.go {tp : Nat → Nat} {z n : Nat} {H : List Nat} {p : Nat} {out : List Nat} {m m' : q_M} (ht : y_T tp z m) (hw : ∀ i, i < 96 → m 51 i = nI (y_wl i)) {e : Nat} (he : e ≤ z) (h21 : m 38 21 = nI e) (f : YE n m m') (Q : y_Q n H out m') (hl : out.length + H.length ≤ e) : y_Z tp z n H e out m' :=
  ⟨⟨⟨ht.1, by rw [f.2.1 7 (by decide) (by decide) (by decide)]; exact ht.2.1, fun i hi => by rw [f.1 43 (by decide) (by decide) (by decide)]; exact ht.2.2 i hi⟩, fun i hi => by rw [f.1 51 (by decide) (by decide) (by decide)]; exact hw i hi⟩, ⟨he, by rw [f.2.1 21 (by decide) (by decide) (by decide)]; exact h21⟩, Q, hl⟩
def y_bi (b : Bool) : Int32 := if b = true then nI 1 else nI 0
section
variable {T : List Nat} {L d : Nat} {m : q_M} {n : Nat} {tp : Nat → Nat} {z : Nat} {K : Option Value → q_G → q_M → Prop}
theorem l_estep {H out : List Nat} {p : Nat} {w mn : Int32} {x : Option Value} (hZ : y_Z tp z n H p out m)
    (hK : ∀ m1, YG m m1 → y_T tp z m1 → (∀ i, i < 96 → m1 51 i = nI (y_wl i)) → y_Q n H out m1 → m1 38 21 = nI (y_te tp z p) → m1 38 22 = nI (y_tb tp z p) → m1 38 23 = y_rt (y_tt tp z p) → (y_tt tp z p = 1 ∨ y_tt tp z p = 2 ∨ y_tt tp z p = 3 → m1 38 24 = nI (y_tv tp z p)) → q_R 135 18 (d + 3) [some (.ref 38), some (.int w), some (.int mn), x] [] (GG T L) m1 K) :
    q_R 135 14 (d + 3) [some (.ref 38), some (.int w), some (.int mn), x] [] (GG T L) m K := by
  obtain ⟨⟨ht, hw⟩, ⟨hp, h21⟩, Q, hl⟩ := hZ
  rw [u135_14]
  simp only [u135_15, q_push_s, q_push_n, q_sm_0, q_sm_i, q_sm_r, q_sm_n, q_sm_l, q_c1_0, q_c1_i, q_c1_r, q_c1_n, Nat.zero_add, Nat.reduceAdd, Nat.reduceMul, Nat.reduceSub, Nat.reduceLeDiff, Nat.reduceLT, Nat.reduceEqDiff, true_and, and_true, not_false_eq_true, if_true, if_false, ite_true, ite_false, or_true, true_or, or_false, false_or, not_true_eq_false, io38]
  refine c_goesNext hp ht hw h21 (fun m1 f a1 a2 a3 a4 => ?_)
  simp only [q_push_s, q_push_n, q_sm_0, q_sm_i, q_sm_r, q_sm_n, q_sm_l, q_c1_0, q_c1_i, q_c1_r, q_c1_n, Nat.zero_add, Nat.reduceAdd, Nat.reduceMul, Nat.reduceSub, Nat.reduceLeDiff, Nat.reduceLT, Nat.reduceEqDiff, true_and, and_true, not_false_eq_true, if_true, if_false, ite_true, ite_false, or_true, true_or, or_false, false_or, not_true_eq_false]
  exact hK m1 f (ht.fr f) (fun i hi => by rw [f.1 51 (by decide)]; exact hw i hi) (Q.fr f) a1 a2 a3 a4
end
