/-! ===== the class keeps the text ===== -/
section
variable {T : List Nat} {L d N n : Nat} {g : q_G} {m : q_M} {S : Nat → Int32} {K : Option Value → q_G → q_M → Prop}
theorem gf_gg {c f k : Nat} (h : g.1 k = (GG T L).1 k) {F : Value → Prop} : q_gf c f g m k F ↔ q_gf c f (GG T L) m k F := by
  unfold q_gf
  rw [h]
theorem io_gg {c k : Nat} (h : g.1 k = (GG T L).1 k) : q_io c g k ↔ q_io c (GG T L) k := by
  unfold q_io
  rw [h]
theorem al_gg {k : Nat} (h : g.1 k = (GG T L).1 k) {F : Int32 → Prop} : q_al g k F ↔ q_al (GG T L) k F := by
  unfold q_al
  rw [h]
theorem gg2 : (GG T L).2.1 = 58 + 2 * T.length := rfl
theorem q_bnd160 (hN : N ≤ 160) : q_bnd (nI N) (nI 160) = nI N := by
  have h : ∀ N, N < 161 → q_bnd (nI N) (nI 160) = nI N := by decide +kernel
  exact h N (by omega)
theorem pfP0 {P : Nat} (hs : g.1 P = .inr (.inr (6, q_fields 6))) (hP : P < 900) {r : Nat} {F : q_G → q_M → Prop} : q_pf 6 0 false g m P (.ref r) F ↔ F (q_sh g P (.inr (.inr (6, [some (.ref r), none, none])))) m := by
  unfold q_pf
  rw [hs]
  exact ⟨fun h => h.2.2, fun h => ⟨rfl, hP, h⟩⟩
theorem c_init (hT : T.length ≤ 4) (hN : N ≤ 160) (hS : ∀ x, x < N → m 28 x = S x)
    (hK : ∀ m', (∀ k, k ≠ 58 + 2 * T.length → k ≠ 58 + 2 * T.length + 1 → m' k = m k) → (∀ x, x < N → m' (58 + 2 * T.length + 1) x = S x) → m' (58 + 2 * T.length) 1 = nI (y_fo S N 0 0 0 0).2.1 → m' (58 + 2 * T.length) 2 = nI (y_fo S N 0 0 0 0).2.2 → K none (y_g3 T L N) m') :
    q_C 56 (d + 3) [.ref (58 + 2 * T.length), .ref 28, .int (nI N)] (y_g1 T L) (q_zero m (58 + 2 * T.length)) K := by
  have hP9 : 58 + 2 * T.length < 900 := by omega
  have h950 : ¬ 28 = 950 := by decide
  have cl : (nI N).toNatClampNeg = N := n_cl (by omega)
  have n0 : ¬ nI N < 0 := by
    exact nI_pos (n := N) (by omega)
  have h28 : (y_g1 T L).1 28 = .inl 160 := (g1_n (by omega)).trans sh28
  have hgP : (q_new (y_g1 T L) (.inl N) N).1 (58 + 2 * T.length) = .inr (.inr (6, q_fields 6)) := by
    show va_up (y_g1 T L).1 (58 + 2 * T.length + 1) (.inl N) _ = _
    rw [va_up_n _ _ (by omega)]
    exact g1_P
  simp only [e56, u56_0, u56_1, u56_4, u56_5, u56_6, u56_6n, u56_7n, u56_7, u56_10, u56_11, u56_14, u56_14n, u56_15, u56_16, u56_19, u56_21, u56_24, u56_25, u56_26, u56_27, u56_29, u56_30, u56_32, u56_33, q_push_s, q_push_n, q_sm_0, q_sm_i, q_sm_r, q_sm_n, q_sm_l, q_c1_0, q_c1_i, q_c1_r, q_c1_n, Nat.zero_add, Nat.reduceAdd, Nat.reduceMul, Nat.reduceSub, Nat.reduceLeDiff, Nat.reduceLT, Nat.reduceEqDiff, true_and, and_true, not_false_eq_true, if_true, if_false, ite_true, ite_false, or_true, true_or, or_false, false_or, not_true_eq_false, hP9, h950, al_g h28, c_bounded, q_bnd160 hN, g1_2, cl, pfP0 hgP hP9]
  refine ⟨fun e => ?_, ?_⟩
  · rcases e with e | e | e
    · omega
    · exact n0 e
    · omega
  have z28 : ∀ x, x < N → q_zero (q_zero m (58 + 2 * T.length)) (58 + 2 * T.length + 1) 28 x = S x := fun x hx => by
    show (if 28 = 58 + 2 * T.length + 1 then 0 else if 28 = 58 + 2 * T.length then 0 else m 28 x) = S x
    rw [if_neg (by omega), if_neg (by omega)]
    exact hS x hx
  refine l_init (P := 58 + 2 * T.length) (N := N) (S := S) (g := y_g3 T L N) g3_P g3_P1 ((g3_n (by omega) (by omega)).trans sh28) ⟨by omega, by omega⟩ hN (d + 2) N 0 0 0 0 _ (by omega) (Nat.le_refl 0) z28 (fun x hx => absurd hx (Nat.not_lt_zero x)) (fun m' f1 f2 f3 f4 => hK m' (fun k k1 k2 => ?_) f2 f3 f4)
  rw [f1 k k1 k2]
  funext i
  show (if k = 58 + 2 * T.length + 1 then 0 else if k = 58 + 2 * T.length then 0 else m k i) = m k i
  rw [if_neg k2, if_neg k1]
theorem c_mk (hT : T.length + 1 = n) (hn : n ≤ 5) (hN : N ≤ 160) (h3 : m 26 3 = nI N) (hS : ∀ x, x < N → m 28 x = S x) (h23 : m 2 3 = nI n) {v : Int32}
    (hK : ∀ m', (∀ k, k ≠ 2 → k ≠ 58 + 2 * T.length → k ≠ 58 + 2 * T.length + 1 → m' k = m k) → (∀ f, f ≠ 3 → m' 2 f = m 2 f) → m' 2 3 = nI (n + 1) → (∀ x, x < N → m' (58 + 2 * T.length + 1) x = S x) → m' (58 + 2 * T.length) 1 = nI (y_fo S N 0 0 0 0).2.1 → m' (58 + 2 * T.length) 2 = nI (y_fo S N 0 0 0 0).2.2 → K (some (.int (nI n))) (GG (T ++ [N]) L) m') :
    q_R 62 44 (d + 4) [some (.ref 0), some (.int v)] [.ref 2] (GG T L) m K := by
  have hP9 : 58 + 2 * T.length < 900 := by omega
  have e26 : (y_g1 T L).1 26 = (GG T L).1 26 := g1_n (by omega)
  have e0 : (y_g1 T L).1 0 = (GG T L).1 0 := g1_n (by omega)
  have z3 : q_zero m (58 + 2 * T.length) 26 3 = nI N := by
    show (if 26 = 58 + 2 * T.length then 0 else m 26 3) = nI N
    rw [if_neg (by omega)]
    exact h3
  have x1 : ∀ mm (F : Value → Prop), q_gf 7 5 (y_g1 T L) mm 0 F ↔ F (.ref 26) := fun mm F => (gf_gg e0).trans gf0_5
  have x2 : ∀ mm (F : Value → Prop), q_gf 3 2 (y_g1 T L) mm 26 F ↔ F (.ref 28) := fun mm F => (gf_gg e26).trans gf26_2
  have x3 : ∀ mm (F : Value → Prop), q_gf 3 3 (y_g1 T L) mm 26 F ↔ F (.int (mm 26 3)) := fun mm F => (gf_gg e26).trans gf26_3
  have eg1 : q_new (GG T L) (.inr (.inr (6, q_fields 6))) (q_fields 6).length = y_g1 T L := rfl
  simp only [u62_44, u62_47, u62_47r, u62_48, u62_49, u62_52, u62_55, u62_56, u62_59, u62_62, q_push_s, q_push_n, q_sm_0, q_sm_i, q_sm_r, q_sm_n, q_sm_l, q_c1_0, q_c1_i, q_c1_r, q_c1_n, Nat.zero_add, Nat.reduceAdd, Nat.reduceMul, Nat.reduceSub, Nat.reduceLeDiff, Nat.reduceLT, Nat.reduceEqDiff, true_and, and_true, not_false_eq_true, if_true, if_false, ite_true, ite_false, or_true, true_or, or_false, false_or, not_true_eq_false, gg2, hP9, eg1, x1, x2, x3, z3]
  refine c_init (d := d) (S := S) (by omega) hN hS (fun m2 f1 f2 f3 f4 => ?_)
  have s2 : (y_g3 T L N).1 2 = (GG T L).1 2 := g3_n (by omega) (by omega)
  have s12 : (y_g3 T L N).1 12 = (GG T L).1 12 := g3_n (by omega) (by omega)
  have y1 : ∀ mm (F : Value → Prop), q_gf 5 3 (y_g3 T L N) mm 2 F ↔ F (.int (mm 2 3)) := fun mm F => (gf_gg s2).trans gf2_3
  have y2 : ∀ mm (F : Value → Prop), q_gf 5 2 (y_g3 T L N) mm 2 F ↔ F (.ref 12) := fun mm F => (gf_gg s2).trans gf2_2
  have y3 : q_io 5 (y_g3 T L N) 2 ↔ True := (io_gg s2).trans io2
  have m23 : m2 2 3 = nI n := by rw [f1 2 (by omega) (by omega)]; exact h23
  have n0 : ¬ nI n < nI 0 := by rw [n_lt (by omega) (by decide)]; omega
  have n6 := n_lt (i := n) (j := 6) (by omega) (by decide)
  have n6' : n < 6 := by omega
  have y4 : ∀ F : Int32 → Prop, q_al (y_g3 T L N) 12 F ↔ F (nI 6) := fun F => by
    unfold q_al
    rw [s12]
    exact ⟨fun h => h.2, fun h => ⟨by decide, h⟩⟩
  have y5 : ∀ F : q_G → Prop, q_as (y_g3 T L N) 12 (nI n) (58 + 2 * T.length) F ↔ F (GG (T ++ [N]) L) := fun F => by
    have sh12 : (y_g3 T L N).1 12 = .inr (.inl (6, 6, q_tf T.length)) := s12
    unfold q_as
    rw [sh12, g3_P]
    dsimp only
    rw [q_vpI (by omega), nI_clamp (by omega), ← hT, g3_up]
    exact ⟨fun h => h.2.2.2.2, fun h => ⟨by omega, by decide, by omega, rfl, h⟩⟩
  simp only [u62_65, u62_68, e47, e47, u47_0, u47_1, u47_4, u47_5, u47_6, u47_9, u47_10, u47_11, u47_14, u47_15, u47_18, u47_20, u47_21, u47_22, u47_25, u47_26, u47_26n, u47_27, u47_27n, u47_28, u47_29, u47_29r, u47_30, u47_33, u47_34, u47_35, u47_38, u47_39, q_push_s, q_push_n, q_sm_0, q_sm_i, q_sm_r, q_sm_n, q_sm_l, q_c1_0, q_c1_i, q_c1_r, q_c1_n, Nat.zero_add, Nat.reduceAdd, Nat.reduceMul, Nat.reduceSub, Nat.reduceLeDiff, Nat.reduceLT, Nat.reduceEqDiff, true_and, and_true, not_false_eq_true, if_true, if_false, ite_true, ite_false, or_true, true_or, or_false, false_or, not_true_eq_false, y1, y2, y3, m23, n0, n6, n6', y4, y5, gf2_3, pf2_3, n_add]
  refine hK _ (fun k k1 k2 k3 => ?_) (fun f hf => ?_) (q_up_eq _ _ _ _) (fun x hx => ?_) ?_ ?_
  · rw [q_up_f _ _ _ k1]; exact f1 k k2 k3
  · rw [q_up_i _ _ hf, f1 2 (by omega) (by omega)]
  · rw [q_up_f _ _ _ (by omega)]; exact f2 x hx
  · rw [q_up_f _ _ _ (by omega)]; exact f3
  · rw [q_up_f _ _ _ (by omega)]; exact f4
end
