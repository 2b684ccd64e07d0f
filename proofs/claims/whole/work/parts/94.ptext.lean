section
variable {T : List Nat} {L d : Nat} {xs : Nat → Int32} {s : ZS} {tx : Nat → Nat → List Nat} {n : Nat} {tp : Nat → Nat} {z : Nat} {h : ZH} {wd : Nat → Int32} {m m1 m2 : q_M} {K : Option Value → Option Value → q_G → q_M → Prop}
theorem y_neg1 : ((-1 : Int32) < nI 0) = True := eq_true (by decide +kernel)
theorem p_text (l : LJ T L xs s tx n tp z h wd m) (hwd : ∀ i, i < 96 → wd i = nI (y_wl i)) (hK0 : ∀ r z' m', LJ T L xs s tx n tp z' h wd m' → K (some (.int r)) (some (.int r)) (GG T L) m') (hK1 : n ≤ 5 → ∀ r N tx' m', LJ (T ++ [N]) L xs s tx' (n + 1) tp 0 h wd m' → K (some (.int r)) (some (.int r)) (GG (T ++ [N]) L) m') :
    q_C 62 (d + 47) [.ref 0] (GG T L) m (fun v g m => q_C 136 (d + 47) [.ref 38] g m (fun v' g m => K v v' g m)) := by
  obtain ⟨t1, t2, t3, t4⟩ := l.tpe
  have hT := l.t
  have hn6 := l.iw.2.2.2
  have e23 := l.nn.1
  have e10 := l.nn.2
  have n6 := n_lt (i := n) (j := 6) (by omega) (by decide)
  have q6 := n_eq (i := n) (j := 6) (by omega) (by decide)
  have hw0 : ∀ i, i < 96 → m 51 i = nI (y_wl i) := fun i hi => (l.wds i hi).trans (hwd i hi)
  by_cases q : n < 6
  · have hn : n ≤ 5 := by omega
    have B : y_B T xs tp z m := ⟨by omega, l.xm, ⟨t1, t2, fun i hi => ⟨(t4 i hi).1, (t4 i hi).2.1⟩⟩⟩
    simp only [e62, u62_0, u62_1, u62_4, u62_7, u62_9, u62_12, u62_14, u62_15, u62_16, u62_19, q_push_s, q_push_n, q_sm_0, q_sm_i, q_sm_r, q_sm_n, q_sm_l, q_c1_0, q_c1_i, q_c1_r, q_c1_n, Nat.zero_add, Nat.reduceAdd, Nat.reduceMul, Nat.reduceSub, Nat.reduceLeDiff, Nat.reduceLT, Nat.reduceEqDiff, true_and, and_true, not_false_eq_true, if_true, if_false, ite_true, ite_false, or_true, true_or, or_false, false_or, not_true_eq_false, gf0_1, gf0_5, gf2_3, e23, n6, q, io26]
    refine c_read (d := d) B (fun m1 c0 c1 c2 p1 p2 p3 s0 s1 s2 h0 D => ?_) (fun m1 pf S' tf D => ?_)
    · have l0 := s0.2.2.2
      have l1 := s1.2.2.2
      have l2 := s2.2.2.2
      have hN : (y_L3 (c0.map z_cc) (c1.map z_cc) (c2.map z_cc)).length = c0.length + c1.length + c2.length + 3 := by rw [y_L3_len, List.length_map, List.length_map, List.length_map]
      simp only [u62_22, u62_23, u62_24, u62_27, u62_28, u62_31, u62_32, u62_40, u62_41, q_push_s, q_push_n, q_sm_0, q_sm_i, q_sm_r, q_sm_n, q_sm_l, q_c1_0, q_c1_i, q_c1_r, q_c1_n, Nat.zero_add, Nat.reduceAdd, Nat.reduceMul, Nat.reduceSub, Nat.reduceLeDiff, Nat.reduceLT, Nat.reduceEqDiff, true_and, and_true, not_false_eq_true, if_true, if_false, ite_true, ite_false, or_true, true_or, or_false, false_or, not_true_eq_false, gf0_1, gf0_5, pf26_1, y_neg1]
      have D3 : m1 26 3 = nI (c0.length + c1.length + c2.length + 3) := by
        have := D.2.2.2.2.1
        rw [show (c0.map z_cc ++ [(-20 : Int32)] ++ (c1.map z_cc ++ [(-20 : Int32)]) ++ (c2.map z_cc ++ [(-20 : Int32)])).length = c0.length + c1.length + c2.length + 3 from hN] at this
        exact this
      have DS : ∀ x, x < c0.length + c1.length + c2.length + 3 → m1 28 x = ((y_L3 (c0.map z_cc) (c1.map z_cc) (c2.map z_cc))[x]?).getD 0 := fun x hx => by
        have hx' : x < (y_L3 (c0.map z_cc) (c1.map z_cc) (c2.map z_cc)).length := by omega
        rw [List.getElem?_eq_getElem hx']
        exact D.2.2.2.2.2 x hx'
      have r0 : z_rp c0 0 1 := by have := s0.2.2.1 0 [] 1 (by decide) rfl; rw [List.append_nil] at this; exact this
      have r1 : z_rp c1 0 1 := by have := s1.2.2.1 0 [] 1 (by decide) rfl; rw [List.append_nil] at this; exact this
      have r2 : z_rp c2 0 1 := by have := s2.2.2.1 0 [] 1 (by decide) rfl; rw [List.append_nil] at this; exact this
      have S0 : ∀ i (hi : i < c0.length), ((y_L3 (c0.map z_cc) (c1.map z_cc) (c2.map z_cc))[i]?).getD 0 = z_cc c0[i] := fun i hi => by
        rw [y_L3_a (by rw [List.length_map]; exact hi), List.getElem_map]; rfl
      have E0 : ((y_L3 (c0.map z_cc) (c1.map z_cc) (c2.map z_cc))[c0.length]?).getD 0 = (-20 : Int32) := by
        have := y_L3_e0 (A := c0.map z_cc) (B := c1.map z_cc) (C := c2.map z_cc)
        rw [List.length_map] at this
        rw [this]; rfl
      have S1 : ∀ i (hi : i < c1.length), ((y_L3 (c0.map z_cc) (c1.map z_cc) (c2.map z_cc))[c0.length + 1 + i]?).getD 0 = z_cc c1[i] := fun i hi => by
        have := y_L3_b (A := c0.map z_cc) (B := c1.map z_cc) (C := c2.map z_cc) (i := i) (by rw [List.length_map]; exact hi)
        rw [List.length_map, List.getElem_map] at this
        rw [this]; rfl
      have E1 : ((y_L3 (c0.map z_cc) (c1.map z_cc) (c2.map z_cc))[c0.length + 1 + c1.length]?).getD 0 = (-20 : Int32) := by
        have := y_L3_e1 (A := c0.map z_cc) (B := c1.map z_cc) (C := c2.map z_cc)
        rw [List.length_map, List.length_map] at this
        rw [this]; rfl
      have S2 : ∀ i (hi : i < c2.length), ((y_L3 (c0.map z_cc) (c1.map z_cc) (c2.map z_cc))[c0.length + 1 + c1.length + 1 + i]?).getD 0 = z_cc c2[i] := fun i hi => by
        have := y_L3_c (A := c0.map z_cc) (B := c1.map z_cc) (C := c2.map z_cc) (i := i) (by rw [List.length_map]; exact hi)
        rw [List.length_map, List.length_map, List.getElem_map] at this
        rw [this]; rfl
      have E2 : ((y_L3 (c0.map z_cc) (c1.map z_cc) (c2.map z_cc))[c0.length + 1 + c1.length + 1 + c2.length]?).getD 0 = (-20 : Int32) := by
        have := y_L3_e2 (A := c0.map z_cc) (B := c1.map z_cc) (C := c2.map z_cc)
        rw [List.length_map, List.length_map, List.length_map] at this
        rw [this]; rfl
      have fo := y_fo_3 (S := fun (x : Nat) => ((y_L3 (c0.map z_cc) (c1.map z_cc) (c2.map z_cc))[x]?).getD 0) (a0 := c0.length) (a1 := c1.length) (a2 := c2.length) (fun x hx => by show ((y_L3 (c0.map z_cc) (c1.map z_cc) (c2.map z_cc))[x]?).getD 0 ≠ _; rw [S0 x hx]; exact y_rp_ne c0 0 1 r0 x hx) E0
        (fun x h1 h2 => by
          obtain ⟨i, rfl⟩ : ∃ i, x = c0.length + 1 + i := ⟨x - (c0.length + 1), by omega⟩
          show ((y_L3 (c0.map z_cc) (c1.map z_cc) (c2.map z_cc))[c0.length + 1 + i]?).getD 0 ≠ _
          rw [S1 i (by omega)]; exact y_rp_ne c1 0 1 r1 i (by omega)) E1
        (fun x h1 h2 => by
          obtain ⟨i, rfl⟩ : ∃ i, x = c0.length + 1 + c1.length + 1 + i := ⟨x - (c0.length + 1 + c1.length + 1), by omega⟩
          show ((y_L3 (c0.map z_cc) (c1.map z_cc) (c2.map z_cc))[c0.length + 1 + c1.length + 1 + i]?).getD 0 ≠ _
          rw [S2 i (by omega)]; exact y_rp_ne c2 0 1 r2 i (by omega)) E2
      refine c_mk (d := d + 43) (N := c0.length + c1.length + c2.length + 3) (S := fun (x : Nat) => ((y_L3 (c0.map z_cc) (c1.map z_cc) (c2.map z_cc))[x]?).getD 0) hT hn (by omega) (by rw [q_up_i _ _ (by decide)]; exact D3) (fun x hx => by rw [q_up_f _ _ _ (by decide)]; exact DS x hx) (by rw [q_up_f _ _ _ (by decide), D.1 2 (by decide) (by decide)]; exact e23) (fun m3 g1 g2 g3 g4 g5 g6 => ?_)
      rw [fo.1] at g5
      rw [fo.2] at g6
      have fk : ∀ k, k ≠ 2 ∧ k ≠ 26 ∧ k ≠ 28 ∧ k ≠ 58 + 2 * T.length ∧ k ≠ 58 + 2 * T.length + 1 → m3 k = m k := fun k hk => by
        rw [g1 k hk.1 hk.2.2.2.1 hk.2.2.2.2, q_up_f _ _ _ hk.2.1, D.1 k hk.2.1 hk.2.2.1]
      have e38 := fk 38 (by omega)
      refine c_text8S (d := d + 43) (n := n) s0 s1 s2 h0 ⟨t1, by rw [e38]; exact t3, fun i hi => ⟨(t4 i hi).1, by rw [fk 43 (by omega)]; exact (t4 i hi).2.2⟩⟩ (fun i hi => by rw [fk 51 (by omega)]; exact hw0 i hi) (by rw [e38]; exact e10) hn (fun m4 V v7 v10 x45 xcd => ?_)
      refine hK1 hn _ _ _ m4 (l.tnew (S := fun (x : Nat) => ((y_L3 (c0.map z_cc) (c1.map z_cc) (c2.map z_cc))[x]?).getD 0) hn (fun k k1 k2 k3 k4 k5 k6 k7 k8 k9 => by rw [V.1 k k4 k5 k6 k7, fk k ⟨k1, k2, k3, k8, k9⟩]) (fun f a1 a2 a3 => by rw [V.2.1 f a1 a2 a3, e38]) (fun i hi => by rw [V.2.2.1 i hi, fk 44 (by omega)]) (fun i hi => by rw [V.2.2.2 i hi, fk 45 (by omega)]) ?_ v7 v10 ?_ r0 r1 r2 (by omega) x45 xcd (fun x hx => ?_) ?_ ?_ S0 E0 S1 E1 S2 E2)
      · rw [V.1 26 (by decide) (by decide) (by decide) (by decide), g1 26 (by decide) (by omega) (by omega), q_up_eq]
      · rw [V.1 2 (by decide) (by decide) (by decide) (by decide)]; exact g3
      · rw [V.1 _ (by omega) (by omega) (by omega) (by omega)]; exact g4 x hx
      · rw [V.1 _ (by omega) (by omega) (by omega) (by omega)]; exact g5
      · rw [V.1 _ (by omega) (by omega) (by omega) (by omega)]; exact g6
    · have hb := (y_tb_le (tp := tp) (z := z) (p := pf)).2 D.2.1.2
      have n0 : ¬ nI (y_tb tp z pf) < nI 0 := by rw [n_lt (by omega) (by decide)]; omega
      simp only [u62_22, u62_23, u62_24, u62_27, u62_28, u62_31, u62_32, u62_35, u62_37, u62_38, u62_39, q_push_s, q_push_n, q_sm_0, q_sm_i, q_sm_r, q_sm_n, q_sm_l, q_c1_0, q_c1_i, q_c1_r, q_c1_n, Nat.zero_add, Nat.reduceAdd, Nat.reduceMul, Nat.reduceSub, Nat.reduceLeDiff, Nat.reduceLT, Nat.reduceEqDiff, true_and, and_true, not_false_eq_true, if_true, if_false, ite_true, ite_false, or_true, true_or, or_false, false_or, not_true_eq_false, gf0_5, pf26_1, n0]
      have fk : ∀ k, k ≠ 26 → k ≠ 28 → q_up m1 26 1 (nI 0) k = m k := fun k k1 k2 => by rw [q_up_f _ _ _ k1, D.1 k k1 k2]
      have e38 := fk 38 (by decide) (by decide)
      refine c_text8F (d := d + 43) (n := n) tf ⟨t1, by rw [e38]; exact t3, fun i hi => ⟨(t4 i hi).1, by rw [fk 43 (by decide) (by decide)]; exact (t4 i hi).2.2⟩⟩ (fun i hi => by rw [fk 51 (by decide) (by decide)]; exact hw0 i hi) (by rw [e38]; exact e10) hn (fun m4 V v7 v10 => ?_)
      refine hK0 _ 0 m4 (l.tfail (fun k k2 k3 k4 k5 k6 k7 => by rw [V.1 k k4 k5 k6 k7, fk k k2 k3]) (fun f a1 a2 a3 => by rw [V.2.1 f a1 a2 a3, e38]) (fun i hi => by rw [V.2.2.1 i hi, fk 44 (by decide) (by decide)]) (fun i hi => by rw [V.2.2.2 i hi, fk 45 (by decide) (by decide)]) ?_ v7 v10)
      rw [V.1 26 (by decide) (by decide) (by decide) (by decide), q_up_eq]
  · have e6 : n = 6 := by omega
    simp only [e62, u62_0, u62_1, u62_4, u62_7, u62_9, u62_12, u62_14, e136, u136_0, u136_1, u136_4, u136_6, u136_9, u136_11, q_push_s, q_push_n, q_sm_0, q_sm_i, q_sm_r, q_sm_n, q_sm_l, q_c1_0, q_c1_i, q_c1_r, q_c1_n, Nat.zero_add, Nat.reduceAdd, Nat.reduceMul, Nat.reduceSub, Nat.reduceLeDiff, Nat.reduceLT, Nat.reduceEqDiff, true_and, and_true, not_false_eq_true, if_true, if_false, ite_true, ite_false, or_true, true_or, or_false, false_or, not_true_eq_false, gf0_1, gf2_3, gf38_10, e23, e10, n6, q, q6, e6]
    rw [e6] at l
    subst e6
    exact hK0 _ _ _ l
end
