/-! ===== asks ===== -/
section
variable {T : List Nat} {L d : Nat} {xs : Nat → Int32} {s : ZS} {tx : Nat → Nat → List Nat} {n : Nat} {tp : Nat → Nat} {z : Nat} {h : ZH} {wd : Nat → Int32} {m : q_M}
theorem LJ.law (l : LJ T L xs s tx n tp z h wd m) (d : Nat) (K : Option Value → q_G → q_M → Prop) : q_C 48 d [.ref 2] (GG T L) m K ↔ K (some (.ref (z_pl (s.1 2)))) (GG T L) m := c_law l.cl l.iw.2.2.1 l.iw.2.2.2 l.t
theorem LJ.iop (l : LJ T L xs s tx n tp z h wd m) : q_io 6 (GG T L) (z_pl (s.1 2)) ↔ True := by
  have h := (l.tc (s.1 2) l.iw.2.2.1).2.1
  unfold q_io
  rw [h]
  exact ⟨fun _ => trivial, fun _ => rfl⟩
theorem LJ.asking (l : LJ T L xs s tx n tp z h wd m) {gu o j : Nat} (hg : gu < s.1 0) (ho : o < s.1 0) {K : Option Value → q_G → q_M → Prop} (hK : ∀ m', FR m m' → LJ T L xs s tx n tp z h wd m' → (∀ c, c < 6 → m' 13 c = z_nm s gu o j c) → K (some (.ref 13)) (GG T L) m') : q_C 49 (d + 2) [.ref 2, .int (nI gu), .int (nI o), .int (nI j)] (GG T L) m K :=
  c_asking l.cl l.bz hg ho (fun m' f1 f2 => by
    have f := FR.of13 (fun k h1 _ => f1 k h1)
    exact hK m' f (l.fr f) f2)
theorem LJ.says (l : LJ T L xs s tx n tp z h wd m) {p gu o j : Nat} (hp : p < 3) (hn : ∀ c, c < 6 → m 13 c = z_nm s gu o j c) {K : Option Value → q_G → q_M → Prop} (hK : ∀ m', FR m m' → LJ T L xs s tx n tp z h wd m' → K (some (.int (nI (z_ask tx s p gu o j)))) (GG T L) m') : q_C 57 (d + 2) [.ref (z_pl (s.1 2)), .int (nI p), .ref 13] (GG T L) m K :=
  c_says l.tc l.iw.2.1 l.iw.2.2.1 l.iw.2.2.2 hp hn (fun m' f1 => by
    have f := FR.of13 (fun k _ h1 => f1 k h1)
    exact hK m' f (l.fr f))
theorem LJ.asksOf (l : LJ T L xs s tx n tp z h wd m) {p gu o j : Nat} (hp : p < 3) (hg : gu < s.1 0) (ho : o < s.1 0) {K : Option Value → q_G → q_M → Prop} (hK : ∀ m', FR m m' → LJ T L xs s tx n tp z h wd m' → K (some (.int (nI (z_ask tx s p gu o j)))) (GG T L) m') : q_C 141 (d + 2) [.ref 38, .int (nI p), .int (nI gu), .int (nI o), .int (nI j)] (GG T L) m K :=
  c_asksOf8 l.mo l.tm l.iw hp hg ho (fun m' f => hK m' (FR.of53 f) (l.fr (FR.of53 f)))
variable {K : Option Value → Option Value → q_G → q_M → Prop}
theorem p_asks (l : LJ T L xs s tx n tp z h wd m) (a b c : Int32) (hK : ∀ r m', LJ T L xs s tx n tp z h wd m' → K (some (.int r)) (some (.int r)) (GG T L) m') :
    q_C 64 (d + 3) [.ref 0, .int a, .int b, .int c] (GG T L) m (fun v g m => q_C 142 (d + 3) [.ref 38, .int a, .int b, .int c] g m (fun v' g m => K v v' g m)) := by
  have h6 := l.bz.1
  by_cases ha : z_is a 3
  · obtain ⟨p, hp, rfl⟩ := z_is_n ha
    have q0 := n_lt0 (j := p) (by omega)
    have q2 := n_le (i := p) (j := 2) (by omega) (by decide)
    have q3 : p ≤ 2 := by omega
    by_cases hb : z_is2 b (s.1 0)
    · obtain ⟨q, hq, hg, ho, rfl⟩ := z_is2_q hb
      have hdv := n_div (a := q) (d := 10) (by omega) (by decide) (by decide)
      have hrm := n_rem (a := q) (d := 10) (by omega) (by decide) (by decide)
      by_cases hc : z_is c 4
      · obtain ⟨j, hj, rfl⟩ := z_is_n hc
        simp only [e64, u64_0, u64_1, u64_4, u64_5, u64_6, u64_9, u64_10, u64_11, u64_14, u64_17, u64_18, u64_21, u64_24, u64_26, u64_27, u64_28, u64_31, u64_34, u64_35, u64_36, u64_39, u64_40, u64_42, u64_43, u64_44, u64_46, u64_47, u64_48, u64_51, u64_54, q_push_s, q_push_n, q_sm_0, q_sm_i, q_sm_r, q_sm_n, q_sm_l, q_c1_0, q_c1_i, q_c1_r, q_c1_n, Nat.zero_add, Nat.reduceAdd, Nat.reduceMul, Nat.reduceSub, Nat.reduceLeDiff, Nat.reduceLT, Nat.reduceEqDiff, true_and, and_true, not_false_eq_true, if_true, if_false, ite_true, ite_false, or_true, true_or, or_false, false_or, not_true_eq_false, q0, q2, q3, gf0_1, io0, io2, l.pr, l.law, hb, hc, z_b_z, c_isMatter, z10, hdv, hrm, Nat.zero_le, Nat.reduceLeDiff]
        refine l.asking hg ho (fun m1 f1 l1 hn1 => ?_)
        simp only [e64, u64_0, u64_1, u64_4, u64_5, u64_6, u64_9, u64_10, u64_11, u64_14, u64_17, u64_18, u64_21, u64_24, u64_26, u64_27, u64_28, u64_31, u64_34, u64_35, u64_36, u64_39, u64_40, u64_42, u64_43, u64_44, u64_46, u64_47, u64_48, u64_51, u64_54, q_push_s, q_push_n, q_sm_0, q_sm_i, q_sm_r, q_sm_n, q_sm_l, q_c1_0, q_c1_i, q_c1_r, q_c1_n, Nat.zero_add, Nat.reduceAdd, Nat.reduceMul, Nat.reduceSub, Nat.reduceLeDiff, Nat.reduceLT, Nat.reduceEqDiff, true_and, and_true, not_false_eq_true, if_true, if_false, ite_true, ite_false, or_true, true_or, or_false, false_or, not_true_eq_false, l1.iop, Nat.zero_le, Nat.reduceLeDiff]
        refine l1.says hp hn1 (fun m2 f2 l2 => ?_)
        simp only [e64, u64_0, u64_1, u64_4, u64_5, u64_6, u64_9, u64_10, u64_11, u64_14, u64_17, u64_18, u64_21, u64_24, u64_26, u64_27, u64_28, u64_31, u64_34, u64_35, u64_36, u64_39, u64_40, u64_42, u64_43, u64_44, u64_46, u64_47, u64_48, u64_51, u64_54, e142, u142_0, u142_1, u142_2, u142_3, u142_6, u142_9, u142_10, u142_11, u142_14, u142_17, u142_18, u142_21, u142_24, u142_25, u142_26, u142_27, u142_29, u142_30, u142_31, u142_33, u142_34, u142_35, u142_38, u142_41, u142_43, q_push_s, q_push_n, q_sm_0, q_sm_i, q_sm_r, q_sm_n, q_sm_l, q_c1_0, q_c1_i, q_c1_r, q_c1_n, Nat.zero_add, Nat.reduceAdd, Nat.reduceMul, Nat.reduceSub, Nat.reduceLeDiff, Nat.reduceLT, Nat.reduceEqDiff, true_and, and_true, not_false_eq_true, if_true, if_false, ite_true, ite_false, or_true, true_or, or_false, false_or, not_true_eq_false, io38, l2.pr8, hb, hc, z_b_z, c_in, q0, q2, q3, c_isMatter8, z10, hdv, hrm, and_self, Nat.zero_le, Nat.reduceLeDiff]
        refine l2.asksOf hp hg ho (fun m3 f3 l3 => ?_)
        simp only [e142, u142_0, u142_1, u142_2, u142_3, u142_6, u142_9, u142_10, u142_11, u142_14, u142_17, u142_18, u142_21, u142_24, u142_25, u142_26, u142_27, u142_29, u142_30, u142_31, u142_33, u142_34, u142_35, u142_38, u142_41, u142_43, q_push_s, q_push_n, q_sm_0, q_sm_i, q_sm_r, q_sm_n, q_sm_l, q_c1_0, q_c1_i, q_c1_r, q_c1_n, Nat.zero_add, Nat.reduceAdd, Nat.reduceMul, Nat.reduceSub, Nat.reduceLeDiff, Nat.reduceLT, Nat.reduceEqDiff, true_and, and_true, not_false_eq_true, if_true, if_false, ite_true, ite_false, or_true, true_or, or_false, false_or, not_true_eq_false]
        exact hK _ _ l3
      · simp only [e64, u64_0, u64_1, u64_4, u64_5, u64_6, u64_9, u64_10, u64_11, u64_14, u64_17, u64_18, u64_21, u64_24, u64_26, u64_27, u64_28, u64_31, u64_34, u64_35, u64_36, u64_39, u64_40, u64_42, u64_43, u64_44, u64_46, u64_47, u64_48, u64_51, u64_54, e142, u142_0, u142_1, u142_2, u142_3, u142_6, u142_9, u142_10, u142_11, u142_14, u142_17, u142_18, u142_21, u142_24, u142_25, u142_26, u142_27, u142_29, u142_30, u142_31, u142_33, u142_34, u142_35, u142_38, u142_41, u142_43, q_push_s, q_push_n, q_sm_0, q_sm_i, q_sm_r, q_sm_n, q_sm_l, q_c1_0, q_c1_i, q_c1_r, q_c1_n, Nat.zero_add, Nat.reduceAdd, Nat.reduceMul, Nat.reduceSub, Nat.reduceLeDiff, Nat.reduceLT, Nat.reduceEqDiff, true_and, and_true, not_false_eq_true, if_true, if_false, ite_true, ite_false, or_true, true_or, or_false, false_or, not_true_eq_false, q0, q2, q3, io0, io38, l.pr, l.pr8, hb, hc, z_b_z, c_in, c_isMatter, c_isMatter8, and_self, Nat.zero_le, Nat.reduceLeDiff]
        exact hK _ _ l
    · simp only [e64, u64_0, u64_1, u64_4, u64_5, u64_6, u64_9, u64_10, u64_11, u64_14, u64_17, u64_18, u64_21, u64_24, u64_26, u64_27, u64_28, u64_31, u64_34, u64_35, u64_36, u64_39, u64_40, u64_42, u64_43, u64_44, u64_46, u64_47, u64_48, u64_51, u64_54, e142, u142_0, u142_1, u142_2, u142_3, u142_6, u142_9, u142_10, u142_11, u142_14, u142_17, u142_18, u142_21, u142_24, u142_25, u142_26, u142_27, u142_29, u142_30, u142_31, u142_33, u142_34, u142_35, u142_38, u142_41, u142_43, q_push_s, q_push_n, q_sm_0, q_sm_i, q_sm_r, q_sm_n, q_sm_l, q_c1_0, q_c1_i, q_c1_r, q_c1_n, Nat.zero_add, Nat.reduceAdd, Nat.reduceMul, Nat.reduceSub, Nat.reduceLeDiff, Nat.reduceLT, Nat.reduceEqDiff, true_and, and_true, not_false_eq_true, if_true, if_false, ite_true, ite_false, or_true, true_or, or_false, false_or, not_true_eq_false, q0, q2, q3, io0, io38, l.pr, l.pr8, hb, z_b_z, c_in, and_self, Nat.zero_le, Nat.reduceLeDiff]
      exact hK _ _ l
  · rcases z_is_f (n := 2) (by decide) ha with q | ⟨q1, q2⟩
    · simp only [e64, u64_0, u64_1, u64_4, u64_5, u64_6, u64_9, u64_10, u64_11, u64_14, u64_17, u64_18, u64_21, u64_24, u64_26, u64_27, u64_28, u64_31, u64_34, u64_35, u64_36, u64_39, u64_40, u64_42, u64_43, u64_44, u64_46, u64_47, u64_48, u64_51, u64_54, e142, u142_0, u142_1, u142_2, u142_3, u142_6, u142_9, u142_10, u142_11, u142_14, u142_17, u142_18, u142_21, u142_24, u142_25, u142_26, u142_27, u142_29, u142_30, u142_31, u142_33, u142_34, u142_35, u142_38, u142_41, u142_43, q_push_s, q_push_n, q_sm_0, q_sm_i, q_sm_r, q_sm_n, q_sm_l, q_c1_0, q_c1_i, q_c1_r, q_c1_n, Nat.zero_add, Nat.reduceAdd, Nat.reduceMul, Nat.reduceSub, Nat.reduceLeDiff, Nat.reduceLT, Nat.reduceEqDiff, true_and, and_true, not_false_eq_true, if_true, if_false, ite_true, ite_false, or_true, true_or, or_false, false_or, not_true_eq_false, q, z_b_z, c_in, false_and, Nat.zero_le, Nat.reduceLeDiff]
      exact hK _ _ l
    · simp only [e64, u64_0, u64_1, u64_4, u64_5, u64_6, u64_9, u64_10, u64_11, u64_14, u64_17, u64_18, u64_21, u64_24, u64_26, u64_27, u64_28, u64_31, u64_34, u64_35, u64_36, u64_39, u64_40, u64_42, u64_43, u64_44, u64_46, u64_47, u64_48, u64_51, u64_54, e142, u142_0, u142_1, u142_2, u142_3, u142_6, u142_9, u142_10, u142_11, u142_14, u142_17, u142_18, u142_21, u142_24, u142_25, u142_26, u142_27, u142_29, u142_30, u142_31, u142_33, u142_34, u142_35, u142_38, u142_41, u142_43, q_push_s, q_push_n, q_sm_0, q_sm_i, q_sm_r, q_sm_n, q_sm_l, q_c1_0, q_c1_i, q_c1_r, q_c1_n, Nat.zero_add, Nat.reduceAdd, Nat.reduceMul, Nat.reduceSub, Nat.reduceLeDiff, Nat.reduceLT, Nat.reduceEqDiff, true_and, and_true, not_false_eq_true, if_true, if_false, ite_true, ite_false, or_true, true_or, or_false, false_or, not_true_eq_false, q1, q2, z_b_z, c_in, and_false, Nat.zero_le, Nat.reduceLeDiff]
      exact hK _ _ l
end
