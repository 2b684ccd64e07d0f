section
variable {T : List Nat} {L : Nat} {s : ZS} {tx : Nat → Nat → List Nat} {n : Nat} {h : ZH} {m : q_M} {K : Option Value → q_G → q_M → Prop}
def z_fF (c : Nat → Nat) (N x : Nat) (a : Nat × Nat) : Nat × Nat := if z_ok (z_cb c) N N x then z_fA N (z_dd N N x) a else a
theorem l_fm3 {N : Nat} {c : Nat → Nat} (hN : N ≤ 6) (hc : ∀ g, g < N → c g < 64) (x1 : Int32) (d : Nat) : ∀ cc x (a : Nat × Nat) m x4 x5, q_c1 x4 = true → q_c1 x5 = true → x + cc = N ^ N → a.1 ≤ x → m 38 0 = nI N → m 38 36 = nI a.2 → (∀ g, g < N → m 55 g = nI (c g)) → (∀ m', FV m m' → m' 38 36 = nI (z_fo (z_fF c N) cc x a).2 → K (some (.int (nI (z_fo (z_fF c N) cc x a).1))) (GG T L) m') →
    q_R 164 37 (d + 2) [some (.ref 38), some (.int x1), some (.int (nI a.1)), some (.int (nI x)), x4, x5] [] (GG T L) m K
  | 0, x, a, m, x4, x5, h4, h5, hx, hax, h0, h36, hc55, hK => by
    have e : x = N ^ N := by omega
    have hn := z_nn N (by omega)
    have e2 : ¬ N ^ N < N ^ N := Nat.lt_irrefl _
    simp only [u164_37, u164_38, u164_39, u164_42, u164_148, u164_149, q_push_s, q_push_n, q_sm_0, q_sm_i, q_sm_r, q_sm_n, q_sm_l, q_c1_0, q_c1_i, q_c1_r, q_c1_n, Nat.zero_add, Nat.reduceAdd, Nat.reduceMul, Nat.reduceSub, Nat.reduceLeDiff, Nat.reduceLT, Nat.reduceEqDiff, true_and, and_true, not_false_eq_true, if_true, if_false, ite_true, ite_false, or_true, true_or, or_false, false_or, not_true_eq_false, io38, c_num hN h0, e, n_lt (i := N ^ N) (j := N ^ N) (by omega) (by omega), e2, Nat.zero_le, Nat.reduceLeDiff]
    exact hK m (FV.refl m) h36
  | cc + 1, x, a, m, x4, x5, h4, h5, hx, hax, h0, h36, hc55, hK => by
    have e : x < N ^ N := by omega
    have hn := z_nn N (by omega)
    rw [show z_fo (z_fF c N) (cc + 1) x a = z_fo (z_fF c N) cc (x + 1) (z_fF c N x a) from rfl] at hK
    rw [u164_37]
    simp only [u164_38, u164_39, u164_42, u164_45, u164_46, u164_47, q_push_s, q_push_n, q_sm_0, q_sm_i, q_sm_r, q_sm_n, q_sm_l, q_c1_0, q_c1_i, q_c1_r, q_c1_n, Nat.zero_add, Nat.reduceAdd, Nat.reduceMul, Nat.reduceSub, Nat.reduceLeDiff, Nat.reduceLT, Nat.reduceEqDiff, true_and, and_true, not_false_eq_true, if_true, if_false, ite_true, ite_false, or_true, true_or, or_false, false_or, not_true_eq_false, io38, c_num hN h0, n_lt (i := x) (j := N ^ N) (by omega) (by omega), e, Nat.zero_le, Nat.reduceLeDiff]
    refine c_tells (d := d) hN (by omega) h0 (fun m1 f1 g1 => ?_)
    have e0 : m1 38 0 = nI N := by rw [f1 38 (by decide)]; exact h0
    have e36 : m1 38 36 = nI a.2 := by rw [f1 38 (by decide)]; exact h36
    have e55 : ∀ g, g < N → m1 55 g = nI (c g) := fun g hg => by rw [f1 55 (by decide)]; exact hc55 g hg
    have hiff := z_ok_iff (z_cb c) N N x
    by_cases q : z_ok z_tt N N x = true
    · have hdl : ∀ i, i < N → z_dd N N x i < N := fun i hi => z_dd_lt (by omega) N x i
      have ez : (z_b True = nI 0) = False := by rw [z_b_t]; exact lq_1_0
      simp only [u164_50, u164_53, u164_54, u164_56, u164_57, q_push_s, q_push_n, q_sm_0, q_sm_i, q_sm_r, q_sm_n, q_sm_l, q_c1_0, q_c1_i, q_c1_r, q_c1_n, Nat.zero_add, Nat.reduceAdd, Nat.reduceMul, Nat.reduceSub, Nat.reduceLeDiff, Nat.reduceLT, Nat.reduceEqDiff, true_and, and_true, not_false_eq_true, if_true, if_false, ite_true, ite_false, or_true, true_or, or_false, false_or, not_true_eq_false, q, ez, h4]
      have hin := l_fm2 (T := T) (L := L) (K := K) (m := m1) (x1 := some (.int x1)) (x2 := some (.int (nI a.1))) (x3 := nI x) hN hc hdl e0 e55 g1 (d + 2) N 0 True (by omega) (fun p' hp' => by
        have hpo : p' ↔ z_ok (z_cb c) N N x = true := by
          rw [hp', hiff]
          exact ⟨fun a => ⟨q, fun i hi => a.2 i hi (Nat.zero_le i)⟩, fun a => ⟨trivial, fun g hg _ => a.2 g hg⟩⟩
        by_cases q2 : p'
        · have ef : z_fF c N x a = (a.1 + 1, if a.1 = 0 then z_dg (z_dd N N x) N else a.2) := if_pos (hpo.mp q2)
          rw [ef] at hK
          have ea := n_eq (i := a.1) (j := 0) (by omega) (by decide)
          have e1 : (nI 1 = nI 0) = False := lq_1_0
          by_cases q3 : a.1 = 0
          · rw [if_pos q3] at hK
            simp only [u164_105, u164_106, u164_108, u164_111, u164_112, u164_115, u164_116, u164_119, u164_122, u164_123, u164_126, u164_129, u164_130, u164_132, u164_135, u164_136, u164_139, u164_140, u164_141, u164_142, u164_145, q_push_s, q_push_n, q_sm_0, q_sm_i, q_sm_r, q_sm_n, q_sm_l, q_c1_0, q_c1_i, q_c1_r, q_c1_n, Nat.zero_add, Nat.reduceAdd, Nat.reduceMul, Nat.reduceSub, Nat.reduceLeDiff, Nat.reduceLT, Nat.reduceEqDiff, true_and, and_true, not_false_eq_true, if_true, if_false, ite_true, ite_false, or_true, true_or, or_false, false_or, not_true_eq_false, z_b_z, q2, ea, q3, io38, pf38_36, c_digits8 hN e0 g1, n_add, Nat.zero_le, Nat.reduceLeDiff]
            have fa := (FV.of56 f1).trans (FV.up38 (f := 36) (by decide) (nI (z_dg (z_dd N N x) N)) m1)
            rw [q3] at hK
            exact l_fm3 hN hc x1 d cc (x + 1) (0 + 1, z_dg (z_dd N N x) N) _ _ _ (of_eq_true (q_c1_i _)) (of_eq_true (q_c1_i _)) (by omega) (by show 0 + 1 ≤ x + 1; omega) (by rw [q_up_i _ _ (by decide)]; exact e0) (q_up_eq _ _ _ _) (fun g hg => by rw [q_up_f _ _ _ (by decide)]; exact e55 g hg) (fun m' f' g' => hK m' (fa.trans f') g')
          · rw [if_neg q3] at hK
            simp only [u164_105, u164_106, u164_108, u164_111, u164_112, u164_115, u164_116, u164_119, u164_122, u164_123, u164_126, u164_129, u164_130, u164_132, u164_135, u164_136, u164_139, u164_140, u164_141, u164_142, u164_145, q_push_s, q_push_n, q_sm_0, q_sm_i, q_sm_r, q_sm_n, q_sm_l, q_c1_0, q_c1_i, q_c1_r, q_c1_n, Nat.zero_add, Nat.reduceAdd, Nat.reduceMul, Nat.reduceSub, Nat.reduceLeDiff, Nat.reduceLT, Nat.reduceEqDiff, true_and, and_true, not_false_eq_true, if_true, if_false, ite_true, ite_false, or_true, true_or, or_false, false_or, not_true_eq_false, z_b_z, q2, ea, q3, gf38_36, e36, pf38_36, n_add]
            have fa := (FV.of56 f1).trans (FV.up38 (f := 36) (by decide) (nI a.2) m1)
            exact l_fm3 hN hc x1 d cc (x + 1) (a.1 + 1, a.2) _ _ _ (of_eq_true (q_c1_i _)) (of_eq_true (q_c1_i _)) (by omega) (by show a.1 + 1 ≤ x + 1; omega) (by rw [q_up_i _ _ (by decide)]; exact e0) (q_up_eq _ _ _ _) (fun g hg => by rw [q_up_f _ _ _ (by decide)]; exact e55 g hg) (fun m' f' g' => hK m' (fa.trans f') g')
        · have ef : z_fF c N x a = a := if_neg (fun e => q2 (hpo.mpr e))
          rw [ef] at hK
          simp only [u164_105, u164_106, u164_108, u164_111, u164_112, u164_115, u164_116, u164_119, u164_122, u164_123, u164_126, u164_129, u164_130, u164_132, u164_135, u164_136, u164_139, u164_140, u164_141, u164_142, u164_145, q_push_s, q_push_n, q_sm_0, q_sm_i, q_sm_r, q_sm_n, q_sm_l, q_c1_0, q_c1_i, q_c1_r, q_c1_n, Nat.zero_add, Nat.reduceAdd, Nat.reduceMul, Nat.reduceSub, Nat.reduceLeDiff, Nat.reduceLT, Nat.reduceEqDiff, true_and, and_true, not_false_eq_true, if_true, if_false, ite_true, ite_false, or_true, true_or, or_false, false_or, not_true_eq_false, z_b_z, q2, gf38_36, e36, pf38_36, n_add, Nat.add_zero]
          have fa := (FV.of56 f1).trans (FV.up38 (f := 36) (by decide) (nI a.2) m1)
          exact l_fm3 hN hc x1 d cc (x + 1) a _ _ _ (of_eq_true (q_c1_i _)) (of_eq_true (q_c1_i _)) (by omega) (by omega) (by rw [q_up_i _ _ (by decide)]; exact e0) (q_up_eq _ _ _ _) (fun g hg => by rw [q_up_f _ _ _ (by decide)]; exact e55 g hg) (fun m' f' g' => hK m' (fa.trans f') g'))
      rw [z_b_t] at hin
      exact hin
    · have ef : z_fF c N x a = a := if_neg (fun e => q (hiff.mp e).1)
      rw [ef] at hK
      have ez : (z_b (false = true) = nI 0) = True := by rw [z_b_0 (by decide)]; exact eq_self _
      simp only [u164_50, u164_142, u164_145, q_push_s, q_push_n, q_sm_0, q_sm_i, q_sm_r, q_sm_n, q_sm_l, q_c1_0, q_c1_i, q_c1_r, q_c1_n, Nat.zero_add, Nat.reduceAdd, Nat.reduceMul, Nat.reduceSub, Nat.reduceLeDiff, Nat.reduceLT, Nat.reduceEqDiff, true_and, and_true, not_false_eq_true, if_true, if_false, ite_true, ite_false, or_true, true_or, or_false, false_or, not_true_eq_false, q, ez, n_add]
      exact l_fm3 hN hc x1 d cc (x + 1) a m1 _ _ h4 h5 (by omega) (by omega) e0 e36 e55 (fun m' f' g' => hK m' ((FV.of56 f1).trans f') g')
theorem RJ.fitMany {d mt : Nat} (l : RJ s tx n h m) (hm : mt < 16) (hK : ∀ m', FV m m' → RJ s tx n h m' → m' 38 36 = nI (z_ff tx s mt) → K (some (.int (nI (z_fit tx s mt)))) (GG T L) m') : q_C 164 (d + 6) [.ref 38, .int (nI mt)] (GG T L) m K := by
  have h6 := l.bz.1
  simp only [e164, u164_0, u164_1, u164_2, u164_3, u164_4, u164_7, u164_8, q_push_s, q_push_n, q_sm_0, q_sm_i, q_sm_r, q_sm_n, q_sm_l, q_c1_0, q_c1_i, q_c1_r, q_c1_n, Nat.zero_add, Nat.reduceAdd, Nat.reduceMul, Nat.reduceSub, Nat.reduceLeDiff, Nat.reduceLT, Nat.reduceEqDiff, true_and, and_true, not_false_eq_true, if_true, if_false, ite_true, ite_false, or_true, true_or, or_false, false_or, not_true_eq_false, pf38_36]
  have f0 := FV.up38 (f := 36) (by decide) (nI 0) m
  refine l_fm1 hm _ d (s.1 0) 0 _ (by omega) (l.fv f0) (fun m1 f1 g36 l1 g1 => ?_) (of_eq_true (q_c1_i _))
  simp only [u164_35, u164_36, q_push_s, q_push_n, q_sm_0, q_sm_i, q_sm_r, q_sm_n, q_sm_l, q_c1_0, q_c1_i, q_c1_r, q_c1_n, Nat.zero_add, Nat.reduceAdd, Nat.reduceMul, Nat.reduceSub, Nat.reduceLeDiff, Nat.reduceLT, Nat.reduceEqDiff, true_and, and_true, not_false_eq_true, if_true, if_false, ite_true, ite_false, or_true, true_or, or_false, false_or, not_true_eq_false]
  have hen := z_enum (z_cb (fun g => z_may tx s g mt)) (z_fA (s.1 0)) h6 (0, 0)
  rw [z_fit_DT _ _ _ _ _ _ _ (by omega)] at hen
  refine l_fm3 (c := fun g => z_may tx s g mt) h6 (fun g _ => z_may_lt tx h6 g mt) (nI mt) (d + 4) (s.1 0 ^ s.1 0) 0 (0, 0) m1 _ _ (of_eq_true q_c1_0) (of_eq_true q_c1_0) (by omega) (Nat.le_refl _) l1.mo.n (by rw [g36, q_up_eq]) (fun g hg => by rw [g1 g hg, if_pos (Nat.zero_le g)]) (fun m2 f2 g2 => ?_)
  have e : z_fo (z_fF (fun g => z_may tx s g mt) (s.1 0)) (s.1 0 ^ s.1 0) 0 (0, 0) = (z_fit tx s mt, z_ff tx s mt) := by
    refine hen.trans ?_
    unfold z_fit z_ff z_fit
    refine Prod.ext (Nat.zero_add _) ?_
    show (if 0 = 0 ∧ 0 < _ then _ else 0) = _
    by_cases q : 0 < z_W (fun g => z_may tx s g mt) (s.1 0) (s.1 0) 0 0
    · rw [if_pos ⟨rfl, q⟩, if_pos q]
    · rw [if_neg (fun a => q a.2), if_neg q]
  rw [e] at g2
  rw [e]
  have ft := (f0.trans f1).trans f2
  exact hK m2 ft (l.fv ft) g2
end
theorem z_fit_b {tx : Nat → Nat → List Nat} {s : ZS} (mt : Nat) (h6 : s.1 0 ≤ 6) : z_fit tx s mt < 2 ^ 31 := z_W_b h6 h6
section
variable {T : List Nat} {L d : Nat} {xs : Nat → Int32} {s : ZS} {tx : Nat → Nat → List Nat} {n : Nat} {tp : Nat → Nat} {z : Nat} {h : ZH} {wd : Nat → Int32} {m m1 m2 : q_M} {K : Option Value → Option Value → q_G → q_M → Prop}
theorem p_fits (l : LJ T L xs s tx n tp z h wd m) (a b : Int32) (hK : ∀ r m', LJ T L xs s tx n tp z h wd m' → K (some (.int r)) (some (.int r)) (GG T L) m') :
    q_C 75 (d + 7) [.ref 0, .int a, .int b] (GG T L) m (fun v g m => q_C 165 (d + 7) [.ref 38, .int a, .int b] g m (fun v' g m => K v v' g m)) := by
  have h6 := l.bz.1
  by_cases ha : z_is a 16
  · obtain ⟨mt, hm, rfl⟩ := z_is_n ha
    have a0 := n_lt0 (j := mt) (by omega)
    have a1 := n_le (i := mt) (j := 15) (by omega) (by decide)
    have a2 : mt ≤ 15 := by omega
    by_cases hb : z_is b 2
    · obtain ⟨w, hw, rfl⟩ := z_is_n hb
      have w0 := n_lt0 (j := w) (by omega)
      have w1 := n_le (i := w) (j := 1) (by omega) (by decide)
      have w2 : w ≤ 1 := by omega
      have ref : ∀ m2 V, LJ T L xs s tx n tp z h wd m2 → V = nI (if w = 0 then z_fit tx s mt else z_ff tx s mt) → q_C 165 (d + 7) [.ref 38, .int (nI mt), .int (nI w)] (GG T L) m2 (fun v' g m => K (some (.int V)) v' g m) := by
        intro m2 V lj hV
        simp only [u165_0, u165_1, u165_2, u165_4, u165_7, u165_10, u165_11, u165_12, u165_13, u165_16, u165_19, u165_21, u165_22, u165_23, u165_24, e165, q_push_s, q_push_n, q_sm_0, q_sm_i, q_sm_r, q_sm_n, q_sm_l, q_c1_0, q_c1_i, q_c1_r, q_c1_n, Nat.zero_add, Nat.reduceAdd, Nat.reduceMul, Nat.reduceSub, Nat.reduceLeDiff, Nat.reduceLT, Nat.reduceEqDiff, true_and, and_true, not_false_eq_true, if_true, if_false, ite_true, ite_false, or_true, true_or, or_false, false_or, not_true_eq_false, io38, c_in, and_self, a0, a1, a2, w0, w1, w2, z_b_z, Nat.zero_le, Nat.reduceLeDiff]
        refine lj.rj.fitMany (d := d) hm (fun m3 f3 l3 g3 => ?_)
        have hw' : w = 0 ∨ w = 1 := by omega
        rcases hw' with rfl | rfl
        · simp only [u165_27, u165_28, u165_29, u165_32, u165_33, u165_36, u165_37, u165_40, q_push_s, q_push_n, q_sm_0, q_sm_i, q_sm_r, q_sm_n, q_sm_l, q_c1_0, q_c1_i, q_c1_r, q_c1_n, Nat.zero_add, Nat.reduceAdd, Nat.reduceMul, Nat.reduceSub, Nat.reduceLeDiff, Nat.reduceLT, Nat.reduceEqDiff, true_and, and_true, not_false_eq_true, if_true, if_false, ite_true, ite_false, or_true, true_or, or_false, false_or, not_true_eq_false, eq_self, lq_0_1, lq_0_2, lq_0_3, lq_0_4, lq_0_5, lq_0_6, lq_1_0, lq_1_2, lq_1_3, lq_1_4, lq_1_5, lq_1_6, lq_2_0, lq_2_1, lq_2_3, lq_2_4, lq_2_5, lq_2_6, lq_3_0, lq_3_1, lq_3_2, lq_3_4, lq_3_5, lq_3_6, lq_4_0, lq_4_1, lq_4_2, lq_4_3, lq_4_5, lq_4_6, lq_5_0, lq_5_1, lq_5_2, lq_5_3, lq_5_4, lq_5_6, lq_6_0, lq_6_1, lq_6_2, lq_6_3, lq_6_4, lq_6_5, ll_0_0, ll_0_1, ll_0_2, ll_0_3, ll_0_4, ll_0_5, ll_0_6, ll_1_0, ll_1_1, ll_1_2, ll_1_3, ll_1_4, ll_1_5, ll_1_6, ll_2_0, ll_2_1, ll_2_2, ll_2_3, ll_2_4, ll_2_5, ll_2_6, ll_3_0, ll_3_1, ll_3_2, ll_3_3, ll_3_4, ll_3_5, ll_3_6, ll_4_0, ll_4_1, ll_4_2, ll_4_3, ll_4_4, ll_4_5, ll_4_6, ll_5_0, ll_5_1, ll_5_2, ll_5_3, ll_5_4, ll_5_5, ll_5_6, ll_6_0, ll_6_1, ll_6_2, ll_6_3, ll_6_4, ll_6_5, ll_6_6, le_0_0, le_0_1, le_0_2, le_0_3, le_0_4, le_0_5, le_0_6, le_1_0, le_1_1, le_1_2, le_1_3, le_1_4, le_1_5, le_1_6, le_2_0, le_2_1, le_2_2, le_2_3, le_2_4, le_2_5, le_2_6, le_3_0, le_3_1, le_3_2, le_3_3, le_3_4, le_3_5, le_3_6, le_4_0, le_4_1, le_4_2, le_4_3, le_4_4, le_4_5, le_4_6, le_5_0, le_5_1, le_5_2, le_5_3, le_5_4, le_5_5, le_5_6, le_6_0, le_6_1, le_6_2, le_6_3, le_6_4, le_6_5, le_6_6]
          rw [hV]
          exact hK _ _ (lj.fr f3.fr)
        · simp only [u165_27, u165_28, u165_29, u165_32, u165_33, u165_36, u165_37, u165_40, q_push_s, q_push_n, q_sm_0, q_sm_i, q_sm_r, q_sm_n, q_sm_l, q_c1_0, q_c1_i, q_c1_r, q_c1_n, Nat.zero_add, Nat.reduceAdd, Nat.reduceMul, Nat.reduceSub, Nat.reduceLeDiff, Nat.reduceLT, Nat.reduceEqDiff, true_and, and_true, not_false_eq_true, if_true, if_false, ite_true, ite_false, or_true, true_or, or_false, false_or, not_true_eq_false, eq_self, lq_0_1, lq_0_2, lq_0_3, lq_0_4, lq_0_5, lq_0_6, lq_1_0, lq_1_2, lq_1_3, lq_1_4, lq_1_5, lq_1_6, lq_2_0, lq_2_1, lq_2_3, lq_2_4, lq_2_5, lq_2_6, lq_3_0, lq_3_1, lq_3_2, lq_3_4, lq_3_5, lq_3_6, lq_4_0, lq_4_1, lq_4_2, lq_4_3, lq_4_5, lq_4_6, lq_5_0, lq_5_1, lq_5_2, lq_5_3, lq_5_4, lq_5_6, lq_6_0, lq_6_1, lq_6_2, lq_6_3, lq_6_4, lq_6_5, ll_0_0, ll_0_1, ll_0_2, ll_0_3, ll_0_4, ll_0_5, ll_0_6, ll_1_0, ll_1_1, ll_1_2, ll_1_3, ll_1_4, ll_1_5, ll_1_6, ll_2_0, ll_2_1, ll_2_2, ll_2_3, ll_2_4, ll_2_5, ll_2_6, ll_3_0, ll_3_1, ll_3_2, ll_3_3, ll_3_4, ll_3_5, ll_3_6, ll_4_0, ll_4_1, ll_4_2, ll_4_3, ll_4_4, ll_4_5, ll_4_6, ll_5_0, ll_5_1, ll_5_2, ll_5_3, ll_5_4, ll_5_5, ll_5_6, ll_6_0, ll_6_1, ll_6_2, ll_6_3, ll_6_4, ll_6_5, ll_6_6, le_0_0, le_0_1, le_0_2, le_0_3, le_0_4, le_0_5, le_0_6, le_1_0, le_1_1, le_1_2, le_1_3, le_1_4, le_1_5, le_1_6, le_2_0, le_2_1, le_2_2, le_2_3, le_2_4, le_2_5, le_2_6, le_3_0, le_3_1, le_3_2, le_3_3, le_3_4, le_3_5, le_3_6, le_4_0, le_4_1, le_4_2, le_4_3, le_4_4, le_4_5, le_4_6, le_5_0, le_5_1, le_5_2, le_5_3, le_5_4, le_5_5, le_5_6, le_6_0, le_6_1, le_6_2, le_6_3, le_6_4, le_6_5, le_6_6, gf38_36, g3]
          rw [hV]
          exact hK _ _ (lj.fr f3.fr)
      simp only [u75_0, u75_1, u75_4, u75_7, u75_8, u75_11, u75_12, u75_13, u75_16, u75_18, u75_19, u75_20, u75_23, e75, q_push_s, q_push_n, q_sm_0, q_sm_i, q_sm_r, q_sm_n, q_sm_l, q_c1_0, q_c1_i, q_c1_r, q_c1_n, Nat.zero_add, Nat.reduceAdd, Nat.reduceMul, Nat.reduceSub, Nat.reduceLeDiff, Nat.reduceLT, Nat.reduceEqDiff, true_and, and_true, not_false_eq_true, if_true, if_false, ite_true, ite_false, or_true, true_or, or_false, false_or, not_true_eq_false, gf0_0, io1, c_areMatters, ha, z_b_z, w0, w1, w2, Nat.zero_le, Nat.reduceLeDiff]
      refine l.cj.compareAll (d := d) (fun m1 f1 l1 k1 => ?_)
      simp only [u75_26, u75_27, u75_30, u75_31, q_push_s, q_push_n, q_sm_0, q_sm_i, q_sm_r, q_sm_n, q_sm_l, q_c1_0, q_c1_i, q_c1_r, q_c1_n, Nat.zero_add, Nat.reduceAdd, Nat.reduceMul, Nat.reduceSub, Nat.reduceLeDiff, Nat.reduceLT, Nat.reduceEqDiff, true_and, and_true, not_false_eq_true, if_true, if_false, ite_true, ite_false, or_true, true_or, or_false, false_or, not_true_eq_false, gf0_0, io1, Nat.zero_le, Nat.reduceLeDiff]
      refine l1.fitting (d := d + 4) hm k1 (fun m2 f2 g17 g16 => ?_)
      have fu2 : FU m1 m2 := fun k hk => f2 k (by omega) (by omega)
      have l2 := l1.fu fu2
      have hw' : w = 0 ∨ w = 1 := by omega
      rcases hw' with rfl | rfl
      · simp only [u75_34, u75_35, u75_36, u75_39, u75_40, u75_43, u75_44, u75_47, u75_50, q_push_s, q_push_n, q_sm_0, q_sm_i, q_sm_r, q_sm_n, q_sm_l, q_c1_0, q_c1_i, q_c1_r, q_c1_n, Nat.zero_add, Nat.reduceAdd, Nat.reduceMul, Nat.reduceSub, Nat.reduceLeDiff, Nat.reduceLT, Nat.reduceEqDiff, true_and, and_true, not_false_eq_true, if_true, if_false, ite_true, ite_false, or_true, true_or, or_false, false_or, not_true_eq_false, eq_self, lq_0_1, lq_0_2, lq_0_3, lq_0_4, lq_0_5, lq_0_6, lq_1_0, lq_1_2, lq_1_3, lq_1_4, lq_1_5, lq_1_6, lq_2_0, lq_2_1, lq_2_3, lq_2_4, lq_2_5, lq_2_6, lq_3_0, lq_3_1, lq_3_2, lq_3_4, lq_3_5, lq_3_6, lq_4_0, lq_4_1, lq_4_2, lq_4_3, lq_4_5, lq_4_6, lq_5_0, lq_5_1, lq_5_2, lq_5_3, lq_5_4, lq_5_6, lq_6_0, lq_6_1, lq_6_2, lq_6_3, lq_6_4, lq_6_5, ll_0_0, ll_0_1, ll_0_2, ll_0_3, ll_0_4, ll_0_5, ll_0_6, ll_1_0, ll_1_1, ll_1_2, ll_1_3, ll_1_4, ll_1_5, ll_1_6, ll_2_0, ll_2_1, ll_2_2, ll_2_3, ll_2_4, ll_2_5, ll_2_6, ll_3_0, ll_3_1, ll_3_2, ll_3_3, ll_3_4, ll_3_5, ll_3_6, ll_4_0, ll_4_1, ll_4_2, ll_4_3, ll_4_4, ll_4_5, ll_4_6, ll_5_0, ll_5_1, ll_5_2, ll_5_3, ll_5_4, ll_5_5, ll_5_6, ll_6_0, ll_6_1, ll_6_2, ll_6_3, ll_6_4, ll_6_5, ll_6_6, le_0_0, le_0_1, le_0_2, le_0_3, le_0_4, le_0_5, le_0_6, le_1_0, le_1_1, le_1_2, le_1_3, le_1_4, le_1_5, le_1_6, le_2_0, le_2_1, le_2_2, le_2_3, le_2_4, le_2_5, le_2_6, le_3_0, le_3_1, le_3_2, le_3_3, le_3_4, le_3_5, le_3_6, le_4_0, le_4_1, le_4_2, le_4_3, le_4_4, le_4_5, le_4_6, le_5_0, le_5_1, le_5_2, le_5_3, le_5_4, le_5_5, le_5_6, le_6_0, le_6_1, le_6_2, le_6_3, le_6_4, le_6_5, le_6_6]
        exact ref m2 _ (l.fr (f1.fu.trans fu2).fr) rfl
      · simp only [u75_34, u75_35, u75_36, u75_39, u75_40, u75_43, u75_44, u75_47, q_push_s, q_push_n, q_sm_0, q_sm_i, q_sm_r, q_sm_n, q_sm_l, q_c1_0, q_c1_i, q_c1_r, q_c1_n, Nat.zero_add, Nat.reduceAdd, Nat.reduceMul, Nat.reduceSub, Nat.reduceLeDiff, Nat.reduceLT, Nat.reduceEqDiff, true_and, and_true, not_false_eq_true, if_true, if_false, ite_true, ite_false, or_true, true_or, or_false, false_or, not_true_eq_false, eq_self, lq_0_1, lq_0_2, lq_0_3, lq_0_4, lq_0_5, lq_0_6, lq_1_0, lq_1_2, lq_1_3, lq_1_4, lq_1_5, lq_1_6, lq_2_0, lq_2_1, lq_2_3, lq_2_4, lq_2_5, lq_2_6, lq_3_0, lq_3_1, lq_3_2, lq_3_4, lq_3_5, lq_3_6, lq_4_0, lq_4_1, lq_4_2, lq_4_3, lq_4_5, lq_4_6, lq_5_0, lq_5_1, lq_5_2, lq_5_3, lq_5_4, lq_5_6, lq_6_0, lq_6_1, lq_6_2, lq_6_3, lq_6_4, lq_6_5, ll_0_0, ll_0_1, ll_0_2, ll_0_3, ll_0_4, ll_0_5, ll_0_6, ll_1_0, ll_1_1, ll_1_2, ll_1_3, ll_1_4, ll_1_5, ll_1_6, ll_2_0, ll_2_1, ll_2_2, ll_2_3, ll_2_4, ll_2_5, ll_2_6, ll_3_0, ll_3_1, ll_3_2, ll_3_3, ll_3_4, ll_3_5, ll_3_6, ll_4_0, ll_4_1, ll_4_2, ll_4_3, ll_4_4, ll_4_5, ll_4_6, ll_5_0, ll_5_1, ll_5_2, ll_5_3, ll_5_4, ll_5_5, ll_5_6, ll_6_0, ll_6_1, ll_6_2, ll_6_3, ll_6_4, ll_6_5, ll_6_6, le_0_0, le_0_1, le_0_2, le_0_3, le_0_4, le_0_5, le_0_6, le_1_0, le_1_1, le_1_2, le_1_3, le_1_4, le_1_5, le_1_6, le_2_0, le_2_1, le_2_2, le_2_3, le_2_4, le_2_5, le_2_6, le_3_0, le_3_1, le_3_2, le_3_3, le_3_4, le_3_5, le_3_6, le_4_0, le_4_1, le_4_2, le_4_3, le_4_4, le_4_5, le_4_6, le_5_0, le_5_1, le_5_2, le_5_3, le_5_4, le_5_5, le_5_6, le_6_0, le_6_1, le_6_2, le_6_3, le_6_4, le_6_5, le_6_6, gf0_0, io1, Nat.zero_le, Nat.reduceLeDiff]
        refine c_ff (d := d + 4) l2 g17 g16 (fun m3 f3 => ?_)
        have fu3 : FU m2 m3 := fun k hk => f3 k (by omega)
        simp only [u75_50, q_push_s, q_push_n, q_sm_0, q_sm_i, q_sm_r, q_sm_n, q_sm_l, q_c1_0, q_c1_i, q_c1_r, q_c1_n, Nat.zero_add, Nat.reduceAdd, Nat.reduceMul, Nat.reduceSub, Nat.reduceLeDiff, Nat.reduceLT, Nat.reduceEqDiff, true_and, and_true, not_false_eq_true, if_true, if_false, ite_true, ite_false, or_true, true_or, or_false, false_or, not_true_eq_false]
        exact ref m3 _ (l.fr ((f1.fu.trans fu2).trans fu3).fr) rfl
    · rcases z_is_f (n := 1) (by decide) hb with q | ⟨q1, q2⟩
      · simp only [u75_0, u75_1, u75_4, u75_7, u75_8, u75_11, u75_12, u75_13, u75_16, u75_18, e75, u165_0, u165_1, u165_2, u165_4, u165_7, u165_10, u165_11, u165_12, u165_13, u165_16, u165_19, u165_21, e165, q_push_s, q_push_n, q_sm_0, q_sm_i, q_sm_r, q_sm_n, q_sm_l, q_c1_0, q_c1_i, q_c1_r, q_c1_n, Nat.zero_add, Nat.reduceAdd, Nat.reduceMul, Nat.reduceSub, Nat.reduceLeDiff, Nat.reduceLT, Nat.reduceEqDiff, true_and, and_true, not_false_eq_true, if_true, if_false, ite_true, ite_false, or_true, true_or, or_false, false_or, not_true_eq_false, c_areMatters, ha, z_b_z, c_in, and_self, a0, a1, a2, q, false_and, Nat.zero_le, Nat.reduceLeDiff]
        exact hK _ _ l
      · simp only [u75_0, u75_1, u75_4, u75_7, u75_8, u75_11, u75_12, u75_13, u75_16, u75_18, e75, u165_0, u165_1, u165_2, u165_4, u165_7, u165_10, u165_11, u165_12, u165_13, u165_16, u165_19, u165_21, e165, q_push_s, q_push_n, q_sm_0, q_sm_i, q_sm_r, q_sm_n, q_sm_l, q_c1_0, q_c1_i, q_c1_r, q_c1_n, Nat.zero_add, Nat.reduceAdd, Nat.reduceMul, Nat.reduceSub, Nat.reduceLeDiff, Nat.reduceLT, Nat.reduceEqDiff, true_and, and_true, not_false_eq_true, if_true, if_false, ite_true, ite_false, or_true, true_or, or_false, false_or, not_true_eq_false, c_areMatters, ha, z_b_z, c_in, and_self, a0, a1, a2, q1, q2, and_false, Nat.zero_le, Nat.reduceLeDiff]
        exact hK _ _ l
  · rcases z_is_f (n := 15) (by decide) ha with q | ⟨q1, q2⟩
    · simp only [u75_0, u75_1, u75_4, u75_7, u75_8, u75_11, u75_12, u75_13, u75_16, u75_18, e75, u165_0, u165_1, u165_2, u165_4, u165_7, u165_10, u165_11, u165_12, u165_13, u165_16, u165_19, u165_21, e165, q_push_s, q_push_n, q_sm_0, q_sm_i, q_sm_r, q_sm_n, q_sm_l, q_c1_0, q_c1_i, q_c1_r, q_c1_n, Nat.zero_add, Nat.reduceAdd, Nat.reduceMul, Nat.reduceSub, Nat.reduceLeDiff, Nat.reduceLT, Nat.reduceEqDiff, true_and, and_true, not_false_eq_true, if_true, if_false, ite_true, ite_false, or_true, true_or, or_false, false_or, not_true_eq_false, c_areMatters, ha, z_b_z, c_in, q, false_and, Nat.zero_le, Nat.reduceLeDiff]
      exact hK _ _ l
    · simp only [u75_0, u75_1, u75_4, u75_7, u75_8, u75_11, u75_12, u75_13, u75_16, u75_18, e75, u165_0, u165_1, u165_2, u165_4, u165_7, u165_10, u165_11, u165_12, u165_13, u165_16, u165_19, u165_21, e165, q_push_s, q_push_n, q_sm_0, q_sm_i, q_sm_r, q_sm_n, q_sm_l, q_c1_0, q_c1_i, q_c1_r, q_c1_n, Nat.zero_add, Nat.reduceAdd, Nat.reduceMul, Nat.reduceSub, Nat.reduceLeDiff, Nat.reduceLT, Nat.reduceEqDiff, true_and, and_true, not_false_eq_true, if_true, if_false, ite_true, ite_false, or_true, true_or, or_false, false_or, not_true_eq_false, c_areMatters, ha, z_b_z, c_in, q1, q2, and_false, Nat.zero_le, Nat.reduceLeDiff]
      exact hK _ _ l
end
