/-! ===== best, the reference's ===== -/
section
variable {T : List Nat} {L : Nat} {s : ZS} {tx : Nat → Nat → List Nat} {n : Nat} {h : ZH} {m : q_M} {K : Option Value → q_G → q_M → Prop}
def FW (m m' : q_M) : Prop := (∀ k, k ≠ 38 → ¬ (52 ≤ k ∧ k < 58) → k ≠ 41 → m' k = m k) ∧ ∀ f, f < 21 → m' 38 f = m 38 f
theorem FW.refl (m : q_M) : FW m m := ⟨fun _ _ _ _ => rfl, fun _ _ => rfl⟩
theorem FW.trans {a b c : q_M} (h : FW a b) (h' : FW b c) : FW a c := ⟨fun k h1 h2 h3 => (h'.1 k h1 h2 h3).trans (h.1 k h1 h2 h3), fun f hf => (h'.2 f hf).trans (h.2 f hf)⟩
theorem FV.fw {a b : q_M} (h : FV a b) : FW a b := ⟨fun k h1 h2 _ => h.1 k h1 h2, h.2⟩
theorem FP.fw {a b : q_M} (h : FP a b) : FW a b := ⟨fun k h1 h2 h3 => h.1 k h1 (by omega) h3 (by omega), h.2⟩
def z_bF (w : Nat → Nat → Int) (N x : Nat) (a : Bool × Nat × Int) : Bool × Nat × Int := if z_ok (z_e N) N N x then z_bA w N (z_dd N N x) a else a
theorem l_bst8 {goal : Nat} (hgoal : goal < 3) (x2 : Option Value) (d : Nat) : ∀ cc x (a : Bool × Nat × Int) m x7 x8, q_c1 x7 = true → q_c1 x8 = true → x + cc = s.1 0 ^ s.1 0 → -600 ≤ a.2.2 → a.2.2 ≤ 600 → RJ s tx n h m → (∀ m' x7 x8, FW m m' → RJ s tx n h m' → q_R 170 150 (d + 8) [some (.ref 38), some (.int (nI goal)), x2, some (.int (nI (if (z_fo (z_bF (z_wt tx s goal) (s.1 0)) cc x a).1 then 1 else 0))), some (.int (nI (z_fo (z_bF (z_wt tx s goal) (s.1 0)) cc x a).2.1)), some (.int (jI (z_fo (z_bF (z_wt tx s goal) (s.1 0)) cc x a).2.2)), some (.int (nI (s.1 0 ^ s.1 0))), x7, x8] [] (GG T L) m' K) → q_c1 x2 = true →
    q_R 170 32 (d + 8) [some (.ref 38), some (.int (nI goal)), x2, some (.int (nI (if a.1 then 1 else 0))), some (.int (nI a.2.1)), some (.int (jI a.2.2)), some (.int (nI x)), x7, x8] [] (GG T L) m K
  | 0, x, a, m, x7, x8, h7, h8, hx, ha1, ha2, l, hK, h2 => by
    have h6 := l.bz.1
    have e : x = s.1 0 ^ s.1 0 := by omega
    have hn := z_nn (s.1 0) (by omega)
    have e2 : ¬ s.1 0 ^ s.1 0 < s.1 0 ^ s.1 0 := Nat.lt_irrefl _
    simp only [u170_32, u170_34, u170_35, u170_38, q_push_s, q_push_n, q_sm_0, q_sm_i, q_sm_r, q_sm_n, q_sm_l, q_c1_0, q_c1_i, q_c1_r, q_c1_n, Nat.zero_add, Nat.reduceAdd, Nat.reduceMul, Nat.reduceSub, Nat.reduceLeDiff, Nat.reduceLT, Nat.reduceEqDiff, true_and, and_true, not_false_eq_true, if_true, if_false, ite_true, ite_false, or_true, true_or, or_false, false_or, not_true_eq_false, io38, c_num h6 l.mo.n, e, n_lt (i := s.1 0 ^ s.1 0) (j := s.1 0 ^ s.1 0) (by omega) (by omega), e2, Nat.zero_le, Nat.reduceLeDiff]
    exact hK m x7 x8 (FW.refl m) l
  | cc + 1, x, a, m, x7, x8, h7, h8, hx, ha1, ha2, l, hK, h2 => by
    have h6 := l.bz.1
    have e : x < s.1 0 ^ s.1 0 := by omega
    have hn := z_nn (s.1 0) (by omega)
    rw [show z_fo (z_bF (z_wt tx s goal) (s.1 0)) (cc + 1) x a = z_fo (z_bF (z_wt tx s goal) (s.1 0)) cc (x + 1) (z_bF (z_wt tx s goal) (s.1 0) x a) from rfl] at hK
    have hiff := z_ok_iff (z_e (s.1 0)) (s.1 0) (s.1 0) x
    rw [u170_32]
    simp only [u170_34, u170_35, u170_38, u170_41, u170_42, u170_44, q_push_s, q_push_n, q_sm_0, q_sm_i, q_sm_r, q_sm_n, q_sm_l, q_c1_0, q_c1_i, q_c1_r, q_c1_n, Nat.zero_add, Nat.reduceAdd, Nat.reduceMul, Nat.reduceSub, Nat.reduceLeDiff, Nat.reduceLT, Nat.reduceEqDiff, true_and, and_true, not_false_eq_true, if_true, if_false, ite_true, ite_false, or_true, true_or, or_false, false_or, not_true_eq_false, io38, c_num h6 l.mo.n, n_lt (i := x) (j := s.1 0 ^ s.1 0) (by omega) (by omega), e, Nat.zero_le, Nat.reduceLeDiff]
    refine c_tells (d := d + 6) h6 (by omega) l.mo.n (fun m1 f1 g1 => ?_)
    have fv1 : FV m m1 := FV.of56 f1
    have l1 := l.fv fv1
    have ezf : (z_b (false = true) = nI 0) = True := by rw [z_b_0 (by decide)]; exact eq_self _
    by_cases q : z_ok z_tt (s.1 0) (s.1 0) x = true
    · have hdl : ∀ i, i < s.1 0 → z_dd (s.1 0) (s.1 0) x i < s.1 0 := fun i hi => z_dd_lt (by omega) (s.1 0) x i
      have ez : (z_b True = nI 0) = False := by rw [z_b_t]; exact lq_1_0
      by_cases q2 : z_al (s.1 0) (z_dd (s.1 0) (s.1 0) x)
      · have hok : z_ok (z_e (s.1 0)) (s.1 0) (s.1 0) x = true := hiff.mpr ⟨q, fun i hi => q2 i hi⟩
        have ef : z_bF (z_wt tx s goal) (s.1 0) x a = z_bA (z_wt tx s goal) (s.1 0) (z_dd (s.1 0) (s.1 0) x) a := if_pos hok
        rw [ef] at hK
        have eall := z_b_1 q2
        simp only [u170_47, u170_50, u170_51, u170_54, u170_57, u170_58, q_push_s, q_push_n, q_sm_0, q_sm_i, q_sm_r, q_sm_n, q_sm_l, q_c1_0, q_c1_i, q_c1_r, q_c1_n, Nat.zero_add, Nat.reduceAdd, Nat.reduceMul, Nat.reduceSub, Nat.reduceLeDiff, Nat.reduceLT, Nat.reduceEqDiff, true_and, and_true, not_false_eq_true, if_true, if_false, ite_true, ite_false, or_true, true_or, or_false, false_or, not_true_eq_false, q, ez, io38, c_allow h6 l1.mo.n g1 hdl, eall, lq_1_0, Nat.zero_le, Nat.reduceLeDiff]
        refine l1.plays (d := d) g1 hdl (fun m2 f2 l2 k1 k2 => ?_)
        have g2 : ∀ i, i < s.1 0 → m2 56 i = nI (z_dd (s.1 0) (s.1 0) x i) := fun i hi => by rw [f2.1 56 (by decide) (by decide) (by decide) (by decide)]; exact g1 i hi
        obtain ⟨b1, b2, b3, b4⟩ := z_tl_b tx s (z_dd (s.1 0) (s.1 0) x) (s.1 0) h6
        have b64 : (z_tl tx s (z_dd (s.1 0) (s.1 0) x) (s.1 0)).2.1 < 64 := Nat.lt_of_lt_of_le b2 (Nat.pow_le_pow_right (by decide) (show s.1 0 ≤ 6 from h6))
        have hvl := z_vl_s tx s goal (z_dd (s.1 0) (s.1 0) x) (s.1 0)
        have ft := fv1.fw.trans f2.fw
        unfold z_bA at hK
        have hvb : -600 ≤ z_sm' (z_wt tx s goal) (z_dd (s.1 0) (s.1 0) x) (s.1 0) ∧ z_sm' (z_wt tx s goal) (z_dd (s.1 0) (s.1 0) x) (s.1 0) ≤ 600 := by
          rw [hvl]
          unfold z_vl
          split
          · omega
          · split <;> omega
        have fin : ∀ V, V = jI (z_sm' (z_wt tx s goal) (z_dd (s.1 0) (s.1 0) x) (s.1 0)) → q_R 170 92 (d + 8) [some (.ref 38), some (.int (nI goal)), x2, some (.int (nI (if a.1 then 1 else 0))), some (.int (nI a.2.1)), some (.int (jI a.2.2)), some (.int (nI x)), x7, x8] [.int V] (GG T L) m2 K := by
          intro V hV
          subst hV
          generalize z_sm' (z_wt tx s goal) (z_dd (s.1 0) (s.1 0) x) (s.1 0) = v at hK hvb ⊢
          obtain ⟨hs, dg, le⟩ := a
          have ha1' : -600 ≤ le := ha1
          have ha2' : le ≤ 600 := ha2
          have elt := jI_lt (a := v) (b := le) (by omega) (by omega) (by omega) (by omega)
          have less : ∀ (hz : hs = false ∨ v < le), q_R 170 105 (d + 8) [some (.ref 38), some (.int (nI goal)), x2, some (.int (nI (if hs then 1 else 0))), some (.int (nI dg)), some (.int (jI le)), some (.int (nI x)), some (.int (jI v)), x8] [] (GG T L) m2 K := by
            intro hz
            have e1 : z_bt' v (z_dg (z_dd (s.1 0) (s.1 0) x) (s.1 0)) (hs, dg, le) = (true, z_dg (z_dd (s.1 0) (s.1 0) x) (s.1 0), v) := if_pos hz
            rw [e1] at hK
            simp only [u170_105, u170_106, u170_110, u170_112, u170_114, u170_117, u170_118, u170_121, u170_124, u170_126, u170_128, u170_130, u170_133, u170_135, u170_138, u170_140, u170_142, u170_143, u170_144, u170_147, q_push_s, q_push_n, q_sm_0, q_sm_i, q_sm_r, q_sm_n, q_sm_l, q_c1_0, q_c1_i, q_c1_r, q_c1_n, Nat.zero_add, Nat.reduceAdd, Nat.reduceMul, Nat.reduceSub, Nat.reduceLeDiff, Nat.reduceLT, Nat.reduceEqDiff, true_and, and_true, not_false_eq_true, if_true, if_false, ite_true, ite_false, or_true, true_or, or_false, false_or, not_true_eq_false, eq_self, lq_0_1, lq_0_2, lq_0_3, lq_0_4, lq_0_5, lq_0_6, lq_1_0, lq_1_2, lq_1_3, lq_1_4, lq_1_5, lq_1_6, lq_2_0, lq_2_1, lq_2_3, lq_2_4, lq_2_5, lq_2_6, lq_3_0, lq_3_1, lq_3_2, lq_3_4, lq_3_5, lq_3_6, lq_4_0, lq_4_1, lq_4_2, lq_4_3, lq_4_5, lq_4_6, lq_5_0, lq_5_1, lq_5_2, lq_5_3, lq_5_4, lq_5_6, lq_6_0, lq_6_1, lq_6_2, lq_6_3, lq_6_4, lq_6_5, ll_0_0, ll_0_1, ll_0_2, ll_0_3, ll_0_4, ll_0_5, ll_0_6, ll_1_0, ll_1_1, ll_1_2, ll_1_3, ll_1_4, ll_1_5, ll_1_6, ll_2_0, ll_2_1, ll_2_2, ll_2_3, ll_2_4, ll_2_5, ll_2_6, ll_3_0, ll_3_1, ll_3_2, ll_3_3, ll_3_4, ll_3_5, ll_3_6, ll_4_0, ll_4_1, ll_4_2, ll_4_3, ll_4_4, ll_4_5, ll_4_6, ll_5_0, ll_5_1, ll_5_2, ll_5_3, ll_5_4, ll_5_5, ll_5_6, ll_6_0, ll_6_1, ll_6_2, ll_6_3, ll_6_4, ll_6_5, ll_6_6, le_0_0, le_0_1, le_0_2, le_0_3, le_0_4, le_0_5, le_0_6, le_1_0, le_1_1, le_1_2, le_1_3, le_1_4, le_1_5, le_1_6, le_2_0, le_2_1, le_2_2, le_2_3, le_2_4, le_2_5, le_2_6, le_3_0, le_3_1, le_3_2, le_3_3, le_3_4, le_3_5, le_3_6, le_4_0, le_4_1, le_4_2, le_4_3, le_4_4, le_4_5, le_4_6, le_5_0, le_5_1, le_5_2, le_5_3, le_5_4, le_5_5, le_5_6, le_6_0, le_6_1, le_6_2, le_6_3, le_6_4, le_6_5, le_6_6, io38, c_digits8 h6 l2.mo.n g2, n_add, h2, Nat.zero_le, Nat.reduceLeDiff]
            exact l_bst8 hgoal x2 d cc (x + 1) (true, z_dg (z_dd (s.1 0) (s.1 0) x) (s.1 0), v) m2 _ _ (of_eq_true (q_c1_i _)) (of_eq_true (q_c1_i _)) (by omega) hvb.1 hvb.2 l2 (fun m' x7 x8 f' l' => hK m' x7 x8 (ft.trans f') l') h2
          cases hs with
          | false =>
            have hl := less (Or.inl rfl)
            have e0 : (if (false = true) then 1 else 0) = 0 := rfl
            simp only [u170_92, u170_94, u170_95, q_push_s, q_push_n, q_sm_0, q_sm_i, q_sm_r, q_sm_n, q_sm_l, q_c1_0, q_c1_i, q_c1_r, q_c1_n, Nat.zero_add, Nat.reduceAdd, Nat.reduceMul, Nat.reduceSub, Nat.reduceLeDiff, Nat.reduceLT, Nat.reduceEqDiff, true_and, and_true, not_false_eq_true, if_true, if_false, ite_true, ite_false, or_true, true_or, or_false, false_or, not_true_eq_false, e0, Bool.false_eq_true, eq_self]
            simp only [Bool.false_eq_true, if_false] at hl
            exact hl
          | true =>
            by_cases q3 : v < le
            · have hl := less (Or.inr q3)
              simp only [if_true] at hl
              simp only [u170_92, u170_94, u170_95, u170_98, u170_100, u170_102, q_push_s, q_push_n, q_sm_0, q_sm_i, q_sm_r, q_sm_n, q_sm_l, q_c1_0, q_c1_i, q_c1_r, q_c1_n, Nat.zero_add, Nat.reduceAdd, Nat.reduceMul, Nat.reduceSub, Nat.reduceLeDiff, Nat.reduceLT, Nat.reduceEqDiff, true_and, and_true, not_false_eq_true, if_true, if_false, ite_true, ite_false, or_true, true_or, or_false, false_or, not_true_eq_false, lq_1_0, elt, q3]
              exact hl
            · have e1 : z_bt' v (z_dg (z_dd (s.1 0) (s.1 0) x) (s.1 0)) (true, dg, le) = (true, dg, le) := if_neg (show ¬ (true = false ∨ v < le) from fun e => e.elim (fun e => by cases e) q3)
              rw [e1] at hK
              simp only [u170_92, u170_94, u170_95, u170_98, u170_100, u170_102, u170_109, u170_110, u170_112, u170_114, u170_117, u170_118, u170_121, u170_124, u170_126, u170_128, u170_130, u170_133, u170_135, u170_138, u170_140, u170_142, u170_143, u170_144, u170_147, q_push_s, q_push_n, q_sm_0, q_sm_i, q_sm_r, q_sm_n, q_sm_l, q_c1_0, q_c1_i, q_c1_r, q_c1_n, Nat.zero_add, Nat.reduceAdd, Nat.reduceMul, Nat.reduceSub, Nat.reduceLeDiff, Nat.reduceLT, Nat.reduceEqDiff, true_and, and_true, not_false_eq_true, if_true, if_false, ite_true, ite_false, or_true, true_or, or_false, false_or, not_true_eq_false, eq_self, lq_0_1, lq_0_2, lq_0_3, lq_0_4, lq_0_5, lq_0_6, lq_1_0, lq_1_2, lq_1_3, lq_1_4, lq_1_5, lq_1_6, lq_2_0, lq_2_1, lq_2_3, lq_2_4, lq_2_5, lq_2_6, lq_3_0, lq_3_1, lq_3_2, lq_3_4, lq_3_5, lq_3_6, lq_4_0, lq_4_1, lq_4_2, lq_4_3, lq_4_5, lq_4_6, lq_5_0, lq_5_1, lq_5_2, lq_5_3, lq_5_4, lq_5_6, lq_6_0, lq_6_1, lq_6_2, lq_6_3, lq_6_4, lq_6_5, ll_0_0, ll_0_1, ll_0_2, ll_0_3, ll_0_4, ll_0_5, ll_0_6, ll_1_0, ll_1_1, ll_1_2, ll_1_3, ll_1_4, ll_1_5, ll_1_6, ll_2_0, ll_2_1, ll_2_2, ll_2_3, ll_2_4, ll_2_5, ll_2_6, ll_3_0, ll_3_1, ll_3_2, ll_3_3, ll_3_4, ll_3_5, ll_3_6, ll_4_0, ll_4_1, ll_4_2, ll_4_3, ll_4_4, ll_4_5, ll_4_6, ll_5_0, ll_5_1, ll_5_2, ll_5_3, ll_5_4, ll_5_5, ll_5_6, ll_6_0, ll_6_1, ll_6_2, ll_6_3, ll_6_4, ll_6_5, ll_6_6, le_0_0, le_0_1, le_0_2, le_0_3, le_0_4, le_0_5, le_0_6, le_1_0, le_1_1, le_1_2, le_1_3, le_1_4, le_1_5, le_1_6, le_2_0, le_2_1, le_2_2, le_2_3, le_2_4, le_2_5, le_2_6, le_3_0, le_3_1, le_3_2, le_3_3, le_3_4, le_3_5, le_3_6, le_4_0, le_4_1, le_4_2, le_4_3, le_4_4, le_4_5, le_4_6, le_5_0, le_5_1, le_5_2, le_5_3, le_5_4, le_5_5, le_5_6, le_6_0, le_6_1, le_6_2, le_6_3, le_6_4, le_6_5, le_6_6, elt, q3, n_add, h2]
              exact l_bst8 hgoal x2 d cc (x + 1) (true, dg, le) m2 _ _ (of_eq_true (q_c1_i _)) (of_eq_true (q_c1_i _)) (by omega) ha1 ha2 l2 (fun m' x7 x8 f' l' => hK m' x7 x8 (ft.trans f') l') h2
        have hg3 : goal = 0 ∨ goal = 1 ∨ goal = 2 := by omega
        unfold z_vl at hvl
        rcases hg3 with rfl | rfl | rfl
        · rw [if_pos rfl] at hvl
          simp only [u170_61, u170_62, u170_65, u170_66, u170_69, u170_72, u170_75, u170_76, u170_77, u170_80, u170_81, u170_84, u170_87, u170_88, u170_91, q_push_s, q_push_n, q_sm_0, q_sm_i, q_sm_r, q_sm_n, q_sm_l, q_c1_0, q_c1_i, q_c1_r, q_c1_n, Nat.zero_add, Nat.reduceAdd, Nat.reduceMul, Nat.reduceSub, Nat.reduceLeDiff, Nat.reduceLT, Nat.reduceEqDiff, true_and, and_true, not_false_eq_true, if_true, if_false, ite_true, ite_false, or_true, true_or, or_false, false_or, not_true_eq_false, eq_self, lq_0_1, lq_0_2, lq_0_3, lq_0_4, lq_0_5, lq_0_6, lq_1_0, lq_1_2, lq_1_3, lq_1_4, lq_1_5, lq_1_6, lq_2_0, lq_2_1, lq_2_3, lq_2_4, lq_2_5, lq_2_6, lq_3_0, lq_3_1, lq_3_2, lq_3_4, lq_3_5, lq_3_6, lq_4_0, lq_4_1, lq_4_2, lq_4_3, lq_4_5, lq_4_6, lq_5_0, lq_5_1, lq_5_2, lq_5_3, lq_5_4, lq_5_6, lq_6_0, lq_6_1, lq_6_2, lq_6_3, lq_6_4, lq_6_5, ll_0_0, ll_0_1, ll_0_2, ll_0_3, ll_0_4, ll_0_5, ll_0_6, ll_1_0, ll_1_1, ll_1_2, ll_1_3, ll_1_4, ll_1_5, ll_1_6, ll_2_0, ll_2_1, ll_2_2, ll_2_3, ll_2_4, ll_2_5, ll_2_6, ll_3_0, ll_3_1, ll_3_2, ll_3_3, ll_3_4, ll_3_5, ll_3_6, ll_4_0, ll_4_1, ll_4_2, ll_4_3, ll_4_4, ll_4_5, ll_4_6, ll_5_0, ll_5_1, ll_5_2, ll_5_3, ll_5_4, ll_5_5, ll_5_6, ll_6_0, ll_6_1, ll_6_2, ll_6_3, ll_6_4, ll_6_5, ll_6_6, le_0_0, le_0_1, le_0_2, le_0_3, le_0_4, le_0_5, le_0_6, le_1_0, le_1_1, le_1_2, le_1_3, le_1_4, le_1_5, le_1_6, le_2_0, le_2_1, le_2_2, le_2_3, le_2_4, le_2_5, le_2_6, le_3_0, le_3_1, le_3_2, le_3_3, le_3_4, le_3_5, le_3_6, le_4_0, le_4_1, le_4_2, le_4_3, le_4_4, le_4_5, le_4_6, le_5_0, le_5_1, le_5_2, le_5_3, le_5_4, le_5_5, le_5_6, le_6_0, le_6_1, le_6_2, le_6_3, le_6_4, le_6_5, le_6_6, gf38_32, k1, c_ones b64, b4, Nat.zero_le, Nat.reduceLeDiff]
          exact fin _ (by rw [hvl]; exact jI_n _)
        · rw [if_neg (by decide), if_pos rfl] at hvl
          simp only [u170_61, u170_62, u170_65, u170_66, u170_69, u170_72, u170_75, u170_76, u170_77, u170_80, u170_81, u170_84, u170_87, u170_88, u170_91, q_push_s, q_push_n, q_sm_0, q_sm_i, q_sm_r, q_sm_n, q_sm_l, q_c1_0, q_c1_i, q_c1_r, q_c1_n, Nat.zero_add, Nat.reduceAdd, Nat.reduceMul, Nat.reduceSub, Nat.reduceLeDiff, Nat.reduceLT, Nat.reduceEqDiff, true_and, and_true, not_false_eq_true, if_true, if_false, ite_true, ite_false, or_true, true_or, or_false, false_or, not_true_eq_false, eq_self, lq_0_1, lq_0_2, lq_0_3, lq_0_4, lq_0_5, lq_0_6, lq_1_0, lq_1_2, lq_1_3, lq_1_4, lq_1_5, lq_1_6, lq_2_0, lq_2_1, lq_2_3, lq_2_4, lq_2_5, lq_2_6, lq_3_0, lq_3_1, lq_3_2, lq_3_4, lq_3_5, lq_3_6, lq_4_0, lq_4_1, lq_4_2, lq_4_3, lq_4_5, lq_4_6, lq_5_0, lq_5_1, lq_5_2, lq_5_3, lq_5_4, lq_5_6, lq_6_0, lq_6_1, lq_6_2, lq_6_3, lq_6_4, lq_6_5, ll_0_0, ll_0_1, ll_0_2, ll_0_3, ll_0_4, ll_0_5, ll_0_6, ll_1_0, ll_1_1, ll_1_2, ll_1_3, ll_1_4, ll_1_5, ll_1_6, ll_2_0, ll_2_1, ll_2_2, ll_2_3, ll_2_4, ll_2_5, ll_2_6, ll_3_0, ll_3_1, ll_3_2, ll_3_3, ll_3_4, ll_3_5, ll_3_6, ll_4_0, ll_4_1, ll_4_2, ll_4_3, ll_4_4, ll_4_5, ll_4_6, ll_5_0, ll_5_1, ll_5_2, ll_5_3, ll_5_4, ll_5_5, ll_5_6, ll_6_0, ll_6_1, ll_6_2, ll_6_3, ll_6_4, ll_6_5, ll_6_6, le_0_0, le_0_1, le_0_2, le_0_3, le_0_4, le_0_5, le_0_6, le_1_0, le_1_1, le_1_2, le_1_3, le_1_4, le_1_5, le_1_6, le_2_0, le_2_1, le_2_2, le_2_3, le_2_4, le_2_5, le_2_6, le_3_0, le_3_1, le_3_2, le_3_3, le_3_4, le_3_5, le_3_6, le_4_0, le_4_1, le_4_2, le_4_3, le_4_4, le_4_5, le_4_6, le_5_0, le_5_1, le_5_2, le_5_3, le_5_4, le_5_5, le_5_6, le_6_0, le_6_1, le_6_2, le_6_3, le_6_4, le_6_5, le_6_6, gf38_33, k2, Nat.zero_le, Nat.reduceLeDiff]
          exact fin _ (by rw [hvl]; exact jI_n _)
        · rw [if_neg (by decide), if_neg (by decide)] at hvl
          simp only [u170_61, u170_62, u170_65, u170_66, u170_69, u170_72, u170_75, u170_76, u170_77, u170_80, u170_81, u170_84, u170_87, u170_88, u170_91, q_push_s, q_push_n, q_sm_0, q_sm_i, q_sm_r, q_sm_n, q_sm_l, q_c1_0, q_c1_i, q_c1_r, q_c1_n, Nat.zero_add, Nat.reduceAdd, Nat.reduceMul, Nat.reduceSub, Nat.reduceLeDiff, Nat.reduceLT, Nat.reduceEqDiff, true_and, and_true, not_false_eq_true, if_true, if_false, ite_true, ite_false, or_true, true_or, or_false, false_or, not_true_eq_false, eq_self, lq_0_1, lq_0_2, lq_0_3, lq_0_4, lq_0_5, lq_0_6, lq_1_0, lq_1_2, lq_1_3, lq_1_4, lq_1_5, lq_1_6, lq_2_0, lq_2_1, lq_2_3, lq_2_4, lq_2_5, lq_2_6, lq_3_0, lq_3_1, lq_3_2, lq_3_4, lq_3_5, lq_3_6, lq_4_0, lq_4_1, lq_4_2, lq_4_3, lq_4_5, lq_4_6, lq_5_0, lq_5_1, lq_5_2, lq_5_3, lq_5_4, lq_5_6, lq_6_0, lq_6_1, lq_6_2, lq_6_3, lq_6_4, lq_6_5, ll_0_0, ll_0_1, ll_0_2, ll_0_3, ll_0_4, ll_0_5, ll_0_6, ll_1_0, ll_1_1, ll_1_2, ll_1_3, ll_1_4, ll_1_5, ll_1_6, ll_2_0, ll_2_1, ll_2_2, ll_2_3, ll_2_4, ll_2_5, ll_2_6, ll_3_0, ll_3_1, ll_3_2, ll_3_3, ll_3_4, ll_3_5, ll_3_6, ll_4_0, ll_4_1, ll_4_2, ll_4_3, ll_4_4, ll_4_5, ll_4_6, ll_5_0, ll_5_1, ll_5_2, ll_5_3, ll_5_4, ll_5_5, ll_5_6, ll_6_0, ll_6_1, ll_6_2, ll_6_3, ll_6_4, ll_6_5, ll_6_6, le_0_0, le_0_1, le_0_2, le_0_3, le_0_4, le_0_5, le_0_6, le_1_0, le_1_1, le_1_2, le_1_3, le_1_4, le_1_5, le_1_6, le_2_0, le_2_1, le_2_2, le_2_3, le_2_4, le_2_5, le_2_6, le_3_0, le_3_1, le_3_2, le_3_3, le_3_4, le_3_5, le_3_6, le_4_0, le_4_1, le_4_2, le_4_3, le_4_4, le_4_5, le_4_6, le_5_0, le_5_1, le_5_2, le_5_3, le_5_4, le_5_5, le_5_6, le_6_0, le_6_1, le_6_2, le_6_3, le_6_4, le_6_5, le_6_6, gf38_33, k2, Nat.zero_le, Nat.reduceLeDiff]
          exact fin _ (by rw [hvl, jI_n, jI_neg])
      · have ef : z_bF (z_wt tx s goal) (s.1 0) x a = a := if_neg (fun e => q2 (fun g hg => (hiff.mp e).2 g hg))
        rw [ef] at hK
        have eall := z_b_0 q2
        simp only [u170_47, u170_50, u170_51, u170_54, u170_144, u170_147, q_push_s, q_push_n, q_sm_0, q_sm_i, q_sm_r, q_sm_n, q_sm_l, q_c1_0, q_c1_i, q_c1_r, q_c1_n, Nat.zero_add, Nat.reduceAdd, Nat.reduceMul, Nat.reduceSub, Nat.reduceLeDiff, Nat.reduceLT, Nat.reduceEqDiff, true_and, and_true, not_false_eq_true, if_true, if_false, ite_true, ite_false, or_true, true_or, or_false, false_or, not_true_eq_false, q, ez, io38, c_allow h6 l1.mo.n g1 hdl, eall, eq_self, n_add, Nat.zero_le, Nat.reduceLeDiff]
        exact l_bst8 hgoal x2 d cc (x + 1) a m1 _ _ h7 h8 (by omega) ha1 ha2 l1 (fun m' x7 x8 f' l' => hK m' x7 x8 (fv1.fw.trans f') l') h2
    · have ef : z_bF (z_wt tx s goal) (s.1 0) x a = a := if_neg (fun e => q (hiff.mp e).1)
      rw [ef] at hK
      simp only [u170_47, u170_144, u170_147, q_push_s, q_push_n, q_sm_0, q_sm_i, q_sm_r, q_sm_n, q_sm_l, q_c1_0, q_c1_i, q_c1_r, q_c1_n, Nat.zero_add, Nat.reduceAdd, Nat.reduceMul, Nat.reduceSub, Nat.reduceLeDiff, Nat.reduceLT, Nat.reduceEqDiff, true_and, and_true, not_false_eq_true, if_true, if_false, ite_true, ite_false, or_true, true_or, or_false, false_or, not_true_eq_false, q, ezf, n_add]
      exact l_bst8 hgoal x2 d cc (x + 1) a m1 _ _ h7 h8 (by omega) ha1 ha2 l1 (fun m' x7 x8 f' l' => hK m' x7 x8 (fv1.fw.trans f') l') h2
end
section
variable {T : List Nat} {L d : Nat} {xs : Nat → Int32} {s : ZS} {tx : Nat → Nat → List Nat} {n : Nat} {tp : Nat → Nat} {z : Nat} {h : ZH} {wd : Nat → Int32} {m m1 m2 : q_M} {K : Option Value → Option Value → q_G → q_M → Prop}
theorem LJ.fw (l : LJ T L xs s tx n tp z h wd m) (f : FW m m1) (lr : RJ s tx n h m1) : LJ T L xs s tx n tp z h wd m1 :=
  l.st ⟨fun k h1 h2 h3 h4 h5 => f.1 k h5 (fun q => h1 (Or.inr (Or.inr q))) (by omega), by rw [f.1 26 (by decide) (by decide) (by decide)], fun f' hf _ _ _ => f.2 f' hf⟩ l.bz l.iw.2.2.1 (l.cl.fr (fun k h1 h2 => f.1 k (by omega) (by omega) (by omega))) lr.mo (Nat.le_refl _) (fun g _ => ⟨rfl, rfl⟩)
theorem p_best (l : LJ T L xs s tx n tp z h wd m) (a b : Int32) (hK : ∀ r m', LJ T L xs s tx n tp z h wd m' → K (some (.int r)) (some (.int r)) (GG T L) m') :
    q_C 78 (d + 8) [.ref 0, .int a, .int b] (GG T L) m (fun v g m => q_C 170 (d + 8) [.ref 38, .int a, .int b] g m (fun v' g m => K v v' g m)) := by
  have h6 := l.bz.1
  by_cases ha : z_is a 3
  · obtain ⟨goal, hgoal, rfl⟩ := z_is_n ha
    have a0 := n_lt0 (j := goal) (by omega)
    have a1 := n_le (i := goal) (j := 2) (by omega) (by decide)
    have a2 : goal ≤ 2 := by omega
    by_cases hb : z_is b 2
    · obtain ⟨w, hw, rfl⟩ := z_is_n hb
      have w0 := n_lt0 (j := w) (by omega)
      have w1 := n_le (i := w) (j := 1) (by omega) (by decide)
      have w2 : w ≤ 1 := by omega
      have hw' : w = 0 ∨ w = 1 := by omega
      have hwt := z_wt_b tx s goal
      have hne := z_L_ne hwt (s.1 0) 0 0 h6 (z_fe_6 (s.1 0) (by omega))
      have hen := z_enum (z_e (s.1 0)) (z_bA (z_wt tx s goal) (s.1 0)) h6 (false, 0, (0 : Int))
      rw [z_best_DT hwt h6 (s.1 0) 0 0 (fun _ => 0) (false, 0, (0 : Int)) (by omega), if_neg hne] at hen
      have ref : ∀ m2 V, LJ T L xs s tx n tp z h wd m2 → V = (if w = 0 then nI (z_dg (z_gl (z_wt tx s goal) (s.1 0) (s.1 0) 0 0 (fun _ => 0)) (s.1 0)) else jI (z_L (z_wt tx s goal) (s.1 0) (s.1 0) 0 0)) → q_C 170 (d + 8) [.ref 38, .int (nI goal), .int (nI w)] (GG T L) m2 (fun v' g m => K (some (.int V)) v' g m) := by
        intro m2 V lj hV
        simp only [u170_0, u170_1, u170_2, u170_3, u170_6, u170_9, u170_10, u170_11, u170_12, u170_15, u170_18, u170_20, u170_21, u170_22, u170_23, u170_24, u170_26, u170_27, u170_29, u170_30, e170, q_push_s, q_push_n, q_sm_0, q_sm_i, q_sm_r, q_sm_n, q_sm_l, q_c1_0, q_c1_i, q_c1_r, q_c1_n, Nat.zero_add, Nat.reduceAdd, Nat.reduceMul, Nat.reduceSub, Nat.reduceLeDiff, Nat.reduceLT, Nat.reduceEqDiff, true_and, and_true, not_false_eq_true, if_true, if_false, ite_true, ite_false, or_true, true_or, or_false, false_or, not_true_eq_false, c_in, and_self, a0, a1, a2, w0, w1, w2, z_b_z, Nat.zero_le, Nat.reduceLeDiff]
        have hgo := l_bst8 (T := T) (L := L) (K := fun v' g m => K (some (.int V)) v' g m) (x2 := some (.int (nI w))) hgoal d (s.1 0 ^ s.1 0) 0 (false, 0, (0 : Int)) m2 none none (of_eq_true q_c1_0) (of_eq_true q_c1_0) (by omega) (by decide) (by decide) lj.rj (fun m3 x7 x8 f3 l3 => by
          have hen' : z_fo (z_bF (z_wt tx s goal) (s.1 0)) (s.1 0 ^ s.1 0) 0 (false, 0, (0 : Int)) = z_bt' (z_sm' (z_wt tx s goal) (fun _ => 0) 0 + z_L (z_wt tx s goal) (s.1 0) (s.1 0) 0 0) (z_dg (z_gl (z_wt tx s goal) (s.1 0) (s.1 0) 0 0 (fun _ => 0)) (s.1 0)) (false, 0, (0 : Int)) := hen
          have e0 : z_sm' (z_wt tx s goal) (fun _ => 0) 0 = 0 := rfl
          rw [hen', e0, Int.zero_add]
          have lj3 := lj.fw f3 l3
          unfold z_bt'
          rw [if_pos (Or.inl rfl)]
          rcases hw' with rfl | rfl
          · rw [if_pos rfl] at hV
            simp only [u170_150, u170_151, u170_154, u170_156, u170_159, u170_161, q_push_s, q_push_n, q_sm_0, q_sm_i, q_sm_r, q_sm_n, q_sm_l, q_c1_0, q_c1_i, q_c1_r, q_c1_n, Nat.zero_add, Nat.reduceAdd, Nat.reduceMul, Nat.reduceSub, Nat.reduceLeDiff, Nat.reduceLT, Nat.reduceEqDiff, true_and, and_true, not_false_eq_true, if_true, if_false, ite_true, ite_false, or_true, true_or, or_false, false_or, not_true_eq_false, eq_self, lq_0_1, lq_0_2, lq_0_3, lq_0_4, lq_0_5, lq_0_6, lq_1_0, lq_1_2, lq_1_3, lq_1_4, lq_1_5, lq_1_6, lq_2_0, lq_2_1, lq_2_3, lq_2_4, lq_2_5, lq_2_6, lq_3_0, lq_3_1, lq_3_2, lq_3_4, lq_3_5, lq_3_6, lq_4_0, lq_4_1, lq_4_2, lq_4_3, lq_4_5, lq_4_6, lq_5_0, lq_5_1, lq_5_2, lq_5_3, lq_5_4, lq_5_6, lq_6_0, lq_6_1, lq_6_2, lq_6_3, lq_6_4, lq_6_5, ll_0_0, ll_0_1, ll_0_2, ll_0_3, ll_0_4, ll_0_5, ll_0_6, ll_1_0, ll_1_1, ll_1_2, ll_1_3, ll_1_4, ll_1_5, ll_1_6, ll_2_0, ll_2_1, ll_2_2, ll_2_3, ll_2_4, ll_2_5, ll_2_6, ll_3_0, ll_3_1, ll_3_2, ll_3_3, ll_3_4, ll_3_5, ll_3_6, ll_4_0, ll_4_1, ll_4_2, ll_4_3, ll_4_4, ll_4_5, ll_4_6, ll_5_0, ll_5_1, ll_5_2, ll_5_3, ll_5_4, ll_5_5, ll_5_6, ll_6_0, ll_6_1, ll_6_2, ll_6_3, ll_6_4, ll_6_5, ll_6_6, le_0_0, le_0_1, le_0_2, le_0_3, le_0_4, le_0_5, le_0_6, le_1_0, le_1_1, le_1_2, le_1_3, le_1_4, le_1_5, le_1_6, le_2_0, le_2_1, le_2_2, le_2_3, le_2_4, le_2_5, le_2_6, le_3_0, le_3_1, le_3_2, le_3_3, le_3_4, le_3_5, le_3_6, le_4_0, le_4_1, le_4_2, le_4_3, le_4_4, le_4_5, le_4_6, le_5_0, le_5_1, le_5_2, le_5_3, le_5_4, le_5_5, le_5_6, le_6_0, le_6_1, le_6_2, le_6_3, le_6_4, le_6_5, le_6_6]
            rw [hV]
            exact hK _ _ lj3
          · rw [if_neg (by decide)] at hV
            simp only [u170_150, u170_151, u170_154, u170_156, u170_159, u170_161, q_push_s, q_push_n, q_sm_0, q_sm_i, q_sm_r, q_sm_n, q_sm_l, q_c1_0, q_c1_i, q_c1_r, q_c1_n, Nat.zero_add, Nat.reduceAdd, Nat.reduceMul, Nat.reduceSub, Nat.reduceLeDiff, Nat.reduceLT, Nat.reduceEqDiff, true_and, and_true, not_false_eq_true, if_true, if_false, ite_true, ite_false, or_true, true_or, or_false, false_or, not_true_eq_false, eq_self, lq_0_1, lq_0_2, lq_0_3, lq_0_4, lq_0_5, lq_0_6, lq_1_0, lq_1_2, lq_1_3, lq_1_4, lq_1_5, lq_1_6, lq_2_0, lq_2_1, lq_2_3, lq_2_4, lq_2_5, lq_2_6, lq_3_0, lq_3_1, lq_3_2, lq_3_4, lq_3_5, lq_3_6, lq_4_0, lq_4_1, lq_4_2, lq_4_3, lq_4_5, lq_4_6, lq_5_0, lq_5_1, lq_5_2, lq_5_3, lq_5_4, lq_5_6, lq_6_0, lq_6_1, lq_6_2, lq_6_3, lq_6_4, lq_6_5, ll_0_0, ll_0_1, ll_0_2, ll_0_3, ll_0_4, ll_0_5, ll_0_6, ll_1_0, ll_1_1, ll_1_2, ll_1_3, ll_1_4, ll_1_5, ll_1_6, ll_2_0, ll_2_1, ll_2_2, ll_2_3, ll_2_4, ll_2_5, ll_2_6, ll_3_0, ll_3_1, ll_3_2, ll_3_3, ll_3_4, ll_3_5, ll_3_6, ll_4_0, ll_4_1, ll_4_2, ll_4_3, ll_4_4, ll_4_5, ll_4_6, ll_5_0, ll_5_1, ll_5_2, ll_5_3, ll_5_4, ll_5_5, ll_5_6, ll_6_0, ll_6_1, ll_6_2, ll_6_3, ll_6_4, ll_6_5, ll_6_6, le_0_0, le_0_1, le_0_2, le_0_3, le_0_4, le_0_5, le_0_6, le_1_0, le_1_1, le_1_2, le_1_3, le_1_4, le_1_5, le_1_6, le_2_0, le_2_1, le_2_2, le_2_3, le_2_4, le_2_5, le_2_6, le_3_0, le_3_1, le_3_2, le_3_3, le_3_4, le_3_5, le_3_6, le_4_0, le_4_1, le_4_2, le_4_3, le_4_4, le_4_5, le_4_6, le_5_0, le_5_1, le_5_2, le_5_3, le_5_4, le_5_5, le_5_6, le_6_0, le_6_1, le_6_2, le_6_3, le_6_4, le_6_5, le_6_6]
            rw [hV]
            exact hK _ _ lj3) (of_eq_true (q_c1_i _))
        exact hgo
      simp only [u78_0, u78_1, u78_4, u78_5, u78_6, u78_9, u78_10, u78_13, u78_14, u78_15, u78_18, u78_20, u78_21, u78_22, e78, q_push_s, q_push_n, q_sm_0, q_sm_i, q_sm_r, q_sm_n, q_sm_l, q_c1_0, q_c1_i, q_c1_r, q_c1_n, Nat.zero_add, Nat.reduceAdd, Nat.reduceMul, Nat.reduceSub, Nat.reduceLeDiff, Nat.reduceLT, Nat.reduceEqDiff, true_and, and_true, not_false_eq_true, if_true, if_false, ite_true, ite_false, or_true, true_or, or_false, false_or, not_true_eq_false, a0, a1, a2, w0, w1, w2]
      refine l_bs2 hgoal _ (d + 2) (s.1 0) 0 m _ _ _ (of_eq_true q_c1_0) (of_eq_true q_c1_0) (of_eq_true q_c1_0) (by omega) l.cj (fun g hg => absurd hg (Nat.not_lt_zero g)) (fun m1 x3 x4 x5 x6 f1 l1 k1 => ?_)
      simp only [u78_138, u78_139, u78_142, q_push_s, q_push_n, q_sm_0, q_sm_i, q_sm_r, q_sm_n, q_sm_l, q_c1_0, q_c1_i, q_c1_r, q_c1_n, Nat.zero_add, Nat.reduceAdd, Nat.reduceMul, Nat.reduceSub, Nat.reduceLeDiff, Nat.reduceLT, Nat.reduceEqDiff, true_and, and_true, not_false_eq_true, if_true, if_false, ite_true, ite_false, or_true, true_or, or_false, false_or, not_true_eq_false, gf0_0, io1, Nat.zero_le, Nat.reduceLeDiff]
      refine c_leastSum (d := d + 5) hwt h6 l1.cl.n k1 (fun m2 f2 g2 => ?_)
      have fu2 : FU m1 m2 := fun k hk => f2 k (by omega)
      have lj2 := l.fr (f1.fu.trans fu2).fr
      rcases hw' with rfl | rfl
      · simp only [u78_145, u78_146, u78_147, u78_150, u78_151, u78_154, q_push_s, q_push_n, q_sm_0, q_sm_i, q_sm_r, q_sm_n, q_sm_l, q_c1_0, q_c1_i, q_c1_r, q_c1_n, Nat.zero_add, Nat.reduceAdd, Nat.reduceMul, Nat.reduceSub, Nat.reduceLeDiff, Nat.reduceLT, Nat.reduceEqDiff, true_and, and_true, not_false_eq_true, if_true, if_false, ite_true, ite_false, or_true, true_or, or_false, false_or, not_true_eq_false, eq_self, lq_0_1, lq_0_2, lq_0_3, lq_0_4, lq_0_5, lq_0_6, lq_1_0, lq_1_2, lq_1_3, lq_1_4, lq_1_5, lq_1_6, lq_2_0, lq_2_1, lq_2_3, lq_2_4, lq_2_5, lq_2_6, lq_3_0, lq_3_1, lq_3_2, lq_3_4, lq_3_5, lq_3_6, lq_4_0, lq_4_1, lq_4_2, lq_4_3, lq_4_5, lq_4_6, lq_5_0, lq_5_1, lq_5_2, lq_5_3, lq_5_4, lq_5_6, lq_6_0, lq_6_1, lq_6_2, lq_6_3, lq_6_4, lq_6_5, ll_0_0, ll_0_1, ll_0_2, ll_0_3, ll_0_4, ll_0_5, ll_0_6, ll_1_0, ll_1_1, ll_1_2, ll_1_3, ll_1_4, ll_1_5, ll_1_6, ll_2_0, ll_2_1, ll_2_2, ll_2_3, ll_2_4, ll_2_5, ll_2_6, ll_3_0, ll_3_1, ll_3_2, ll_3_3, ll_3_4, ll_3_5, ll_3_6, ll_4_0, ll_4_1, ll_4_2, ll_4_3, ll_4_4, ll_4_5, ll_4_6, ll_5_0, ll_5_1, ll_5_2, ll_5_3, ll_5_4, ll_5_5, ll_5_6, ll_6_0, ll_6_1, ll_6_2, ll_6_3, ll_6_4, ll_6_5, ll_6_6, le_0_0, le_0_1, le_0_2, le_0_3, le_0_4, le_0_5, le_0_6, le_1_0, le_1_1, le_1_2, le_1_3, le_1_4, le_1_5, le_1_6, le_2_0, le_2_1, le_2_2, le_2_3, le_2_4, le_2_5, le_2_6, le_3_0, le_3_1, le_3_2, le_3_3, le_3_4, le_3_5, le_3_6, le_4_0, le_4_1, le_4_2, le_4_3, le_4_4, le_4_5, le_4_6, le_5_0, le_5_1, le_5_2, le_5_3, le_5_4, le_5_5, le_5_6, le_6_0, le_6_1, le_6_2, le_6_3, le_6_4, le_6_5, le_6_6, gf0_0, io1, Nat.zero_le, Nat.reduceLeDiff]
        refine c_firstLeast (d := d + 5) hwt h6 (by rw [f2 3 (by decide)]; exact l1.cl.n) (fun g hg o ho => by rw [f2 15 (by decide)]; exact k1 g hg o ho) g2 (fun m3 f3 => ?_)
        have fu3 : FU m2 m3 := fun k hk => f3 k (by omega)
        simp only [u78_157, u78_160, u78_161, q_push_s, q_push_n, q_sm_0, q_sm_i, q_sm_r, q_sm_n, q_sm_l, q_c1_0, q_c1_i, q_c1_r, q_c1_n, Nat.zero_add, Nat.reduceAdd, Nat.reduceMul, Nat.reduceSub, Nat.reduceLeDiff, Nat.reduceLT, Nat.reduceEqDiff, true_and, and_true, not_false_eq_true, if_true, if_false, ite_true, ite_false, or_true, true_or, or_false, false_or, not_true_eq_false]
        exact ref m3 _ (lj2.fr fu3.fr) (by rw [if_pos rfl])
      · simp only [u78_145, u78_146, u78_147, u78_150, u78_151, u78_154, u78_157, u78_160, u78_161, q_push_s, q_push_n, q_sm_0, q_sm_i, q_sm_r, q_sm_n, q_sm_l, q_c1_0, q_c1_i, q_c1_r, q_c1_n, Nat.zero_add, Nat.reduceAdd, Nat.reduceMul, Nat.reduceSub, Nat.reduceLeDiff, Nat.reduceLT, Nat.reduceEqDiff, true_and, and_true, not_false_eq_true, if_true, if_false, ite_true, ite_false, or_true, true_or, or_false, false_or, not_true_eq_false, eq_self, lq_0_1, lq_0_2, lq_0_3, lq_0_4, lq_0_5, lq_0_6, lq_1_0, lq_1_2, lq_1_3, lq_1_4, lq_1_5, lq_1_6, lq_2_0, lq_2_1, lq_2_3, lq_2_4, lq_2_5, lq_2_6, lq_3_0, lq_3_1, lq_3_2, lq_3_4, lq_3_5, lq_3_6, lq_4_0, lq_4_1, lq_4_2, lq_4_3, lq_4_5, lq_4_6, lq_5_0, lq_5_1, lq_5_2, lq_5_3, lq_5_4, lq_5_6, lq_6_0, lq_6_1, lq_6_2, lq_6_3, lq_6_4, lq_6_5, ll_0_0, ll_0_1, ll_0_2, ll_0_3, ll_0_4, ll_0_5, ll_0_6, ll_1_0, ll_1_1, ll_1_2, ll_1_3, ll_1_4, ll_1_5, ll_1_6, ll_2_0, ll_2_1, ll_2_2, ll_2_3, ll_2_4, ll_2_5, ll_2_6, ll_3_0, ll_3_1, ll_3_2, ll_3_3, ll_3_4, ll_3_5, ll_3_6, ll_4_0, ll_4_1, ll_4_2, ll_4_3, ll_4_4, ll_4_5, ll_4_6, ll_5_0, ll_5_1, ll_5_2, ll_5_3, ll_5_4, ll_5_5, ll_5_6, ll_6_0, ll_6_1, ll_6_2, ll_6_3, ll_6_4, ll_6_5, ll_6_6, le_0_0, le_0_1, le_0_2, le_0_3, le_0_4, le_0_5, le_0_6, le_1_0, le_1_1, le_1_2, le_1_3, le_1_4, le_1_5, le_1_6, le_2_0, le_2_1, le_2_2, le_2_3, le_2_4, le_2_5, le_2_6, le_3_0, le_3_1, le_3_2, le_3_3, le_3_4, le_3_5, le_3_6, le_4_0, le_4_1, le_4_2, le_4_3, le_4_4, le_4_5, le_4_6, le_5_0, le_5_1, le_5_2, le_5_3, le_5_4, le_5_5, le_5_6, le_6_0, le_6_1, le_6_2, le_6_3, le_6_4, le_6_5, le_6_6]
        exact ref m2 _ lj2 (by rw [if_neg (by decide)])
    · rcases z_is_f (n := 1) (by decide) hb with q | ⟨q1, q2⟩
      · simp only [u78_0, u78_1, u78_4, u78_5, u78_6, u78_9, u78_10, u78_13, u78_14, u78_15, u78_18, u78_20, e78, u170_0, u170_1, u170_2, u170_3, u170_6, u170_9, u170_10, u170_11, u170_12, u170_15, u170_18, u170_20, e170, q_push_s, q_push_n, q_sm_0, q_sm_i, q_sm_r, q_sm_n, q_sm_l, q_c1_0, q_c1_i, q_c1_r, q_c1_n, Nat.zero_add, Nat.reduceAdd, Nat.reduceMul, Nat.reduceSub, Nat.reduceLeDiff, Nat.reduceLT, Nat.reduceEqDiff, true_and, and_true, not_false_eq_true, if_true, if_false, ite_true, ite_false, or_true, true_or, or_false, false_or, not_true_eq_false, z_b_z, c_in, and_self, a0, a1, a2, q, false_and, Nat.zero_le, Nat.reduceLeDiff]
        exact hK _ _ l
      · simp only [u78_0, u78_1, u78_4, u78_5, u78_6, u78_9, u78_10, u78_13, u78_14, u78_15, u78_18, u78_20, e78, u170_0, u170_1, u170_2, u170_3, u170_6, u170_9, u170_10, u170_11, u170_12, u170_15, u170_18, u170_20, e170, q_push_s, q_push_n, q_sm_0, q_sm_i, q_sm_r, q_sm_n, q_sm_l, q_c1_0, q_c1_i, q_c1_r, q_c1_n, Nat.zero_add, Nat.reduceAdd, Nat.reduceMul, Nat.reduceSub, Nat.reduceLeDiff, Nat.reduceLT, Nat.reduceEqDiff, true_and, and_true, not_false_eq_true, if_true, if_false, ite_true, ite_false, or_true, true_or, or_false, false_or, not_true_eq_false, z_b_z, c_in, and_self, a0, a1, a2, q1, q2, and_false, Nat.zero_le, Nat.reduceLeDiff]
        exact hK _ _ l
  · rcases z_is_f (n := 2) (by decide) ha with q | ⟨q1, q2⟩
    · simp only [u78_0, u78_1, u78_4, u78_5, u78_6, u78_9, u78_10, u78_13, u78_14, u78_15, u78_18, u78_20, e78, u170_0, u170_1, u170_2, u170_3, u170_6, u170_9, u170_10, u170_11, u170_12, u170_15, u170_18, u170_20, e170, q_push_s, q_push_n, q_sm_0, q_sm_i, q_sm_r, q_sm_n, q_sm_l, q_c1_0, q_c1_i, q_c1_r, q_c1_n, Nat.zero_add, Nat.reduceAdd, Nat.reduceMul, Nat.reduceSub, Nat.reduceLeDiff, Nat.reduceLT, Nat.reduceEqDiff, true_and, and_true, not_false_eq_true, if_true, if_false, ite_true, ite_false, or_true, true_or, or_false, false_or, not_true_eq_false, z_b_z, c_in, q, false_and, Nat.zero_le, Nat.reduceLeDiff]
      exact hK _ _ l
    · simp only [u78_0, u78_1, u78_4, u78_5, u78_6, u78_9, u78_10, u78_13, u78_14, u78_15, u78_18, u78_20, e78, u170_0, u170_1, u170_2, u170_3, u170_6, u170_9, u170_10, u170_11, u170_12, u170_15, u170_18, u170_20, e170, q_push_s, q_push_n, q_sm_0, q_sm_i, q_sm_r, q_sm_n, q_sm_l, q_c1_0, q_c1_i, q_c1_r, q_c1_n, Nat.zero_add, Nat.reduceAdd, Nat.reduceMul, Nat.reduceSub, Nat.reduceLeDiff, Nat.reduceLT, Nat.reduceEqDiff, true_and, and_true, not_false_eq_true, if_true, if_false, ite_true, ite_false, or_true, true_or, or_false, false_or, not_true_eq_false, z_b_z, c_in, q1, q2, and_false, Nat.zero_le, Nat.reduceLeDiff]
      exact hK _ _ l
end
