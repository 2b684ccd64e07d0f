/-! ===== a new text of the class ===== -/
def y_fo (S : Nat → Int32) : Nat → Nat → Nat → Nat → Nat → Nat × Nat × Nat
  | 0, _, a, b, t => (a, b, t)
  | c + 1, i, a, b, t => if S i = (-20 : Int32) then y_fo S c (i + 1) (a + 1) (if a + 1 = 1 then i + 1 else b) (if a + 1 = 2 then i + 1 else t) else y_fo S c (i + 1) a b t
section
variable {d P N : Nat} {g : q_G} {m : q_M} {S : Nat → Int32} {K : Option Value → q_G → q_M → Prop}
theorem al_g {k n : Nat} (hs : g.1 k = .inl n) {F : Int32 → Prop} : q_al g k F ↔ F (nI n) := by
  unfold q_al
  rw [hs]
theorem ia_g {k n i : Nat} (hs : g.1 k = .inl n) (hk : k < 930) (hn : n < 2 ^ 31) (hi : i < n) {F : Int32 → Prop} : q_ia g m k (nI i) F ↔ F (m k i) := by
  unfold q_ia
  rw [hs]
  dsimp only
  rw [q_vpI (by omega), nI_clamp (by omega)]
  exact ⟨fun h => h.2.2, fun h => ⟨hi, hk, h⟩⟩
theorem is_g {k n i : Nat} (hs : g.1 k = .inl n) (hk : k < 900) (hn : n < 2 ^ 31) (hi : i < n) {F : Prop} : q_is g k (nI i) F ↔ F := by
  unfold q_is
  rw [hs]
  dsimp only
  rw [q_vpI (by omega)]
  exact ⟨fun h => h.2.2, fun h => ⟨hi, hk, h⟩⟩
theorem c_atg {k n j : Nat} (hs : g.1 k = .inl n) (hk : k < 930) (hn : n < 2 ^ 31) (hj : j < n) : q_C 100 d [.ref k, .int (nI j)] g m K ↔ K (some (.int (m k j))) g m := by
  have h1 : ¬ k = 950 := by omega
  have h2 : ¬ nI j < nI 0 := by
    rw [nI_0]
    exact nI_pos (by omega)
  have h3 : nI j < nI n := nI_lt hj hn
  simp only [e100, u100_0, u100_0n, u100_1n, u100_1, u100_4, u100_5, u100_8, u100_9, u100_9n, u100_10, u100_11, u100_14, u100_14n, u100_15, u100_16, u100_17, u100_20, u100_21, q_push_s, q_push_n, q_sm_0, q_sm_i, q_sm_r, q_sm_n, q_sm_l, q_c1_0, q_c1_i, q_c1_r, q_c1_n, Nat.zero_add, Nat.reduceAdd, Nat.reduceMul, Nat.reduceSub, Nat.reduceLeDiff, Nat.reduceLT, Nat.reduceEqDiff, true_and, and_true, not_false_eq_true, if_true, if_false, ite_true, ite_false, or_true, true_or, or_false, false_or, not_true_eq_false, h1, h2, h3, al_g hs, ia_g hs hk hn hj]
theorem gfP0 {r : Nat} (hs : g.1 P = .inr (.inr (6, [some (.ref r), none, none]))) {F : Value → Prop} : q_gf 6 0 g m P F ↔ F (.ref r) := by
  unfold q_gf
  rw [hs]
  exact ⟨fun h => h.2, fun h => ⟨rfl, h⟩⟩
theorem pfP1 {r : Nat} {v : Int32} (hs : g.1 P = .inr (.inr (6, [some (.ref r), none, none]))) (hP : P < 900) {F : q_G → q_M → Prop} : q_pf 6 1 false g m P (.int v) F ↔ F g (q_up m P 1 v) := by
  unfold q_pf
  rw [hs]
  exact ⟨fun h => h.2.2.2, fun h => ⟨rfl, hP, fun z => (by cases z), h⟩⟩
theorem pfP2 {r : Nat} {v : Int32} (hs : g.1 P = .inr (.inr (6, [some (.ref r), none, none]))) (hP : P < 900) {F : q_G → q_M → Prop} : q_pf 6 2 false g m P (.int v) F ↔ F g (q_up m P 2 v) := by
  unfold q_pf
  rw [hs]
  exact ⟨fun h => h.2.2.2, fun h => ⟨rfl, hP, fun z => (by cases z), h⟩⟩
theorem l_init (hP : g.1 P = .inr (.inr (6, [some (.ref (P + 1)), none, none]))) (hP1 : g.1 (P + 1) = .inl N) (h28 : g.1 28 = .inl 160) (hP9 : 28 < P ∧ P + 1 < 900) (hN : N ≤ 160) (d : Nat) : ∀ c i a b t m, i + c = N → a ≤ i → (∀ x, x < N → m 28 x = S x) → (∀ x, x < i → m (P + 1) x = S x) →
    (∀ m', (∀ k, k ≠ P → k ≠ P + 1 → m' k = m k) → (∀ x, x < N → m' (P + 1) x = S x) → m' P 1 = nI (y_fo S c i a b t).2.1 → m' P 2 = nI (y_fo S c i a b t).2.2 → K none g m') →
    q_R 56 35 (d + 1) [some (.ref P), some (.ref 28), some (.int (nI N)), some (.int (nI a)), some (.int (nI b)), some (.int (nI t)), some (.int (nI i))] [] g m K
  | 0, i, a, b, t, m, hi, ha, hS, hd, hK => by
    have ei : i = N := by omega
    subst ei
    rw [u56_35]
    simp only [u56_37, u56_38, u56_41, u56_42, u56_104, u56_105, u56_107, u56_110, u56_111, u56_113, u56_116, q_push_s, q_push_n, q_sm_0, q_sm_i, q_sm_r, q_sm_n, q_sm_l, q_c1_0, q_c1_i, q_c1_r, q_c1_n, Nat.zero_add, Nat.reduceAdd, Nat.reduceMul, Nat.reduceSub, Nat.reduceLeDiff, Nat.reduceLT, Nat.reduceEqDiff, true_and, and_true, not_false_eq_true, if_true, if_false, ite_true, ite_false, or_true, true_or, or_false, false_or, not_true_eq_false, gfP0 hP, al_g hP1, n_lt (i := i) (j := i) (by omega) (by omega), Nat.lt_irrefl, pfP1 hP (show P < 900 by omega), pfP2 hP (show P < 900 by omega)]
    refine hK _ (fun k k1 k2 => by rw [q_up_f _ _ _ k1, q_up_f _ _ _ k1]) (fun x hx => ?_) ?_ (q_up_eq _ _ _ _)
    · rw [q_up_f _ _ _ (by omega), q_up_f _ _ _ (by omega)]; exact hd x hx
    · rw [q_up_i _ _ (by decide), q_up_eq]; rfl
  | c + 1, i, a, b, t, m, hi, ha, hS, hd, hK => by
    have hiN : i < N := by omega
    have cl : (nI i).toNatClampNeg = i := n_cl (by omega)
    have e1 : q_up m (P + 1) i (m 28 i) (P + 1) i = S i := by rw [q_up_eq]; exact hS i hiN
    have hS' : ∀ x, x < N → q_up m (P + 1) i (m 28 i) 28 x = S x := fun x hx => by rw [q_up_f _ _ _ (by omega)]; exact hS x hx
    have hd' : ∀ x, x < i + 1 → q_up m (P + 1) i (m 28 i) (P + 1) x = S x := fun x hx => by
      by_cases q : x = i
      · rw [q]; exact e1
      · rw [q_up_i _ _ q]; exact hd x (by omega)
    have hrec : ∀ a' b' t', a' ≤ i + 1 → y_fo S (c + 1) i a b t = y_fo S c (i + 1) a' b' t' → q_R 56 35 (d + 1) [some (.ref P), some (.ref 28), some (.int (nI N)), some (.int (nI a')), some (.int (nI b')), some (.int (nI t')), some (.int (nI (i + 1)))] [] g (q_up m (P + 1) i (m 28 i)) K := by
      intro a' b' t' ha' ef
      refine l_init hP hP1 h28 hP9 hN d c (i + 1) a' b' t' _ (by omega) ha' hS' hd' (fun m' f1 f2 f3 f4 => hK m' (fun k k1 k2 => by rw [f1 k k1 k2, q_up_f _ _ _ k2]) f2 ?_ ?_)
      · rw [ef]; exact f3
      · rw [ef]; exact f4
    rw [u56_35]
    by_cases q : S i = (-20 : Int32)
    · have qa1 := n_eq (i := a + 1) (j := 1) (by omega) (by decide)
      have qa2 := n_eq (i := a + 1) (j := 2) (by omega) (by decide)
      have ef : y_fo S (c + 1) i a b t = y_fo S c (i + 1) (a + 1) (if a + 1 = 1 then i + 1 else b) (if a + 1 = 2 then i + 1 else t) := by conv => lhs; unfold y_fo; rw [if_pos q]
      have hr := hrec _ _ _ (by omega) ef
      by_cases r1 : a + 1 = 1
      · have r2 : ¬ a + 1 = 2 := by omega
        rw [if_pos r1, if_neg r2] at hr
        have a0 : a = 0 := by omega
        subst a0
        simp only [u56_37, u56_38, u56_41, u56_42, u56_45, u56_46, u56_49, u56_51, u56_51n, u56_52, u56_54, u56_57, u56_58, u56_59, u56_62, u56_64, u56_65, u56_67, u56_70, u56_73, u56_76, u56_77, u56_78, u56_81, u56_83, u56_84, u56_85, u56_87, u56_88, u56_89, u56_92, u56_94, u56_95, u56_96, u56_98, u56_101, q_push_s, q_push_n, q_sm_0, q_sm_i, q_sm_r, q_sm_n, q_sm_l, q_c1_0, q_c1_i, q_c1_r, q_c1_n, Nat.zero_add, Nat.reduceAdd, Nat.reduceMul, Nat.reduceSub, Nat.reduceLeDiff, Nat.reduceLT, Nat.reduceEqDiff, true_and, and_true, not_false_eq_true, if_true, if_false, ite_true, ite_false, or_true, true_or, or_false, false_or, not_true_eq_false, gfP0 hP, al_g hP1, n_lt (i := i) (j := N) (by omega) (by omega), hiN, c_atg h28 (by decide) (by decide) (show i < 160 by omega), is_g hP1 (show P + 1 < 900 by omega) (by omega) hiN, ia_g hP1 (show P + 1 < 930 by omega) (by omega) hiN, cl, e1, q, n_add, n_eq (i := 1) (j := 2) (by decide) (by decide)]
        exact hr
      · rw [if_neg r1] at hr
        by_cases r2 : a + 1 = 2
        · rw [if_pos r2] at hr
          have a1 : a = 1 := by omega
          subst a1
          simp only [u56_37, u56_38, u56_41, u56_42, u56_45, u56_46, u56_49, u56_51, u56_51n, u56_52, u56_54, u56_57, u56_58, u56_59, u56_62, u56_64, u56_65, u56_67, u56_70, u56_73, u56_76, u56_77, u56_78, u56_81, u56_83, u56_84, u56_85, u56_87, u56_88, u56_89, u56_92, u56_94, u56_95, u56_96, u56_98, u56_101, q_push_s, q_push_n, q_sm_0, q_sm_i, q_sm_r, q_sm_n, q_sm_l, q_c1_0, q_c1_i, q_c1_r, q_c1_n, Nat.zero_add, Nat.reduceAdd, Nat.reduceMul, Nat.reduceSub, Nat.reduceLeDiff, Nat.reduceLT, Nat.reduceEqDiff, true_and, and_true, not_false_eq_true, if_true, if_false, ite_true, ite_false, or_true, true_or, or_false, false_or, not_true_eq_false, gfP0 hP, al_g hP1, n_lt (i := i) (j := N) (by omega) (by omega), hiN, c_atg h28 (by decide) (by decide) (show i < 160 by omega), is_g hP1 (show P + 1 < 900 by omega) (by omega) hiN, ia_g hP1 (show P + 1 < 930 by omega) (by omega) hiN, cl, e1, q, n_add, n_eq (i := 2) (j := 1) (by decide) (by decide)]
          exact hr
        · rw [if_neg r2] at hr
          simp only [u56_37, u56_38, u56_41, u56_42, u56_45, u56_46, u56_49, u56_51, u56_51n, u56_52, u56_54, u56_57, u56_58, u56_59, u56_62, u56_64, u56_65, u56_67, u56_70, u56_73, u56_76, u56_77, u56_78, u56_81, u56_83, u56_84, u56_85, u56_87, u56_88, u56_89, u56_92, u56_94, u56_95, u56_96, u56_98, u56_101, q_push_s, q_push_n, q_sm_0, q_sm_i, q_sm_r, q_sm_n, q_sm_l, q_c1_0, q_c1_i, q_c1_r, q_c1_n, Nat.zero_add, Nat.reduceAdd, Nat.reduceMul, Nat.reduceSub, Nat.reduceLeDiff, Nat.reduceLT, Nat.reduceEqDiff, true_and, and_true, not_false_eq_true, if_true, if_false, ite_true, ite_false, or_true, true_or, or_false, false_or, not_true_eq_false, gfP0 hP, al_g hP1, n_lt (i := i) (j := N) (by omega) (by omega), hiN, c_atg h28 (by decide) (by decide) (show i < 160 by omega), is_g hP1 (show P + 1 < 900 by omega) (by omega) hiN, ia_g hP1 (show P + 1 < 930 by omega) (by omega) hiN, cl, e1, q, n_add, qa1, r1, qa2, r2]
          exact hr
    · have ef : y_fo S (c + 1) i a b t = y_fo S c (i + 1) a b t := by conv => lhs; unfold y_fo; rw [if_neg q]
      have hr := hrec _ _ _ (by omega) ef
      simp only [u56_37, u56_38, u56_41, u56_42, u56_45, u56_46, u56_49, u56_51, u56_51n, u56_52, u56_54, u56_57, u56_58, u56_59, u56_62, u56_64, u56_65, u56_67, u56_70, u56_98, u56_101, q_push_s, q_push_n, q_sm_0, q_sm_i, q_sm_r, q_sm_n, q_sm_l, q_c1_0, q_c1_i, q_c1_r, q_c1_n, Nat.zero_add, Nat.reduceAdd, Nat.reduceMul, Nat.reduceSub, Nat.reduceLeDiff, Nat.reduceLT, Nat.reduceEqDiff, true_and, and_true, not_false_eq_true, if_true, if_false, ite_true, ite_false, or_true, true_or, or_false, false_or, not_true_eq_false, gfP0 hP, al_g hP1, n_lt (i := i) (j := N) (by omega) (by omega), hiN, c_atg h28 (by decide) (by decide) (show i < 160 by omega), is_g hP1 (show P + 1 < 900 by omega) (by omega) hiN, ia_g hP1 (show P + 1 < 930 by omega) (by omega) hiN, cl, e1, q, n_add]
      exact hr
end
