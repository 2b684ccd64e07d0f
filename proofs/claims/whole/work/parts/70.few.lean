/-! ===== next, fewest ===== -/
def z_nx (f : Nat → Nat) (mt : Nat) : Nat → Nat → Int32 × Int32 → Int32 × Int32
  | 0, _, a => a
  | c + 1, j, a => z_nx f mt c (j + 1) (if mt / 2 ^ j % 2 = 0 then (if a.1 = (-1 : Int32) ∨ nI (f (mt ||| 2 ^ j)) < a.2 then (nI j, nI (f (mt ||| 2 ^ j))) else a) else a)
theorem z_nx_e (f : Nat → Nat) (mt : Nat) : ∀ c j x y, (∃ i, j ≤ i ∧ i < j + c ∧ mt / 2 ^ i % 2 = 0) → z_nx f mt c j ((-1 : Int32), x) = z_nx f mt c j ((-1 : Int32), y)
  | 0, j, x, y, h => by
    obtain ⟨i, h1, h2, _⟩ := h
    omega
  | c + 1, j, x, y, h => by
    unfold z_nx
    by_cases q : mt / 2 ^ j % 2 = 0
    · rw [if_pos q, if_pos q, if_pos (Or.inl rfl), if_pos (Or.inl rfl)]
    · rw [if_neg q, if_neg q]
      refine z_nx_e f mt c (j + 1) x y ?_
      obtain ⟨i, h1, h2, h3⟩ := h
      refine ⟨i, ?_, by omega, h3⟩
      by_cases e : i = j
      · rw [e] at h3; exact absurd h3 q
      · omega
theorem z_15 : ∀ mt, mt < 16 → mt ≠ 15 → ∃ i, i < 4 ∧ mt / 2 ^ i % 2 = 0 := by
  intro mt h1 h2
  by_cases q0 : mt / 2 ^ 0 % 2 = 0
  · exact ⟨0, by decide, q0⟩
  · by_cases q1 : mt / 2 ^ 1 % 2 = 0
    · exact ⟨1, by decide, q1⟩
    · by_cases q2 : mt / 2 ^ 2 % 2 = 0
      · exact ⟨2, by decide, q2⟩
      · refine ⟨3, by decide, ?_⟩
        simp only [Nat.reducePow] at q0 q1 q2 ⊢
        omega
def z_fw (f : Nat → Nat) : Nat → Nat → Nat → Nat
  | 0, _, b => b
  | c + 1, i, b => z_fw f c (i + 1) (if z_pop i < z_pop b ∧ f i = f 15 then i else b)
theorem z_fw_b (f : Nat → Nat) : ∀ c i b, i + c ≤ 15 → (b = 15 ∨ b < i) → (z_fw f c i b = 15 ∨ z_fw f c i b < i + c)
  | 0, i, b, h, hb => hb
  | c + 1, i, b, h, hb => by
    unfold z_fw
    split
    · have := z_fw_b f c (i + 1) i (by omega) (Or.inr (by omega))
      rw [show i + (c + 1) = i + 1 + c by omega]
      exact this
    · have := z_fw_b f c (i + 1) b (by omega) (hb.elim Or.inl (fun e => Or.inr (by omega)))
      rw [show i + (c + 1) = i + 1 + c by omega]
      exact this
theorem z_fw_s (f : Nat → Nat) : ∀ c i b, z_fw f (c + 1) i b = (if z_pop (i + c) < z_pop (z_fw f c i b) ∧ f (i + c) = f 15 then i + c else z_fw f c i b)
  | 0, i, b => rfl
  | c + 1, i, b => by
    rw [show i + (c + 1) = i + 1 + c by omega]
    exact z_fw_s f c (i + 1) _
theorem z_pop15 : ∀ b, b < 16 → z_pop b ≤ 4 ∧ z_pop 15 = 4 ∧ (z_pop b = 4 → b = 15) := by decide +kernel
section
variable {T : List Nat} {L : Nat} {s : ZS} {tx : Nat → Nat → List Nat} {n : Nat} {h : ZH} {m : q_M} {K : Option Value → q_G → q_M → Prop}
theorem z_or16 : ∀ mt, mt < 16 → ∀ j, j < 4 → mt ||| 2 ^ j < 16 := by decide +kernel
theorem l_next {mt : Nat} (hm : mt < 16) (x2 : Int32) (d : Nat) : ∀ c j (a : Int32 × Int32) m x6, j + c = 4 → CJ T L s tx n h m → (∀ g, g < s.1 0 → ∀ o, o < s.1 0 → m 15 (g * 6 + o) = nI (z_lk tx s g o 4)) → (∀ m', FU m m' → ∀ x6, q_R 76 99 (d + 3) [some (.ref 0), some (.int (nI mt)), some (.int x2), some (.int (z_nx (z_fit tx s) mt c j a).1), some (.int (z_nx (z_fit tx s) mt c j a).2), some (.int (nI 4)), x6] [] (GG T L) m' K) →
    q_R 76 41 (d + 3) [some (.ref 0), some (.int (nI mt)), some (.int x2), some (.int a.1), some (.int a.2), some (.int (nI j)), x6] [] (GG T L) m K
  | 0, j, a, m, x6, hj, l, ht, hK => by
    have e : j = 4 := by omega
    subst e
    simp only [u76_41, u76_43, u76_44, q_push_s, q_push_n, q_sm_0, q_sm_i, q_sm_r, q_sm_n, q_sm_l, q_c1_0, q_c1_i, q_c1_r, q_c1_n, Nat.zero_add, Nat.reduceAdd, Nat.reduceMul, Nat.reduceSub, Nat.reduceLeDiff, Nat.reduceLT, Nat.reduceEqDiff, true_and, and_true, not_false_eq_true, if_true, if_false, ite_true, ite_false, or_true, true_or, or_false, false_or, not_true_eq_false, eq_self, lq_0_1, lq_0_2, lq_0_3, lq_0_4, lq_0_5, lq_0_6, lq_1_0, lq_1_2, lq_1_3, lq_1_4, lq_1_5, lq_1_6, lq_2_0, lq_2_1, lq_2_3, lq_2_4, lq_2_5, lq_2_6, lq_3_0, lq_3_1, lq_3_2, lq_3_4, lq_3_5, lq_3_6, lq_4_0, lq_4_1, lq_4_2, lq_4_3, lq_4_5, lq_4_6, lq_5_0, lq_5_1, lq_5_2, lq_5_3, lq_5_4, lq_5_6, lq_6_0, lq_6_1, lq_6_2, lq_6_3, lq_6_4, lq_6_5, ll_0_0, ll_0_1, ll_0_2, ll_0_3, ll_0_4, ll_0_5, ll_0_6, ll_1_0, ll_1_1, ll_1_2, ll_1_3, ll_1_4, ll_1_5, ll_1_6, ll_2_0, ll_2_1, ll_2_2, ll_2_3, ll_2_4, ll_2_5, ll_2_6, ll_3_0, ll_3_1, ll_3_2, ll_3_3, ll_3_4, ll_3_5, ll_3_6, ll_4_0, ll_4_1, ll_4_2, ll_4_3, ll_4_4, ll_4_5, ll_4_6, ll_5_0, ll_5_1, ll_5_2, ll_5_3, ll_5_4, ll_5_5, ll_5_6, ll_6_0, ll_6_1, ll_6_2, ll_6_3, ll_6_4, ll_6_5, ll_6_6, le_0_0, le_0_1, le_0_2, le_0_3, le_0_4, le_0_5, le_0_6, le_1_0, le_1_1, le_1_2, le_1_3, le_1_4, le_1_5, le_1_6, le_2_0, le_2_1, le_2_2, le_2_3, le_2_4, le_2_5, le_2_6, le_3_0, le_3_1, le_3_2, le_3_3, le_3_4, le_3_5, le_3_6, le_4_0, le_4_1, le_4_2, le_4_3, le_4_4, le_4_5, le_4_6, le_5_0, le_5_1, le_5_2, le_5_3, le_5_4, le_5_5, le_5_6, le_6_0, le_6_1, le_6_2, le_6_3, le_6_4, le_6_5, le_6_6]
    exact hK m (FU.refl m) x6
  | c + 1, j, a, m, x6, hj, l, ht, hK => by
    have h6 := l.bz.1
    have hj4 : j < 4 := by omega
    have hmj : mt / 2 ^ j ≤ mt := Nat.div_le_self _ _
    have n_and1 : nI (mt / 2 ^ j) &&& nI 1 = nI (mt / 2 ^ j % 2) := pk_andN (by omega) 1 (by decide +kernel)
    have e0 := n_eq (i := mt / 2 ^ j % 2) (j := 0) (by omega) (by decide)
    have hor := z_or16 mt hm j hj4
    rw [show z_nx (z_fit tx s) mt (c + 1) j a = z_nx (z_fit tx s) mt c (j + 1) (if mt / 2 ^ j % 2 = 0 then (if a.1 = (-1 : Int32) ∨ nI (z_fit tx s (mt ||| 2 ^ j)) < a.2 then (nI j, nI (z_fit tx s (mt ||| 2 ^ j))) else a) else a) from rfl] at hK
    rw [u76_41]
    by_cases q : mt / 2 ^ j % 2 = 0
    · rw [if_pos q] at hK
      simp only [u76_43, u76_44, u76_47, u76_48, u76_50, u76_51, u76_52, u76_53, u76_56, u76_59, u76_60, u76_63, u76_64, u76_65, u76_67, u76_68, u76_69, q_push_s, q_push_n, q_sm_0, q_sm_i, q_sm_r, q_sm_n, q_sm_l, q_c1_0, q_c1_i, q_c1_r, q_c1_n, Nat.zero_add, Nat.reduceAdd, Nat.reduceMul, Nat.reduceSub, Nat.reduceLeDiff, Nat.reduceLT, Nat.reduceEqDiff, true_and, and_true, not_false_eq_true, if_true, if_false, ite_true, ite_false, or_true, true_or, or_false, false_or, not_true_eq_false, n_lt (i := j) (j := 4) (by omega) (by decide), hj4, n_shr (a := mt) (k := j) (by omega) (by omega), n_and1, e0, q, gf0_0, io1, n_s1 j (by omega), n_or, Nat.zero_le, Nat.reduceLeDiff]
      refine l.fitting (d := d) hor ht (fun m1 f1 g17 g16 => ?_)
      have fu1 : FU m m1 := fun k hk => f1 k (by omega) (by omega)
      have l1 := l.fu fu1
      have ht1 : ∀ g, g < s.1 0 → ∀ o, o < s.1 0 → m1 15 (g * 6 + o) = nI (z_lk tx s g o 4) := fun g hg o ho => by rw [f1 15 (by decide) (by decide)]; exact ht g hg o ho
      by_cases q1 : a.1 = (-1 : Int32)
      · rw [if_pos (Or.inl q1)] at hK
        simp only [u76_72, u76_74, u76_75, u76_76, u76_79, u76_81, u76_83, u76_86, u76_88, u76_89, u76_91, u76_93, u76_96, q_push_s, q_push_n, q_sm_0, q_sm_i, q_sm_r, q_sm_n, q_sm_l, q_c1_0, q_c1_i, q_c1_r, q_c1_n, Nat.zero_add, Nat.reduceAdd, Nat.reduceMul, Nat.reduceSub, Nat.reduceLeDiff, Nat.reduceLT, Nat.reduceEqDiff, true_and, and_true, not_false_eq_true, if_true, if_false, ite_true, ite_false, or_true, true_or, or_false, false_or, not_true_eq_false, q1, n_add]
        exact l_next hm x2 d c (j + 1) (nI j, nI (z_fit tx s (mt ||| 2 ^ j))) m1 _ (by omega) l1 ht1 (fun m' f' => hK m' (fu1.trans f'))
      · by_cases q2 : nI (z_fit tx s (mt ||| 2 ^ j)) < a.2
        · rw [if_pos (Or.inr q2)] at hK
          simp only [u76_72, u76_74, u76_75, u76_76, u76_79, u76_81, u76_83, u76_86, u76_88, u76_89, u76_91, u76_93, u76_96, q_push_s, q_push_n, q_sm_0, q_sm_i, q_sm_r, q_sm_n, q_sm_l, q_c1_0, q_c1_i, q_c1_r, q_c1_n, Nat.zero_add, Nat.reduceAdd, Nat.reduceMul, Nat.reduceSub, Nat.reduceLeDiff, Nat.reduceLT, Nat.reduceEqDiff, true_and, and_true, not_false_eq_true, if_true, if_false, ite_true, ite_false, or_true, true_or, or_false, false_or, not_true_eq_false, q1, q2, n_add]
          exact l_next hm x2 d c (j + 1) (nI j, nI (z_fit tx s (mt ||| 2 ^ j))) m1 _ (by omega) l1 ht1 (fun m' f' => hK m' (fu1.trans f'))
        · rw [if_neg (fun e => e.elim q1 q2)] at hK
          simp only [u76_72, u76_74, u76_75, u76_76, u76_79, u76_81, u76_83, u76_86, u76_88, u76_89, u76_91, u76_93, u76_96, q_push_s, q_push_n, q_sm_0, q_sm_i, q_sm_r, q_sm_n, q_sm_l, q_c1_0, q_c1_i, q_c1_r, q_c1_n, Nat.zero_add, Nat.reduceAdd, Nat.reduceMul, Nat.reduceSub, Nat.reduceLeDiff, Nat.reduceLT, Nat.reduceEqDiff, true_and, and_true, not_false_eq_true, if_true, if_false, ite_true, ite_false, or_true, true_or, or_false, false_or, not_true_eq_false, q1, q2, n_add]
          exact l_next hm x2 d c (j + 1) a m1 _ (by omega) l1 ht1 (fun m' f' => hK m' (fu1.trans f'))
    · rw [if_neg q] at hK
      simp only [u76_43, u76_44, u76_47, u76_48, u76_50, u76_51, u76_52, u76_53, u76_56, u76_93, u76_96, q_push_s, q_push_n, q_sm_0, q_sm_i, q_sm_r, q_sm_n, q_sm_l, q_c1_0, q_c1_i, q_c1_r, q_c1_n, Nat.zero_add, Nat.reduceAdd, Nat.reduceMul, Nat.reduceSub, Nat.reduceLeDiff, Nat.reduceLT, Nat.reduceEqDiff, true_and, and_true, not_false_eq_true, if_true, if_false, ite_true, ite_false, or_true, true_or, or_false, false_or, not_true_eq_false, n_lt (i := j) (j := 4) (by omega) (by decide), hj4, n_shr (a := mt) (k := j) (by omega) (by omega), n_and1, e0, q, n_add]
      exact l_next hm x2 d c (j + 1) a m _ (by omega) l ht hK
theorem l_next8 {mt : Nat} (hm : mt < 16) (x2 : Int32) (d : Nat) : ∀ c j (a : Int32 × Int32) m x6 x7, q_c1 x6 = true → j + c = 4 → RJ s tx n h m → (∀ m', FV m m' → ∀ x6 x7, q_R 166 123 (d + 7) [some (.ref 38), some (.int (nI mt)), some (.int x2), some (.int (z_nx (z_fit tx s) mt c j a).1), some (.int (z_nx (z_fit tx s) mt c j a).2), some (.int (nI 4)), x6, x7] [] (GG T L) m' K) →
    q_R 166 45 (d + 7) [some (.ref 38), some (.int (nI mt)), some (.int x2), some (.int a.1), some (.int a.2), some (.int (nI j)), x6, x7] [] (GG T L) m K
  | 0, j, a, m, x6, x7, h6', hj, l, hK => by
    have e : j = 4 := by omega
    subst e
    simp only [u166_45, u166_47, u166_48, q_push_s, q_push_n, q_sm_0, q_sm_i, q_sm_r, q_sm_n, q_sm_l, q_c1_0, q_c1_i, q_c1_r, q_c1_n, Nat.zero_add, Nat.reduceAdd, Nat.reduceMul, Nat.reduceSub, Nat.reduceLeDiff, Nat.reduceLT, Nat.reduceEqDiff, true_and, and_true, not_false_eq_true, if_true, if_false, ite_true, ite_false, or_true, true_or, or_false, false_or, not_true_eq_false, eq_self, lq_0_1, lq_0_2, lq_0_3, lq_0_4, lq_0_5, lq_0_6, lq_1_0, lq_1_2, lq_1_3, lq_1_4, lq_1_5, lq_1_6, lq_2_0, lq_2_1, lq_2_3, lq_2_4, lq_2_5, lq_2_6, lq_3_0, lq_3_1, lq_3_2, lq_3_4, lq_3_5, lq_3_6, lq_4_0, lq_4_1, lq_4_2, lq_4_3, lq_4_5, lq_4_6, lq_5_0, lq_5_1, lq_5_2, lq_5_3, lq_5_4, lq_5_6, lq_6_0, lq_6_1, lq_6_2, lq_6_3, lq_6_4, lq_6_5, ll_0_0, ll_0_1, ll_0_2, ll_0_3, ll_0_4, ll_0_5, ll_0_6, ll_1_0, ll_1_1, ll_1_2, ll_1_3, ll_1_4, ll_1_5, ll_1_6, ll_2_0, ll_2_1, ll_2_2, ll_2_3, ll_2_4, ll_2_5, ll_2_6, ll_3_0, ll_3_1, ll_3_2, ll_3_3, ll_3_4, ll_3_5, ll_3_6, ll_4_0, ll_4_1, ll_4_2, ll_4_3, ll_4_4, ll_4_5, ll_4_6, ll_5_0, ll_5_1, ll_5_2, ll_5_3, ll_5_4, ll_5_5, ll_5_6, ll_6_0, ll_6_1, ll_6_2, ll_6_3, ll_6_4, ll_6_5, ll_6_6, le_0_0, le_0_1, le_0_2, le_0_3, le_0_4, le_0_5, le_0_6, le_1_0, le_1_1, le_1_2, le_1_3, le_1_4, le_1_5, le_1_6, le_2_0, le_2_1, le_2_2, le_2_3, le_2_4, le_2_5, le_2_6, le_3_0, le_3_1, le_3_2, le_3_3, le_3_4, le_3_5, le_3_6, le_4_0, le_4_1, le_4_2, le_4_3, le_4_4, le_4_5, le_4_6, le_5_0, le_5_1, le_5_2, le_5_3, le_5_4, le_5_5, le_5_6, le_6_0, le_6_1, le_6_2, le_6_3, le_6_4, le_6_5, le_6_6]
    exact hK m (FV.refl m) x6 x7
  | c + 1, j, a, m, x6, x7, h6', hj, l, hK => by
    have h6 := l.bz.1
    have hj4 : j < 4 := by omega
    have hmj : mt / 2 ^ j ≤ mt := Nat.div_le_self _ _
    have n_and1 : nI (mt / 2 ^ j) &&& nI 1 = nI (mt / 2 ^ j % 2) := pk_andN (by omega) 1 (by decide +kernel)
    have e0 := n_eq (i := mt / 2 ^ j % 2) (j := 0) (by omega) (by decide)
    have hor := z_or16 mt hm j hj4
    rw [show z_nx (z_fit tx s) mt (c + 1) j a = z_nx (z_fit tx s) mt c (j + 1) (if mt / 2 ^ j % 2 = 0 then (if a.1 = (-1 : Int32) ∨ nI (z_fit tx s (mt ||| 2 ^ j)) < a.2 then (nI j, nI (z_fit tx s (mt ||| 2 ^ j))) else a) else a) from rfl] at hK
    rw [u166_45]
    by_cases q : mt / 2 ^ j % 2 = 0
    · rw [if_pos q] at hK
      simp only [u166_47, u166_48, u166_51, u166_52, u166_54, u166_55, u166_56, u166_57, u166_60, u166_61, u166_62, u166_63, u166_65, u166_66, u166_67, q_push_s, q_push_n, q_sm_0, q_sm_i, q_sm_r, q_sm_n, q_sm_l, q_c1_0, q_c1_i, q_c1_r, q_c1_n, Nat.zero_add, Nat.reduceAdd, Nat.reduceMul, Nat.reduceSub, Nat.reduceLeDiff, Nat.reduceLT, Nat.reduceEqDiff, true_and, and_true, not_false_eq_true, if_true, if_false, ite_true, ite_false, or_true, true_or, or_false, false_or, not_true_eq_false, n_lt (i := j) (j := 4) (by omega) (by decide), hj4, n_shr (a := mt) (k := j) (by omega) (by omega), n_and1, e0, q, io38, n_s1 j (by omega), n_or, Nat.zero_le, Nat.reduceLeDiff]
      refine l.fitMany (d := d) hor (fun m1 f1 l1 _ => ?_)
      by_cases q1 : a.1 = (-1 : Int32)
      · rw [if_pos (Or.inl q1)] at hK
        simp only [u166_70, u166_72, u166_73, u166_74, u166_77, u166_79, u166_81, u166_84, u166_85, u166_88, u166_89, u166_91, u166_93, u166_96, u166_98, u166_101, u166_102, u166_103, u166_105, u166_108, u166_110, u166_113, u166_115, u166_117, u166_120, q_push_s, q_push_n, q_sm_0, q_sm_i, q_sm_r, q_sm_n, q_sm_l, q_c1_0, q_c1_i, q_c1_r, q_c1_n, Nat.zero_add, Nat.reduceAdd, Nat.reduceMul, Nat.reduceSub, Nat.reduceLeDiff, Nat.reduceLT, Nat.reduceEqDiff, true_and, and_true, not_false_eq_true, if_true, if_false, ite_true, ite_false, or_true, true_or, or_false, false_or, not_true_eq_false, eq_self, lq_0_1, lq_0_2, lq_0_3, lq_0_4, lq_0_5, lq_0_6, lq_1_0, lq_1_2, lq_1_3, lq_1_4, lq_1_5, lq_1_6, lq_2_0, lq_2_1, lq_2_3, lq_2_4, lq_2_5, lq_2_6, lq_3_0, lq_3_1, lq_3_2, lq_3_4, lq_3_5, lq_3_6, lq_4_0, lq_4_1, lq_4_2, lq_4_3, lq_4_5, lq_4_6, lq_5_0, lq_5_1, lq_5_2, lq_5_3, lq_5_4, lq_5_6, lq_6_0, lq_6_1, lq_6_2, lq_6_3, lq_6_4, lq_6_5, ll_0_0, ll_0_1, ll_0_2, ll_0_3, ll_0_4, ll_0_5, ll_0_6, ll_1_0, ll_1_1, ll_1_2, ll_1_3, ll_1_4, ll_1_5, ll_1_6, ll_2_0, ll_2_1, ll_2_2, ll_2_3, ll_2_4, ll_2_5, ll_2_6, ll_3_0, ll_3_1, ll_3_2, ll_3_3, ll_3_4, ll_3_5, ll_3_6, ll_4_0, ll_4_1, ll_4_2, ll_4_3, ll_4_4, ll_4_5, ll_4_6, ll_5_0, ll_5_1, ll_5_2, ll_5_3, ll_5_4, ll_5_5, ll_5_6, ll_6_0, ll_6_1, ll_6_2, ll_6_3, ll_6_4, ll_6_5, ll_6_6, le_0_0, le_0_1, le_0_2, le_0_3, le_0_4, le_0_5, le_0_6, le_1_0, le_1_1, le_1_2, le_1_3, le_1_4, le_1_5, le_1_6, le_2_0, le_2_1, le_2_2, le_2_3, le_2_4, le_2_5, le_2_6, le_3_0, le_3_1, le_3_2, le_3_3, le_3_4, le_3_5, le_3_6, le_4_0, le_4_1, le_4_2, le_4_3, le_4_4, le_4_5, le_4_6, le_5_0, le_5_1, le_5_2, le_5_3, le_5_4, le_5_5, le_5_6, le_6_0, le_6_1, le_6_2, le_6_3, le_6_4, le_6_5, le_6_6, q1, n_add]
        exact l_next8 hm x2 d c (j + 1) (nI j, nI (z_fit tx s (mt ||| 2 ^ j))) m1 _ _ (of_eq_true (q_c1_i _)) (by omega) l1 (fun m' f' => hK m' (f1.trans f'))
      · by_cases q2 : nI (z_fit tx s (mt ||| 2 ^ j)) < a.2
        · rw [if_pos (Or.inr q2)] at hK
          simp only [u166_70, u166_72, u166_73, u166_74, u166_77, u166_79, u166_81, u166_84, u166_85, u166_88, u166_89, u166_91, u166_93, u166_96, u166_98, u166_101, u166_102, u166_103, u166_105, u166_108, u166_110, u166_113, u166_115, u166_117, u166_120, q_push_s, q_push_n, q_sm_0, q_sm_i, q_sm_r, q_sm_n, q_sm_l, q_c1_0, q_c1_i, q_c1_r, q_c1_n, Nat.zero_add, Nat.reduceAdd, Nat.reduceMul, Nat.reduceSub, Nat.reduceLeDiff, Nat.reduceLT, Nat.reduceEqDiff, true_and, and_true, not_false_eq_true, if_true, if_false, ite_true, ite_false, or_true, true_or, or_false, false_or, not_true_eq_false, eq_self, lq_0_1, lq_0_2, lq_0_3, lq_0_4, lq_0_5, lq_0_6, lq_1_0, lq_1_2, lq_1_3, lq_1_4, lq_1_5, lq_1_6, lq_2_0, lq_2_1, lq_2_3, lq_2_4, lq_2_5, lq_2_6, lq_3_0, lq_3_1, lq_3_2, lq_3_4, lq_3_5, lq_3_6, lq_4_0, lq_4_1, lq_4_2, lq_4_3, lq_4_5, lq_4_6, lq_5_0, lq_5_1, lq_5_2, lq_5_3, lq_5_4, lq_5_6, lq_6_0, lq_6_1, lq_6_2, lq_6_3, lq_6_4, lq_6_5, ll_0_0, ll_0_1, ll_0_2, ll_0_3, ll_0_4, ll_0_5, ll_0_6, ll_1_0, ll_1_1, ll_1_2, ll_1_3, ll_1_4, ll_1_5, ll_1_6, ll_2_0, ll_2_1, ll_2_2, ll_2_3, ll_2_4, ll_2_5, ll_2_6, ll_3_0, ll_3_1, ll_3_2, ll_3_3, ll_3_4, ll_3_5, ll_3_6, ll_4_0, ll_4_1, ll_4_2, ll_4_3, ll_4_4, ll_4_5, ll_4_6, ll_5_0, ll_5_1, ll_5_2, ll_5_3, ll_5_4, ll_5_5, ll_5_6, ll_6_0, ll_6_1, ll_6_2, ll_6_3, ll_6_4, ll_6_5, ll_6_6, le_0_0, le_0_1, le_0_2, le_0_3, le_0_4, le_0_5, le_0_6, le_1_0, le_1_1, le_1_2, le_1_3, le_1_4, le_1_5, le_1_6, le_2_0, le_2_1, le_2_2, le_2_3, le_2_4, le_2_5, le_2_6, le_3_0, le_3_1, le_3_2, le_3_3, le_3_4, le_3_5, le_3_6, le_4_0, le_4_1, le_4_2, le_4_3, le_4_4, le_4_5, le_4_6, le_5_0, le_5_1, le_5_2, le_5_3, le_5_4, le_5_5, le_5_6, le_6_0, le_6_1, le_6_2, le_6_3, le_6_4, le_6_5, le_6_6, q1, q2, n_add]
          exact l_next8 hm x2 d c (j + 1) (nI j, nI (z_fit tx s (mt ||| 2 ^ j))) m1 _ _ (of_eq_true (q_c1_i _)) (by omega) l1 (fun m' f' => hK m' (f1.trans f'))
        · rw [if_neg (fun e => e.elim q1 q2)] at hK
          simp only [u166_70, u166_72, u166_73, u166_74, u166_77, u166_79, u166_81, u166_84, u166_85, u166_88, u166_89, u166_91, u166_93, u166_96, u166_98, u166_101, u166_102, u166_103, u166_105, u166_108, u166_110, u166_113, u166_115, u166_117, u166_120, q_push_s, q_push_n, q_sm_0, q_sm_i, q_sm_r, q_sm_n, q_sm_l, q_c1_0, q_c1_i, q_c1_r, q_c1_n, Nat.zero_add, Nat.reduceAdd, Nat.reduceMul, Nat.reduceSub, Nat.reduceLeDiff, Nat.reduceLT, Nat.reduceEqDiff, true_and, and_true, not_false_eq_true, if_true, if_false, ite_true, ite_false, or_true, true_or, or_false, false_or, not_true_eq_false, eq_self, lq_0_1, lq_0_2, lq_0_3, lq_0_4, lq_0_5, lq_0_6, lq_1_0, lq_1_2, lq_1_3, lq_1_4, lq_1_5, lq_1_6, lq_2_0, lq_2_1, lq_2_3, lq_2_4, lq_2_5, lq_2_6, lq_3_0, lq_3_1, lq_3_2, lq_3_4, lq_3_5, lq_3_6, lq_4_0, lq_4_1, lq_4_2, lq_4_3, lq_4_5, lq_4_6, lq_5_0, lq_5_1, lq_5_2, lq_5_3, lq_5_4, lq_5_6, lq_6_0, lq_6_1, lq_6_2, lq_6_3, lq_6_4, lq_6_5, ll_0_0, ll_0_1, ll_0_2, ll_0_3, ll_0_4, ll_0_5, ll_0_6, ll_1_0, ll_1_1, ll_1_2, ll_1_3, ll_1_4, ll_1_5, ll_1_6, ll_2_0, ll_2_1, ll_2_2, ll_2_3, ll_2_4, ll_2_5, ll_2_6, ll_3_0, ll_3_1, ll_3_2, ll_3_3, ll_3_4, ll_3_5, ll_3_6, ll_4_0, ll_4_1, ll_4_2, ll_4_3, ll_4_4, ll_4_5, ll_4_6, ll_5_0, ll_5_1, ll_5_2, ll_5_3, ll_5_4, ll_5_5, ll_5_6, ll_6_0, ll_6_1, ll_6_2, ll_6_3, ll_6_4, ll_6_5, ll_6_6, le_0_0, le_0_1, le_0_2, le_0_3, le_0_4, le_0_5, le_0_6, le_1_0, le_1_1, le_1_2, le_1_3, le_1_4, le_1_5, le_1_6, le_2_0, le_2_1, le_2_2, le_2_3, le_2_4, le_2_5, le_2_6, le_3_0, le_3_1, le_3_2, le_3_3, le_3_4, le_3_5, le_3_6, le_4_0, le_4_1, le_4_2, le_4_3, le_4_4, le_4_5, le_4_6, le_5_0, le_5_1, le_5_2, le_5_3, le_5_4, le_5_5, le_5_6, le_6_0, le_6_1, le_6_2, le_6_3, le_6_4, le_6_5, le_6_6, q1, q2, n_add]
          exact l_next8 hm x2 d c (j + 1) a m1 _ _ (of_eq_true (q_c1_i _)) (by omega) l1 (fun m' f' => hK m' (f1.trans f'))
    · rw [if_neg q] at hK
      simp only [u166_47, u166_48, u166_51, u166_52, u166_54, u166_55, u166_56, u166_57, u166_117, u166_120, q_push_s, q_push_n, q_sm_0, q_sm_i, q_sm_r, q_sm_n, q_sm_l, q_c1_0, q_c1_i, q_c1_r, q_c1_n, Nat.zero_add, Nat.reduceAdd, Nat.reduceMul, Nat.reduceSub, Nat.reduceLeDiff, Nat.reduceLT, Nat.reduceEqDiff, true_and, and_true, not_false_eq_true, if_true, if_false, ite_true, ite_false, or_true, true_or, or_false, false_or, not_true_eq_false, n_lt (i := j) (j := 4) (by omega) (by decide), hj4, n_shr (a := mt) (k := j) (by omega) (by omega), n_and1, e0, q, n_add]
      exact l_next8 hm x2 d c (j + 1) a m _ _ h6' (by omega) l hK
theorem l_few (d : Nat) : ∀ c i b m x4, i + c = 15 → (b = 15 ∨ b < i) → CJ T L s tx n h m → (∀ g, g < s.1 0 → ∀ o, o < s.1 0 → m 15 (g * 6 + o) = nI (z_lk tx s g o 4)) → (∀ m', FU m m' → K (some (.int (nI (z_fw (z_fit tx s) c i b)))) (GG T L) m') →
    q_R 77 22 (d + 3) [some (.ref 0), some (.int (nI (z_fit tx s 15))), some (.int (nI b)), some (.int (nI i)), x4] [] (GG T L) m K
  | 0, i, b, m, x4, hi, hb, l, ht, hK => by
    have e : i = 15 := by omega
    subst e
    simp only [u77_22, u77_23, u77_25, u77_71, u77_72, q_push_s, q_push_n, q_sm_0, q_sm_i, q_sm_r, q_sm_n, q_sm_l, q_c1_0, q_c1_i, q_c1_r, q_c1_n, Nat.zero_add, Nat.reduceAdd, Nat.reduceMul, Nat.reduceSub, Nat.reduceLeDiff, Nat.reduceLT, Nat.reduceEqDiff, true_and, and_true, not_false_eq_true, if_true, if_false, ite_true, ite_false, or_true, true_or, or_false, false_or, not_true_eq_false, n_lt (i := 15) (j := 15) (by decide) (by decide), Nat.lt_irrefl]
    exact hK m (FU.refl m)
  | c + 1, i, b, m, x4, hi, hb, l, ht, hK => by
    have h6 := l.bz.1
    have hi15 : i < 15 := by omega
    have p1 := (z_pop15 i (by omega)).1
    have p2 := (z_pop15 b (by omega)).1
    have hb1 := z_fit_b (tx := tx) (s := s) i h6
    have hb2 := z_fit_b (tx := tx) (s := s) 15 h6
    rw [show z_fw (z_fit tx s) (c + 1) i b = z_fw (z_fit tx s) c (i + 1) (if z_pop i < z_pop b ∧ z_fit tx s i = z_fit tx s 15 then i else b) from rfl] at hK
    rw [u77_22]
    by_cases q : z_pop i < z_pop b
    · simp only [u77_23, u77_25, u77_28, u77_29, u77_32, u77_33, u77_36, u77_39, u77_40, u77_43, u77_44, u77_46, u77_48, u77_51, u77_52, u77_55, u77_56, q_push_s, q_push_n, q_sm_0, q_sm_i, q_sm_r, q_sm_n, q_sm_l, q_c1_0, q_c1_i, q_c1_r, q_c1_n, Nat.zero_add, Nat.reduceAdd, Nat.reduceMul, Nat.reduceSub, Nat.reduceLeDiff, Nat.reduceLT, Nat.reduceEqDiff, true_and, and_true, not_false_eq_true, if_true, if_false, ite_true, ite_false, or_true, true_or, or_false, false_or, not_true_eq_false, eq_self, lq_0_1, lq_0_2, lq_0_3, lq_0_4, lq_0_5, lq_0_6, lq_1_0, lq_1_2, lq_1_3, lq_1_4, lq_1_5, lq_1_6, lq_2_0, lq_2_1, lq_2_3, lq_2_4, lq_2_5, lq_2_6, lq_3_0, lq_3_1, lq_3_2, lq_3_4, lq_3_5, lq_3_6, lq_4_0, lq_4_1, lq_4_2, lq_4_3, lq_4_5, lq_4_6, lq_5_0, lq_5_1, lq_5_2, lq_5_3, lq_5_4, lq_5_6, lq_6_0, lq_6_1, lq_6_2, lq_6_3, lq_6_4, lq_6_5, ll_0_0, ll_0_1, ll_0_2, ll_0_3, ll_0_4, ll_0_5, ll_0_6, ll_1_0, ll_1_1, ll_1_2, ll_1_3, ll_1_4, ll_1_5, ll_1_6, ll_2_0, ll_2_1, ll_2_2, ll_2_3, ll_2_4, ll_2_5, ll_2_6, ll_3_0, ll_3_1, ll_3_2, ll_3_3, ll_3_4, ll_3_5, ll_3_6, ll_4_0, ll_4_1, ll_4_2, ll_4_3, ll_4_4, ll_4_5, ll_4_6, ll_5_0, ll_5_1, ll_5_2, ll_5_3, ll_5_4, ll_5_5, ll_5_6, ll_6_0, ll_6_1, ll_6_2, ll_6_3, ll_6_4, ll_6_5, ll_6_6, le_0_0, le_0_1, le_0_2, le_0_3, le_0_4, le_0_5, le_0_6, le_1_0, le_1_1, le_1_2, le_1_3, le_1_4, le_1_5, le_1_6, le_2_0, le_2_1, le_2_2, le_2_3, le_2_4, le_2_5, le_2_6, le_3_0, le_3_1, le_3_2, le_3_3, le_3_4, le_3_5, le_3_6, le_4_0, le_4_1, le_4_2, le_4_3, le_4_4, le_4_5, le_4_6, le_5_0, le_5_1, le_5_2, le_5_3, le_5_4, le_5_5, le_5_6, le_6_0, le_6_1, le_6_2, le_6_3, le_6_4, le_6_5, le_6_6, n_lt (i := i) (j := 15) (by omega) (by decide), hi15, c_bits (v := i) (by omega), c_bits (v := b) (by omega), n_lt (i := z_pop i) (j := z_pop b) (by omega) (by omega), q, gf0_0, io1, Nat.zero_le, Nat.reduceLeDiff]
      refine l.fitting (d := d) (by omega) ht (fun m1 f1 g17 g16 => ?_)
      have fu1 : FU m m1 := fun k hk => f1 k (by omega) (by omega)
      have l1 := l.fu fu1
      have ht1 : ∀ g, g < s.1 0 → ∀ o, o < s.1 0 → m1 15 (g * 6 + o) = nI (z_lk tx s g o 4) := fun g hg o ho => by rw [f1 15 (by decide) (by decide)]; exact ht g hg o ho
      by_cases q2 : z_fit tx s i = z_fit tx s 15
      · rw [if_pos ⟨q, q2⟩] at hK
        simp only [u77_59, u77_60, u77_63, u77_64, u77_65, u77_68, q_push_s, q_push_n, q_sm_0, q_sm_i, q_sm_r, q_sm_n, q_sm_l, q_c1_0, q_c1_i, q_c1_r, q_c1_n, Nat.zero_add, Nat.reduceAdd, Nat.reduceMul, Nat.reduceSub, Nat.reduceLeDiff, Nat.reduceLT, Nat.reduceEqDiff, true_and, and_true, not_false_eq_true, if_true, if_false, ite_true, ite_false, or_true, true_or, or_false, false_or, not_true_eq_false, q2, n_add]
        exact l_few d c (i + 1) i m1 _ (by omega) (Or.inr (by omega)) l1 ht1 (fun m' f' => hK m' (fu1.trans f'))
      · rw [if_neg (fun e => q2 e.2)] at hK
        simp only [u77_59, u77_60, u77_63, u77_64, u77_65, u77_68, q_push_s, q_push_n, q_sm_0, q_sm_i, q_sm_r, q_sm_n, q_sm_l, q_c1_0, q_c1_i, q_c1_r, q_c1_n, Nat.zero_add, Nat.reduceAdd, Nat.reduceMul, Nat.reduceSub, Nat.reduceLeDiff, Nat.reduceLT, Nat.reduceEqDiff, true_and, and_true, not_false_eq_true, if_true, if_false, ite_true, ite_false, or_true, true_or, or_false, false_or, not_true_eq_false, n_eq (i := z_fit tx s i) (j := z_fit tx s 15) hb1 hb2, q2, n_add]
        exact l_few d c (i + 1) b m1 _ (by omega) (hb.elim Or.inl (fun e => Or.inr (by omega))) l1 ht1 (fun m' f' => hK m' (fu1.trans f'))
    · rw [if_neg (fun e => q e.1)] at hK
      simp only [u77_23, u77_25, u77_28, u77_29, u77_32, u77_33, u77_36, u77_39, u77_40, u77_43, u77_44, u77_46, u77_48, u77_65, u77_68, q_push_s, q_push_n, q_sm_0, q_sm_i, q_sm_r, q_sm_n, q_sm_l, q_c1_0, q_c1_i, q_c1_r, q_c1_n, Nat.zero_add, Nat.reduceAdd, Nat.reduceMul, Nat.reduceSub, Nat.reduceLeDiff, Nat.reduceLT, Nat.reduceEqDiff, true_and, and_true, not_false_eq_true, if_true, if_false, ite_true, ite_false, or_true, true_or, or_false, false_or, not_true_eq_false, eq_self, lq_0_1, lq_0_2, lq_0_3, lq_0_4, lq_0_5, lq_0_6, lq_1_0, lq_1_2, lq_1_3, lq_1_4, lq_1_5, lq_1_6, lq_2_0, lq_2_1, lq_2_3, lq_2_4, lq_2_5, lq_2_6, lq_3_0, lq_3_1, lq_3_2, lq_3_4, lq_3_5, lq_3_6, lq_4_0, lq_4_1, lq_4_2, lq_4_3, lq_4_5, lq_4_6, lq_5_0, lq_5_1, lq_5_2, lq_5_3, lq_5_4, lq_5_6, lq_6_0, lq_6_1, lq_6_2, lq_6_3, lq_6_4, lq_6_5, ll_0_0, ll_0_1, ll_0_2, ll_0_3, ll_0_4, ll_0_5, ll_0_6, ll_1_0, ll_1_1, ll_1_2, ll_1_3, ll_1_4, ll_1_5, ll_1_6, ll_2_0, ll_2_1, ll_2_2, ll_2_3, ll_2_4, ll_2_5, ll_2_6, ll_3_0, ll_3_1, ll_3_2, ll_3_3, ll_3_4, ll_3_5, ll_3_6, ll_4_0, ll_4_1, ll_4_2, ll_4_3, ll_4_4, ll_4_5, ll_4_6, ll_5_0, ll_5_1, ll_5_2, ll_5_3, ll_5_4, ll_5_5, ll_5_6, ll_6_0, ll_6_1, ll_6_2, ll_6_3, ll_6_4, ll_6_5, ll_6_6, le_0_0, le_0_1, le_0_2, le_0_3, le_0_4, le_0_5, le_0_6, le_1_0, le_1_1, le_1_2, le_1_3, le_1_4, le_1_5, le_1_6, le_2_0, le_2_1, le_2_2, le_2_3, le_2_4, le_2_5, le_2_6, le_3_0, le_3_1, le_3_2, le_3_3, le_3_4, le_3_5, le_3_6, le_4_0, le_4_1, le_4_2, le_4_3, le_4_4, le_4_5, le_4_6, le_5_0, le_5_1, le_5_2, le_5_3, le_5_4, le_5_5, le_5_6, le_6_0, le_6_1, le_6_2, le_6_3, le_6_4, le_6_5, le_6_6, n_lt (i := i) (j := 15) (by omega) (by decide), hi15, c_bits (v := i) (by omega), c_bits (v := b) (by omega), n_lt (i := z_pop i) (j := z_pop b) (by omega) (by omega), q, n_add, Nat.zero_le, Nat.reduceLeDiff]
      exact l_few d c (i + 1) b m _ (by omega) (hb.elim Or.inl (fun e => Or.inr (by omega))) l ht hK
theorem l_few8 (d : Nat) : ∀ c i b m x4, i + c = 16 → (b = 15 ∨ b < i) → RJ s tx n h m → (∀ m', FV m m' → K (some (.int (nI (z_fw (z_fit tx s) c i b)))) (GG T L) m') →
    q_R 167 12 (d + 7) [some (.ref 38), some (.int (nI (z_fit tx s 15))), some (.int (nI b)), some (.int (nI i)), x4] [] (GG T L) m K
  | 0, i, b, m, x4, hi, hb, l, hK => by
    have e : i = 16 := by omega
    subst e
    simp only [u167_12, u167_13, u167_15, u167_78, u167_79, q_push_s, q_push_n, q_sm_0, q_sm_i, q_sm_r, q_sm_n, q_sm_l, q_c1_0, q_c1_i, q_c1_r, q_c1_n, Nat.zero_add, Nat.reduceAdd, Nat.reduceMul, Nat.reduceSub, Nat.reduceLeDiff, Nat.reduceLT, Nat.reduceEqDiff, true_and, and_true, not_false_eq_true, if_true, if_false, ite_true, ite_false, or_true, true_or, or_false, false_or, not_true_eq_false, n_lt (i := 16) (j := 16) (by decide) (by decide), Nat.lt_irrefl]
    exact hK m (FV.refl m)
  | c + 1, i, b, m, x4, hi, hb, l, hK => by
    have h6 := l.bz.1
    have hi15 : i < 16 := by omega
    obtain ⟨p1, p3, p4⟩ := z_pop15 i (by omega)
    obtain ⟨p2, _, p5⟩ := z_pop15 b (by omega)
    have hb1 := z_fit_b (tx := tx) (s := s) i h6
    have hb2 := z_fit_b (tx := tx) (s := s) 15 h6
    rw [show z_fw (z_fit tx s) (c + 1) i b = z_fw (z_fit tx s) c (i + 1) (if z_pop i < z_pop b ∧ z_fit tx s i = z_fit tx s 15 then i else b) from rfl] at hK
    have el := n_lt (i := z_pop i) (j := z_pop b) (by omega) (by omega)
    have ee := n_eq (i := z_pop i) (j := z_pop b) (by omega) (by omega)
    have eb := n_lt (i := i) (j := b) (by omega) (by omega)
    rw [u167_12]
    by_cases q : z_pop i < z_pop b
    · simp only [u167_13, u167_15, u167_18, u167_19, u167_22, u167_23, u167_26, u167_29, u167_30, u167_33, u167_34, u167_37, u167_40, u167_41, u167_42, u167_45, u167_46, u167_49, u167_50, u167_52, u167_54, u167_57, u167_58, u167_59, q_push_s, q_push_n, q_sm_0, q_sm_i, q_sm_r, q_sm_n, q_sm_l, q_c1_0, q_c1_i, q_c1_r, q_c1_n, Nat.zero_add, Nat.reduceAdd, Nat.reduceMul, Nat.reduceSub, Nat.reduceLeDiff, Nat.reduceLT, Nat.reduceEqDiff, true_and, and_true, not_false_eq_true, if_true, if_false, ite_true, ite_false, or_true, true_or, or_false, false_or, not_true_eq_false, eq_self, lq_0_1, lq_0_2, lq_0_3, lq_0_4, lq_0_5, lq_0_6, lq_1_0, lq_1_2, lq_1_3, lq_1_4, lq_1_5, lq_1_6, lq_2_0, lq_2_1, lq_2_3, lq_2_4, lq_2_5, lq_2_6, lq_3_0, lq_3_1, lq_3_2, lq_3_4, lq_3_5, lq_3_6, lq_4_0, lq_4_1, lq_4_2, lq_4_3, lq_4_5, lq_4_6, lq_5_0, lq_5_1, lq_5_2, lq_5_3, lq_5_4, lq_5_6, lq_6_0, lq_6_1, lq_6_2, lq_6_3, lq_6_4, lq_6_5, ll_0_0, ll_0_1, ll_0_2, ll_0_3, ll_0_4, ll_0_5, ll_0_6, ll_1_0, ll_1_1, ll_1_2, ll_1_3, ll_1_4, ll_1_5, ll_1_6, ll_2_0, ll_2_1, ll_2_2, ll_2_3, ll_2_4, ll_2_5, ll_2_6, ll_3_0, ll_3_1, ll_3_2, ll_3_3, ll_3_4, ll_3_5, ll_3_6, ll_4_0, ll_4_1, ll_4_2, ll_4_3, ll_4_4, ll_4_5, ll_4_6, ll_5_0, ll_5_1, ll_5_2, ll_5_3, ll_5_4, ll_5_5, ll_5_6, ll_6_0, ll_6_1, ll_6_2, ll_6_3, ll_6_4, ll_6_5, ll_6_6, le_0_0, le_0_1, le_0_2, le_0_3, le_0_4, le_0_5, le_0_6, le_1_0, le_1_1, le_1_2, le_1_3, le_1_4, le_1_5, le_1_6, le_2_0, le_2_1, le_2_2, le_2_3, le_2_4, le_2_5, le_2_6, le_3_0, le_3_1, le_3_2, le_3_3, le_3_4, le_3_5, le_3_6, le_4_0, le_4_1, le_4_2, le_4_3, le_4_4, le_4_5, le_4_6, le_5_0, le_5_1, le_5_2, le_5_3, le_5_4, le_5_5, le_5_6, le_6_0, le_6_1, le_6_2, le_6_3, le_6_4, le_6_5, le_6_6, n_lt (i := i) (j := 16) (by omega) (by decide), hi15, c_ones (v := i) (by omega), c_ones (v := b) (by omega), el, q, io38, Nat.zero_le, Nat.reduceLeDiff]
      refine l.fitMany (d := d) (by omega) (fun m1 f1 l1 _ => ?_)
      by_cases q2 : z_fit tx s i = z_fit tx s 15
      · rw [if_pos ⟨q, q2⟩] at hK
        simp only [u167_62, u167_63, u167_66, u167_67, u167_70, u167_71, u167_72, u167_75, q_push_s, q_push_n, q_sm_0, q_sm_i, q_sm_r, q_sm_n, q_sm_l, q_c1_0, q_c1_i, q_c1_r, q_c1_n, Nat.zero_add, Nat.reduceAdd, Nat.reduceMul, Nat.reduceSub, Nat.reduceLeDiff, Nat.reduceLT, Nat.reduceEqDiff, true_and, and_true, not_false_eq_true, if_true, if_false, ite_true, ite_false, or_true, true_or, or_false, false_or, not_true_eq_false, q2, n_add]
        exact l_few8 d c (i + 1) i m1 _ (by omega) (Or.inr (by omega)) l1 (fun m' f' => hK m' (f1.trans f'))
      · rw [if_neg (fun e => q2 e.2)] at hK
        simp only [u167_62, u167_63, u167_66, u167_67, u167_70, u167_71, u167_72, u167_75, q_push_s, q_push_n, q_sm_0, q_sm_i, q_sm_r, q_sm_n, q_sm_l, q_c1_0, q_c1_i, q_c1_r, q_c1_n, Nat.zero_add, Nat.reduceAdd, Nat.reduceMul, Nat.reduceSub, Nat.reduceLeDiff, Nat.reduceLT, Nat.reduceEqDiff, true_and, and_true, not_false_eq_true, if_true, if_false, ite_true, ite_false, or_true, true_or, or_false, false_or, not_true_eq_false, n_eq (i := z_fit tx s i) (j := z_fit tx s 15) hb1 hb2, q2, n_add]
        exact l_few8 d c (i + 1) b m1 _ (by omega) (hb.elim Or.inl (fun e => Or.inr (by omega))) l1 (fun m' f' => hK m' (f1.trans f'))
    · rw [if_neg (fun e => q e.1)] at hK
      have rec2 := fun x4 => l_few8 d c (i + 1) b m x4 (by omega) (hb.elim Or.inl (fun e => Or.inr (by omega))) l hK
      by_cases q2 : z_pop i = z_pop b
      · have q3 : ¬ i < b := by
          rcases hb with e | e
          · rw [e, p3] at q2
            have := p4 q2
            omega
          · omega
        simp only [u167_13, u167_15, u167_18, u167_19, u167_22, u167_23, u167_26, u167_29, u167_30, u167_33, u167_34, u167_37, u167_40, u167_41, u167_42, u167_45, u167_46, u167_49, u167_50, u167_52, u167_54, u167_70, u167_71, u167_72, u167_75, q_push_s, q_push_n, q_sm_0, q_sm_i, q_sm_r, q_sm_n, q_sm_l, q_c1_0, q_c1_i, q_c1_r, q_c1_n, Nat.zero_add, Nat.reduceAdd, Nat.reduceMul, Nat.reduceSub, Nat.reduceLeDiff, Nat.reduceLT, Nat.reduceEqDiff, true_and, and_true, not_false_eq_true, if_true, if_false, ite_true, ite_false, or_true, true_or, or_false, false_or, not_true_eq_false, eq_self, lq_0_1, lq_0_2, lq_0_3, lq_0_4, lq_0_5, lq_0_6, lq_1_0, lq_1_2, lq_1_3, lq_1_4, lq_1_5, lq_1_6, lq_2_0, lq_2_1, lq_2_3, lq_2_4, lq_2_5, lq_2_6, lq_3_0, lq_3_1, lq_3_2, lq_3_4, lq_3_5, lq_3_6, lq_4_0, lq_4_1, lq_4_2, lq_4_3, lq_4_5, lq_4_6, lq_5_0, lq_5_1, lq_5_2, lq_5_3, lq_5_4, lq_5_6, lq_6_0, lq_6_1, lq_6_2, lq_6_3, lq_6_4, lq_6_5, ll_0_0, ll_0_1, ll_0_2, ll_0_3, ll_0_4, ll_0_5, ll_0_6, ll_1_0, ll_1_1, ll_1_2, ll_1_3, ll_1_4, ll_1_5, ll_1_6, ll_2_0, ll_2_1, ll_2_2, ll_2_3, ll_2_4, ll_2_5, ll_2_6, ll_3_0, ll_3_1, ll_3_2, ll_3_3, ll_3_4, ll_3_5, ll_3_6, ll_4_0, ll_4_1, ll_4_2, ll_4_3, ll_4_4, ll_4_5, ll_4_6, ll_5_0, ll_5_1, ll_5_2, ll_5_3, ll_5_4, ll_5_5, ll_5_6, ll_6_0, ll_6_1, ll_6_2, ll_6_3, ll_6_4, ll_6_5, ll_6_6, le_0_0, le_0_1, le_0_2, le_0_3, le_0_4, le_0_5, le_0_6, le_1_0, le_1_1, le_1_2, le_1_3, le_1_4, le_1_5, le_1_6, le_2_0, le_2_1, le_2_2, le_2_3, le_2_4, le_2_5, le_2_6, le_3_0, le_3_1, le_3_2, le_3_3, le_3_4, le_3_5, le_3_6, le_4_0, le_4_1, le_4_2, le_4_3, le_4_4, le_4_5, le_4_6, le_5_0, le_5_1, le_5_2, le_5_3, le_5_4, le_5_5, le_5_6, le_6_0, le_6_1, le_6_2, le_6_3, le_6_4, le_6_5, le_6_6, n_lt (i := i) (j := 16) (by omega) (by decide), hi15, c_ones (v := i) (by omega), c_ones (v := b) (by omega), el, ee, eb, q, q2, q3, n_lt (i := z_pop b) (j := z_pop b) (by omega) (by omega), Nat.lt_irrefl, n_add, Nat.zero_le, Nat.reduceLeDiff]
        exact rec2 _
      · simp only [u167_13, u167_15, u167_18, u167_19, u167_22, u167_23, u167_26, u167_29, u167_30, u167_33, u167_34, u167_37, u167_40, u167_41, u167_42, u167_45, u167_46, u167_49, u167_50, u167_52, u167_54, u167_70, u167_71, u167_72, u167_75, q_push_s, q_push_n, q_sm_0, q_sm_i, q_sm_r, q_sm_n, q_sm_l, q_c1_0, q_c1_i, q_c1_r, q_c1_n, Nat.zero_add, Nat.reduceAdd, Nat.reduceMul, Nat.reduceSub, Nat.reduceLeDiff, Nat.reduceLT, Nat.reduceEqDiff, true_and, and_true, not_false_eq_true, if_true, if_false, ite_true, ite_false, or_true, true_or, or_false, false_or, not_true_eq_false, eq_self, lq_0_1, lq_0_2, lq_0_3, lq_0_4, lq_0_5, lq_0_6, lq_1_0, lq_1_2, lq_1_3, lq_1_4, lq_1_5, lq_1_6, lq_2_0, lq_2_1, lq_2_3, lq_2_4, lq_2_5, lq_2_6, lq_3_0, lq_3_1, lq_3_2, lq_3_4, lq_3_5, lq_3_6, lq_4_0, lq_4_1, lq_4_2, lq_4_3, lq_4_5, lq_4_6, lq_5_0, lq_5_1, lq_5_2, lq_5_3, lq_5_4, lq_5_6, lq_6_0, lq_6_1, lq_6_2, lq_6_3, lq_6_4, lq_6_5, ll_0_0, ll_0_1, ll_0_2, ll_0_3, ll_0_4, ll_0_5, ll_0_6, ll_1_0, ll_1_1, ll_1_2, ll_1_3, ll_1_4, ll_1_5, ll_1_6, ll_2_0, ll_2_1, ll_2_2, ll_2_3, ll_2_4, ll_2_5, ll_2_6, ll_3_0, ll_3_1, ll_3_2, ll_3_3, ll_3_4, ll_3_5, ll_3_6, ll_4_0, ll_4_1, ll_4_2, ll_4_3, ll_4_4, ll_4_5, ll_4_6, ll_5_0, ll_5_1, ll_5_2, ll_5_3, ll_5_4, ll_5_5, ll_5_6, ll_6_0, ll_6_1, ll_6_2, ll_6_3, ll_6_4, ll_6_5, ll_6_6, le_0_0, le_0_1, le_0_2, le_0_3, le_0_4, le_0_5, le_0_6, le_1_0, le_1_1, le_1_2, le_1_3, le_1_4, le_1_5, le_1_6, le_2_0, le_2_1, le_2_2, le_2_3, le_2_4, le_2_5, le_2_6, le_3_0, le_3_1, le_3_2, le_3_3, le_3_4, le_3_5, le_3_6, le_4_0, le_4_1, le_4_2, le_4_3, le_4_4, le_4_5, le_4_6, le_5_0, le_5_1, le_5_2, le_5_3, le_5_4, le_5_5, le_5_6, le_6_0, le_6_1, le_6_2, le_6_3, le_6_4, le_6_5, le_6_6, n_lt (i := i) (j := 16) (by omega) (by decide), hi15, c_ones (v := i) (by omega), c_ones (v := b) (by omega), el, ee, q, q2, n_add, Nat.zero_le, Nat.reduceLeDiff]
        exact rec2 _
end
section
variable {T : List Nat} {L d : Nat} {xs : Nat → Int32} {s : ZS} {tx : Nat → Nat → List Nat} {n : Nat} {tp : Nat → Nat} {z : Nat} {h : ZH} {wd : Nat → Int32} {m m1 m2 : q_M} {K : Option Value → Option Value → q_G → q_M → Prop}
theorem p_next (l : LJ T L xs s tx n tp z h wd m) (a b : Int32) (hK : ∀ r m', LJ T L xs s tx n tp z h wd m' → K (some (.int r)) (some (.int r)) (GG T L) m') :
    q_C 76 (d + 7) [.ref 0, .int a, .int b] (GG T L) m (fun v g m => q_C 166 (d + 7) [.ref 38, .int a, .int b] g m (fun v' g m => K v v' g m)) := by
  have h6 := l.bz.1
  by_cases ha : z_is a 16
  · obtain ⟨mt, hm, rfl⟩ := z_is_n ha
    have a0 := n_lt0 (j := mt) (by omega)
    have a1 := n_le (i := mt) (j := 15) (by omega) (by decide)
    have a2 : mt ≤ 15 := by omega
    by_cases hb : z_is b 2
    · obtain ⟨w, hw, rfl⟩ := z_is_n hb
      have w0 := n_lt0 (j := w) (by omega)
      have w1 := n_le (i := w) (j := 1) (by omega) (by decide)
      have w2 : w ≤ 1 := by omega
      have hw' : w = 0 ∨ w = 1 := by omega
      have e15 := n_eq (i := mt) (j := 15) (by omega) (by decide)
      have ref : ∀ m2 V, LJ T L xs s tx n tp z h wd m2 → V = (if w = 0 then (z_nx (z_fit tx s) mt 4 0 ((-1 : Int32), nI (z_fit tx s mt))).1 else (z_nx (z_fit tx s) mt 4 0 ((-1 : Int32), nI (z_fit tx s mt))).2) → q_C 166 (d + 7) [.ref 38, .int (nI mt), .int (nI w)] (GG T L) m2 (fun v' g m => K (some (.int V)) v' g m) := by
        intro m2 V lj hV
        have tail : ∀ m3 y, FV m2 m3 → z_nx (z_fit tx s) mt 4 0 ((-1 : Int32), y) = z_nx (z_fit tx s) mt 4 0 ((-1 : Int32), nI (z_fit tx s mt)) → q_R 166 45 (d + 7) [some (.ref 38), some (.int (nI mt)), some (.int (nI w)), some (.int (-1 : Int32)), some (.int y), some (.int (nI 0)), none, none] [] (GG T L) m3 (fun v' g m => K (some (.int V)) v' g m) := by
          intro m3 y f3 hy
          refine l_next8 hm _ d 4 0 ((-1 : Int32), y) m3 _ _ (of_eq_true q_c1_0) rfl (lj.rj.fv f3) (fun m4 f4 x6 x7 => ?_)
          rw [hy]
          rcases hw' with rfl | rfl
          · rw [if_pos rfl] at hV
            simp only [u166_123, u166_124, u166_127, u166_128, u166_131, u166_133, q_push_s, q_push_n, q_sm_0, q_sm_i, q_sm_r, q_sm_n, q_sm_l, q_c1_0, q_c1_i, q_c1_r, q_c1_n, Nat.zero_add, Nat.reduceAdd, Nat.reduceMul, Nat.reduceSub, Nat.reduceLeDiff, Nat.reduceLT, Nat.reduceEqDiff, true_and, and_true, not_false_eq_true, if_true, if_false, ite_true, ite_false, or_true, true_or, or_false, false_or, not_true_eq_false, eq_self, lq_0_1, lq_0_2, lq_0_3, lq_0_4, lq_0_5, lq_0_6, lq_1_0, lq_1_2, lq_1_3, lq_1_4, lq_1_5, lq_1_6, lq_2_0, lq_2_1, lq_2_3, lq_2_4, lq_2_5, lq_2_6, lq_3_0, lq_3_1, lq_3_2, lq_3_4, lq_3_5, lq_3_6, lq_4_0, lq_4_1, lq_4_2, lq_4_3, lq_4_5, lq_4_6, lq_5_0, lq_5_1, lq_5_2, lq_5_3, lq_5_4, lq_5_6, lq_6_0, lq_6_1, lq_6_2, lq_6_3, lq_6_4, lq_6_5, ll_0_0, ll_0_1, ll_0_2, ll_0_3, ll_0_4, ll_0_5, ll_0_6, ll_1_0, ll_1_1, ll_1_2, ll_1_3, ll_1_4, ll_1_5, ll_1_6, ll_2_0, ll_2_1, ll_2_2, ll_2_3, ll_2_4, ll_2_5, ll_2_6, ll_3_0, ll_3_1, ll_3_2, ll_3_3, ll_3_4, ll_3_5, ll_3_6, ll_4_0, ll_4_1, ll_4_2, ll_4_3, ll_4_4, ll_4_5, ll_4_6, ll_5_0, ll_5_1, ll_5_2, ll_5_3, ll_5_4, ll_5_5, ll_5_6, ll_6_0, ll_6_1, ll_6_2, ll_6_3, ll_6_4, ll_6_5, ll_6_6, le_0_0, le_0_1, le_0_2, le_0_3, le_0_4, le_0_5, le_0_6, le_1_0, le_1_1, le_1_2, le_1_3, le_1_4, le_1_5, le_1_6, le_2_0, le_2_1, le_2_2, le_2_3, le_2_4, le_2_5, le_2_6, le_3_0, le_3_1, le_3_2, le_3_3, le_3_4, le_3_5, le_3_6, le_4_0, le_4_1, le_4_2, le_4_3, le_4_4, le_4_5, le_4_6, le_5_0, le_5_1, le_5_2, le_5_3, le_5_4, le_5_5, le_5_6, le_6_0, le_6_1, le_6_2, le_6_3, le_6_4, le_6_5, le_6_6]
            rw [hV]
            exact hK _ _ (lj.fr (f3.trans f4).fr)
          · rw [if_neg (by decide)] at hV
            simp only [u166_123, u166_124, u166_127, u166_128, u166_131, u166_133, q_push_s, q_push_n, q_sm_0, q_sm_i, q_sm_r, q_sm_n, q_sm_l, q_c1_0, q_c1_i, q_c1_r, q_c1_n, Nat.zero_add, Nat.reduceAdd, Nat.reduceMul, Nat.reduceSub, Nat.reduceLeDiff, Nat.reduceLT, Nat.reduceEqDiff, true_and, and_true, not_false_eq_true, if_true, if_false, ite_true, ite_false, or_true, true_or, or_false, false_or, not_true_eq_false, eq_self, lq_0_1, lq_0_2, lq_0_3, lq_0_4, lq_0_5, lq_0_6, lq_1_0, lq_1_2, lq_1_3, lq_1_4, lq_1_5, lq_1_6, lq_2_0, lq_2_1, lq_2_3, lq_2_4, lq_2_5, lq_2_6, lq_3_0, lq_3_1, lq_3_2, lq_3_4, lq_3_5, lq_3_6, lq_4_0, lq_4_1, lq_4_2, lq_4_3, lq_4_5, lq_4_6, lq_5_0, lq_5_1, lq_5_2, lq_5_3, lq_5_4, lq_5_6, lq_6_0, lq_6_1, lq_6_2, lq_6_3, lq_6_4, lq_6_5, ll_0_0, ll_0_1, ll_0_2, ll_0_3, ll_0_4, ll_0_5, ll_0_6, ll_1_0, ll_1_1, ll_1_2, ll_1_3, ll_1_4, ll_1_5, ll_1_6, ll_2_0, ll_2_1, ll_2_2, ll_2_3, ll_2_4, ll_2_5, ll_2_6, ll_3_0, ll_3_1, ll_3_2, ll_3_3, ll_3_4, ll_3_5, ll_3_6, ll_4_0, ll_4_1, ll_4_2, ll_4_3, ll_4_4, ll_4_5, ll_4_6, ll_5_0, ll_5_1, ll_5_2, ll_5_3, ll_5_4, ll_5_5, ll_5_6, ll_6_0, ll_6_1, ll_6_2, ll_6_3, ll_6_4, ll_6_5, ll_6_6, le_0_0, le_0_1, le_0_2, le_0_3, le_0_4, le_0_5, le_0_6, le_1_0, le_1_1, le_1_2, le_1_3, le_1_4, le_1_5, le_1_6, le_2_0, le_2_1, le_2_2, le_2_3, le_2_4, le_2_5, le_2_6, le_3_0, le_3_1, le_3_2, le_3_3, le_3_4, le_3_5, le_3_6, le_4_0, le_4_1, le_4_2, le_4_3, le_4_4, le_4_5, le_4_6, le_5_0, le_5_1, le_5_2, le_5_3, le_5_4, le_5_5, le_5_6, le_6_0, le_6_1, le_6_2, le_6_3, le_6_4, le_6_5, le_6_6]
            rw [hV]
            exact hK _ _ (lj.fr (f3.trans f4).fr)
        by_cases q15 : mt = 15
        · subst q15
          simp only [u166_0, u166_1, u166_2, u166_4, u166_7, u166_10, u166_11, u166_12, u166_13, u166_16, u166_19, u166_21, u166_22, u166_23, u166_24, u166_25, u166_27, u166_30, u166_31, u166_33, e166, q_push_s, q_push_n, q_sm_0, q_sm_i, q_sm_r, q_sm_n, q_sm_l, q_c1_0, q_c1_i, q_c1_r, q_c1_n, Nat.zero_add, Nat.reduceAdd, Nat.reduceMul, Nat.reduceSub, Nat.reduceLeDiff, Nat.reduceLT, Nat.reduceEqDiff, true_and, and_true, not_false_eq_true, if_true, if_false, ite_true, ite_false, or_true, true_or, or_false, false_or, not_true_eq_false, io38, c_in, and_self, a0, a1, a2, w0, w1, w2, z_b_z, eq_self, Nat.zero_le, Nat.reduceLeDiff]
          refine lj.rj.fitMany (d := d) (by decide) (fun m3 f3 l3 _ => ?_)
          simp only [u166_36, u166_39, u166_40, u166_42, u166_43, q_push_s, q_push_n, q_sm_0, q_sm_i, q_sm_r, q_sm_n, q_sm_l, q_c1_0, q_c1_i, q_c1_r, q_c1_n, Nat.zero_add, Nat.reduceAdd, Nat.reduceMul, Nat.reduceSub, Nat.reduceLeDiff, Nat.reduceLT, Nat.reduceEqDiff, true_and, and_true, not_false_eq_true, if_true, if_false, ite_true, ite_false, or_true, true_or, or_false, false_or, not_true_eq_false]
          exact tail m3 _ f3 rfl
        · simp only [u166_0, u166_1, u166_2, u166_4, u166_7, u166_10, u166_11, u166_12, u166_13, u166_16, u166_19, u166_21, u166_22, u166_23, u166_24, u166_25, u166_27, u166_30, u166_31, u166_33, u166_36, u166_39, u166_40, u166_42, u166_43, e166, q_push_s, q_push_n, q_sm_0, q_sm_i, q_sm_r, q_sm_n, q_sm_l, q_c1_0, q_c1_i, q_c1_r, q_c1_n, Nat.zero_add, Nat.reduceAdd, Nat.reduceMul, Nat.reduceSub, Nat.reduceLeDiff, Nat.reduceLT, Nat.reduceEqDiff, true_and, and_true, not_false_eq_true, if_true, if_false, ite_true, ite_false, or_true, true_or, or_false, false_or, not_true_eq_false, io38, c_in, and_self, a0, a1, a2, w0, w1, w2, z_b_z, e15, q15, Nat.zero_le, Nat.reduceLeDiff]
          obtain ⟨i, hi1, hi2⟩ := z_15 mt hm q15
          exact tail m2 _ (FV.refl m2) (z_nx_e _ _ 4 0 _ _ ⟨i, Nat.zero_le i, by omega, hi2⟩)
      simp only [u76_0, u76_1, u76_4, u76_7, u76_8, u76_11, u76_12, u76_13, u76_16, u76_18, u76_19, u76_20, u76_23, e76, q_push_s, q_push_n, q_sm_0, q_sm_i, q_sm_r, q_sm_n, q_sm_l, q_c1_0, q_c1_i, q_c1_r, q_c1_n, Nat.zero_add, Nat.reduceAdd, Nat.reduceMul, Nat.reduceSub, Nat.reduceLeDiff, Nat.reduceLT, Nat.reduceEqDiff, true_and, and_true, not_false_eq_true, if_true, if_false, ite_true, ite_false, or_true, true_or, or_false, false_or, not_true_eq_false, gf0_0, io1, c_areMatters, ha, z_b_z, w0, w1, w2, Nat.zero_le, Nat.reduceLeDiff]
      refine l.cj.compareAll (d := d) (fun m1 f1 l1 k1 => ?_)
      simp only [u76_26, u76_27, u76_28, u76_29, u76_32, u76_33, q_push_s, q_push_n, q_sm_0, q_sm_i, q_sm_r, q_sm_n, q_sm_l, q_c1_0, q_c1_i, q_c1_r, q_c1_n, Nat.zero_add, Nat.reduceAdd, Nat.reduceMul, Nat.reduceSub, Nat.reduceLeDiff, Nat.reduceLT, Nat.reduceEqDiff, true_and, and_true, not_false_eq_true, if_true, if_false, ite_true, ite_false, or_true, true_or, or_false, false_or, not_true_eq_false, gf0_0, io1, Nat.zero_le, Nat.reduceLeDiff]
      refine l1.fitting (d := d + 4) hm k1 (fun m2 f2 g17 g16 => ?_)
      have fu2 : FU m1 m2 := fun k hk => f2 k (by omega) (by omega)
      have l2 := l1.fu fu2
      simp only [u76_36, u76_38, u76_39, q_push_s, q_push_n, q_sm_0, q_sm_i, q_sm_r, q_sm_n, q_sm_l, q_c1_0, q_c1_i, q_c1_r, q_c1_n, Nat.zero_add, Nat.reduceAdd, Nat.reduceMul, Nat.reduceSub, Nat.reduceLeDiff, Nat.reduceLT, Nat.reduceEqDiff, true_and, and_true, not_false_eq_true, if_true, if_false, ite_true, ite_false, or_true, true_or, or_false, false_or, not_true_eq_false]
      refine l_next hm _ (d + 4) 4 0 ((-1 : Int32), nI (z_fit tx s mt)) m2 _ rfl l2 (fun g hg o ho => by rw [f2 15 (by decide) (by decide)]; exact k1 g hg o ho) (fun m3 f3 x6 => ?_)
      have lj3 := l.fr ((f1.fu.trans fu2).trans f3).fr
      rcases hw' with rfl | rfl
      · simp only [u76_99, u76_100, u76_103, u76_104, u76_107, u76_109, q_push_s, q_push_n, q_sm_0, q_sm_i, q_sm_r, q_sm_n, q_sm_l, q_c1_0, q_c1_i, q_c1_r, q_c1_n, Nat.zero_add, Nat.reduceAdd, Nat.reduceMul, Nat.reduceSub, Nat.reduceLeDiff, Nat.reduceLT, Nat.reduceEqDiff, true_and, and_true, not_false_eq_true, if_true, if_false, ite_true, ite_false, or_true, true_or, or_false, false_or, not_true_eq_false, eq_self, lq_0_1, lq_0_2, lq_0_3, lq_0_4, lq_0_5, lq_0_6, lq_1_0, lq_1_2, lq_1_3, lq_1_4, lq_1_5, lq_1_6, lq_2_0, lq_2_1, lq_2_3, lq_2_4, lq_2_5, lq_2_6, lq_3_0, lq_3_1, lq_3_2, lq_3_4, lq_3_5, lq_3_6, lq_4_0, lq_4_1, lq_4_2, lq_4_3, lq_4_5, lq_4_6, lq_5_0, lq_5_1, lq_5_2, lq_5_3, lq_5_4, lq_5_6, lq_6_0, lq_6_1, lq_6_2, lq_6_3, lq_6_4, lq_6_5, ll_0_0, ll_0_1, ll_0_2, ll_0_3, ll_0_4, ll_0_5, ll_0_6, ll_1_0, ll_1_1, ll_1_2, ll_1_3, ll_1_4, ll_1_5, ll_1_6, ll_2_0, ll_2_1, ll_2_2, ll_2_3, ll_2_4, ll_2_5, ll_2_6, ll_3_0, ll_3_1, ll_3_2, ll_3_3, ll_3_4, ll_3_5, ll_3_6, ll_4_0, ll_4_1, ll_4_2, ll_4_3, ll_4_4, ll_4_5, ll_4_6, ll_5_0, ll_5_1, ll_5_2, ll_5_3, ll_5_4, ll_5_5, ll_5_6, ll_6_0, ll_6_1, ll_6_2, ll_6_3, ll_6_4, ll_6_5, ll_6_6, le_0_0, le_0_1, le_0_2, le_0_3, le_0_4, le_0_5, le_0_6, le_1_0, le_1_1, le_1_2, le_1_3, le_1_4, le_1_5, le_1_6, le_2_0, le_2_1, le_2_2, le_2_3, le_2_4, le_2_5, le_2_6, le_3_0, le_3_1, le_3_2, le_3_3, le_3_4, le_3_5, le_3_6, le_4_0, le_4_1, le_4_2, le_4_3, le_4_4, le_4_5, le_4_6, le_5_0, le_5_1, le_5_2, le_5_3, le_5_4, le_5_5, le_5_6, le_6_0, le_6_1, le_6_2, le_6_3, le_6_4, le_6_5, le_6_6]
        exact ref m3 _ lj3 (by rw [if_pos rfl])
      · simp only [u76_99, u76_100, u76_103, u76_104, u76_107, u76_109, q_push_s, q_push_n, q_sm_0, q_sm_i, q_sm_r, q_sm_n, q_sm_l, q_c1_0, q_c1_i, q_c1_r, q_c1_n, Nat.zero_add, Nat.reduceAdd, Nat.reduceMul, Nat.reduceSub, Nat.reduceLeDiff, Nat.reduceLT, Nat.reduceEqDiff, true_and, and_true, not_false_eq_true, if_true, if_false, ite_true, ite_false, or_true, true_or, or_false, false_or, not_true_eq_false, eq_self, lq_0_1, lq_0_2, lq_0_3, lq_0_4, lq_0_5, lq_0_6, lq_1_0, lq_1_2, lq_1_3, lq_1_4, lq_1_5, lq_1_6, lq_2_0, lq_2_1, lq_2_3, lq_2_4, lq_2_5, lq_2_6, lq_3_0, lq_3_1, lq_3_2, lq_3_4, lq_3_5, lq_3_6, lq_4_0, lq_4_1, lq_4_2, lq_4_3, lq_4_5, lq_4_6, lq_5_0, lq_5_1, lq_5_2, lq_5_3, lq_5_4, lq_5_6, lq_6_0, lq_6_1, lq_6_2, lq_6_3, lq_6_4, lq_6_5, ll_0_0, ll_0_1, ll_0_2, ll_0_3, ll_0_4, ll_0_5, ll_0_6, ll_1_0, ll_1_1, ll_1_2, ll_1_3, ll_1_4, ll_1_5, ll_1_6, ll_2_0, ll_2_1, ll_2_2, ll_2_3, ll_2_4, ll_2_5, ll_2_6, ll_3_0, ll_3_1, ll_3_2, ll_3_3, ll_3_4, ll_3_5, ll_3_6, ll_4_0, ll_4_1, ll_4_2, ll_4_3, ll_4_4, ll_4_5, ll_4_6, ll_5_0, ll_5_1, ll_5_2, ll_5_3, ll_5_4, ll_5_5, ll_5_6, ll_6_0, ll_6_1, ll_6_2, ll_6_3, ll_6_4, ll_6_5, ll_6_6, le_0_0, le_0_1, le_0_2, le_0_3, le_0_4, le_0_5, le_0_6, le_1_0, le_1_1, le_1_2, le_1_3, le_1_4, le_1_5, le_1_6, le_2_0, le_2_1, le_2_2, le_2_3, le_2_4, le_2_5, le_2_6, le_3_0, le_3_1, le_3_2, le_3_3, le_3_4, le_3_5, le_3_6, le_4_0, le_4_1, le_4_2, le_4_3, le_4_4, le_4_5, le_4_6, le_5_0, le_5_1, le_5_2, le_5_3, le_5_4, le_5_5, le_5_6, le_6_0, le_6_1, le_6_2, le_6_3, le_6_4, le_6_5, le_6_6]
        exact ref m3 _ lj3 (by rw [if_neg (by decide)])
    · rcases z_is_f (n := 1) (by decide) hb with q | ⟨q1, q2⟩
      · simp only [u76_0, u76_1, u76_4, u76_7, u76_8, u76_11, u76_12, u76_13, u76_16, u76_18, e76, u166_0, u166_1, u166_2, u166_4, u166_7, u166_10, u166_11, u166_12, u166_13, u166_16, u166_19, u166_21, e166, q_push_s, q_push_n, q_sm_0, q_sm_i, q_sm_r, q_sm_n, q_sm_l, q_c1_0, q_c1_i, q_c1_r, q_c1_n, Nat.zero_add, Nat.reduceAdd, Nat.reduceMul, Nat.reduceSub, Nat.reduceLeDiff, Nat.reduceLT, Nat.reduceEqDiff, true_and, and_true, not_false_eq_true, if_true, if_false, ite_true, ite_false, or_true, true_or, or_false, false_or, not_true_eq_false, c_areMatters, ha, z_b_z, c_in, and_self, a0, a1, a2, q, false_and, Nat.zero_le, Nat.reduceLeDiff]
        exact hK _ _ l
      · simp only [u76_0, u76_1, u76_4, u76_7, u76_8, u76_11, u76_12, u76_13, u76_16, u76_18, e76, u166_0, u166_1, u166_2, u166_4, u166_7, u166_10, u166_11, u166_12, u166_13, u166_16, u166_19, u166_21, e166, q_push_s, q_push_n, q_sm_0, q_sm_i, q_sm_r, q_sm_n, q_sm_l, q_c1_0, q_c1_i, q_c1_r, q_c1_n, Nat.zero_add, Nat.reduceAdd, Nat.reduceMul, Nat.reduceSub, Nat.reduceLeDiff, Nat.reduceLT, Nat.reduceEqDiff, true_and, and_true, not_false_eq_true, if_true, if_false, ite_true, ite_false, or_true, true_or, or_false, false_or, not_true_eq_false, c_areMatters, ha, z_b_z, c_in, and_self, a0, a1, a2, q1, q2, and_false, Nat.zero_le, Nat.reduceLeDiff]
        exact hK _ _ l
  · rcases z_is_f (n := 15) (by decide) ha with q | ⟨q1, q2⟩
    · simp only [u76_0, u76_1, u76_4, u76_7, u76_8, u76_11, u76_12, u76_13, u76_16, u76_18, e76, u166_0, u166_1, u166_2, u166_4, u166_7, u166_10, u166_11, u166_12, u166_13, u166_16, u166_19, u166_21, e166, q_push_s, q_push_n, q_sm_0, q_sm_i, q_sm_r, q_sm_n, q_sm_l, q_c1_0, q_c1_i, q_c1_r, q_c1_n, Nat.zero_add, Nat.reduceAdd, Nat.reduceMul, Nat.reduceSub, Nat.reduceLeDiff, Nat.reduceLT, Nat.reduceEqDiff, true_and, and_true, not_false_eq_true, if_true, if_false, ite_true, ite_false, or_true, true_or, or_false, false_or, not_true_eq_false, c_areMatters, ha, z_b_z, c_in, q, false_and, Nat.zero_le, Nat.reduceLeDiff]
      exact hK _ _ l
    · simp only [u76_0, u76_1, u76_4, u76_7, u76_8, u76_11, u76_12, u76_13, u76_16, u76_18, e76, u166_0, u166_1, u166_2, u166_4, u166_7, u166_10, u166_11, u166_12, u166_13, u166_16, u166_19, u166_21, e166, q_push_s, q_push_n, q_sm_0, q_sm_i, q_sm_r, q_sm_n, q_sm_l, q_c1_0, q_c1_i, q_c1_r, q_c1_n, Nat.zero_add, Nat.reduceAdd, Nat.reduceMul, Nat.reduceSub, Nat.reduceLeDiff, Nat.reduceLT, Nat.reduceEqDiff, true_and, and_true, not_false_eq_true, if_true, if_false, ite_true, ite_false, or_true, true_or, or_false, false_or, not_true_eq_false, c_areMatters, ha, z_b_z, c_in, q1, q2, and_false, Nat.zero_le, Nat.reduceLeDiff]
      exact hK _ _ l
theorem p_fewest (l : LJ T L xs s tx n tp z h wd m) (hK : ∀ r m', LJ T L xs s tx n tp z h wd m' → K (some (.int r)) (some (.int r)) (GG T L) m') :
    q_C 77 (d + 7) [.ref 0] (GG T L) m (fun v g m => q_C 167 (d + 7) [.ref 38] g m (fun v' g m => K v v' g m)) := by
  have h6 := l.bz.1
  simp only [u77_0, u77_1, u77_4, e77, q_push_s, q_push_n, q_sm_0, q_sm_i, q_sm_r, q_sm_n, q_sm_l, q_c1_0, q_c1_i, q_c1_r, q_c1_n, Nat.zero_add, Nat.reduceAdd, Nat.reduceMul, Nat.reduceSub, Nat.reduceLeDiff, Nat.reduceLT, Nat.reduceEqDiff, true_and, and_true, not_false_eq_true, if_true, if_false, ite_true, ite_false, or_true, true_or, or_false, false_or, not_true_eq_false, gf0_0, io1, Nat.zero_le, Nat.reduceLeDiff]
  refine l.cj.compareAll (d := d) (fun m1 f1 l1 k1 => ?_)
  simp only [u77_7, u77_8, u77_11, u77_13, q_push_s, q_push_n, q_sm_0, q_sm_i, q_sm_r, q_sm_n, q_sm_l, q_c1_0, q_c1_i, q_c1_r, q_c1_n, Nat.zero_add, Nat.reduceAdd, Nat.reduceMul, Nat.reduceSub, Nat.reduceLeDiff, Nat.reduceLT, Nat.reduceEqDiff, true_and, and_true, not_false_eq_true, if_true, if_false, ite_true, ite_false, or_true, true_or, or_false, false_or, not_true_eq_false, gf0_0, io1, Nat.zero_le, Nat.reduceLeDiff]
  refine l1.fitting (d := d + 4) (by decide) k1 (fun m2 f2 g17 g16 => ?_)
  have fu2 : FU m1 m2 := fun k hk => f2 k (by omega) (by omega)
  simp only [u77_16, u77_17, u77_19, u77_20, u77_21, q_push_s, q_push_n, q_sm_0, q_sm_i, q_sm_r, q_sm_n, q_sm_l, q_c1_0, q_c1_i, q_c1_r, q_c1_n, Nat.zero_add, Nat.reduceAdd, Nat.reduceMul, Nat.reduceSub, Nat.reduceLeDiff, Nat.reduceLT, Nat.reduceEqDiff, true_and, and_true, not_false_eq_true, if_true, if_false, ite_true, ite_false, or_true, true_or, or_false, false_or, not_true_eq_false]
  refine l_few (d + 4) 15 0 15 m2 _ rfl (Or.inl rfl) (l1.fu fu2) (fun g hg o ho => by rw [f2 15 (by decide) (by decide)]; exact k1 g hg o ho) (fun m3 f3 => ?_)
  have lj3 := l.fr ((f1.fu.trans fu2).trans f3).fr
  simp only [u167_0, u167_1, u167_3, e167, q_push_s, q_push_n, q_sm_0, q_sm_i, q_sm_r, q_sm_n, q_sm_l, q_c1_0, q_c1_i, q_c1_r, q_c1_n, Nat.zero_add, Nat.reduceAdd, Nat.reduceMul, Nat.reduceSub, Nat.reduceLeDiff, Nat.reduceLT, Nat.reduceEqDiff, true_and, and_true, not_false_eq_true, if_true, if_false, ite_true, ite_false, or_true, true_or, or_false, false_or, not_true_eq_false, io38, Nat.zero_le, Nat.reduceLeDiff]
  refine lj3.rj.fitMany (d := d) (by decide) (fun m4 f4 l4 _ => ?_)
  simp only [u167_6, u167_7, u167_9, u167_10, u167_11, q_push_s, q_push_n, q_sm_0, q_sm_i, q_sm_r, q_sm_n, q_sm_l, q_c1_0, q_c1_i, q_c1_r, q_c1_n, Nat.zero_add, Nat.reduceAdd, Nat.reduceMul, Nat.reduceSub, Nat.reduceLeDiff, Nat.reduceLT, Nat.reduceEqDiff, true_and, and_true, not_false_eq_true, if_true, if_false, ite_true, ite_false, or_true, true_or, or_false, false_or, not_true_eq_false]
  refine l_few8 d 16 0 15 m4 _ rfl (Or.inl rfl) l4 (fun m5 f5 => ?_)
  have e : z_fw (z_fit tx s) 16 0 15 = z_fw (z_fit tx s) 15 0 15 := by
    refine (z_fw_s (z_fit tx s) 15 0 15).trans ?_
    have hb := z_fw_b (z_fit tx s) 15 0 15 (Nat.le_refl 15) (Or.inl rfl)
    have hp := z_pop15 (z_fw (z_fit tx s) 15 0 15) (by omega)
    rw [if_neg]
    rw [show 0 + 15 = 15 from rfl, hp.2.1]
    omega
  rw [e]
  exact hK _ _ (lj3.fr (f4.trans f5).fr)
end
