/-! ===== guestsBy ===== -/
/-- the state and the answer after c more of them, from number i on, so many having come -/
def z_gb (cs : Nat → Int32) (sz a : Nat) : Nat → Nat → ZS → Int32 → ZS × Int32
  | 0, _, s, came => (s, came)
  | c + 1, i, s, came => if a + 2 * i + 2 ≤ sz then z_gb cs sz a c (i + 1) (z_gs s (cs (a + 2 * i)) (cs (a + 2 * i + 1))) (if z_gr s (cs (a + 2 * i)) (cs (a + 2 * i + 1)) < nI 0 then came else came + nI 1) else (s, (-12 : Int32))
theorem z_gb_b (cs : Nat → Int32) (sz a : Nat) : ∀ c i s came, BZ s → BZ (z_gb cs sz a c i s came).1 ∧ (z_gb cs sz a c i s came).1.1 2 = s.1 2 ∧ s.1 0 ≤ (z_gb cs sz a c i s came).1.1 0 ∧ ∀ g, g < s.1 0 → (z_gb cs sz a c i s came).1.2.1 0 g = s.2.1 0 g ∧ (z_gb cs sz a c i s came).1.2.1 1 g = s.2.1 1 g
  | 0, i, s, came, hB => ⟨hB, rfl, Nat.le_refl _, fun _ _ => ⟨rfl, rfl⟩⟩
  | c + 1, i, s, came, hB => by
    unfold z_gb
    split
    · obtain ⟨q1, q2, q3⟩ := z_gs_le s (cs (a + 2 * i)) (cs (a + 2 * i + 1))
      obtain ⟨r1, r2, r3, r4⟩ := z_gb_b cs sz a c (i + 1) _ (if z_gr s (cs (a + 2 * i)) (cs (a + 2 * i + 1)) < nI 0 then came else came + nI 1) (hB.gs (cs (a + 2 * i)) (cs (a + 2 * i + 1)))
      exact ⟨r1, r2.trans q2, Nat.le_trans q1 r3, fun g hg => ⟨((r4 g (by omega)).1).trans (q3 g hg).1, ((r4 g (by omega)).2).trans (q3 g hg).2⟩⟩
    · exact ⟨hB, rfl, Nat.le_refl _, fun _ _ => ⟨rfl, rfl⟩⟩
theorem n_add0 (x : Int32) : x + nI 0 = x := by rw [nI_0]; exact Int32.add_zero x
theorem n_or0 (x : Int32) : x ||| nI 0 = x := by rw [nI_0]; exact Int32.or_zero
section
variable {T : List Nat} {L : Nat} {m : q_M} {K : Option Value → q_G → q_M → Prop}
theorem z_le_sub2 {p q : Nat} (hp : p < 2 ^ 30) (hq : q < 2 ^ 30) : (nI p ≤ nI q - nI 2) = (p + 2 ≤ q) := z_lesub hp hq (by decide)
theorem l_gby {k sz a : Nat} {cs : Nat → Int32} (hk : k < 4) (hsz : sz ≤ 40) (ha : a < 1000) (x2 : Option Value) (d : Nat) {n : Nat} (hn : n ≤ 6) : ∀ c i s came m x8, q_c1 x8 = true → i + c = n → BZ s → ICl 3 s m → m (30 + 2 * k) 1 = nI sz → (∀ x, x < sz → m (31 + 2 * k) x = cs x) → (∀ m', FG m m' → ICl 3 (z_gb cs sz a c i s came).1 m' → K (some (.int (z_gb cs sz a c i s came).2)) (GG T L) m') →
    q_R 98 66 (d + 4) [some (.ref 0), some (.int (nI k)), x2, some (.int (nI a)), some (.int (nI n)), some (.ref (30 + 2 * k)), some (.int came), some (.int (nI i)), x8] [] (GG T L) m K
  | 0, i, s, came, m, x8, h8, hi, hB, hC, h1, h2, hK => by
    have e : ¬ i < n := by omega
    simp only [u98_66, u98_68, u98_70, u98_139, u98_141, q_push_s, q_push_n, q_sm_0, q_sm_i, q_sm_r, q_sm_n, q_sm_l, q_c1_0, q_c1_i, q_c1_r, q_c1_n, Nat.zero_add, Nat.reduceAdd, Nat.reduceMul, Nat.reduceSub, Nat.reduceLeDiff, Nat.reduceLT, Nat.reduceEqDiff, true_and, and_true, not_false_eq_true, if_true, if_false, ite_true, ite_false, or_true, true_or, or_false, false_or, not_true_eq_false, n_lt (i := i) (j := n) (by omega) (by omega), e]
    exact hK m (fun _ _ => rfl) hC
  | c + 1, i, s, came, m, x8, h8, hi, hB, hC, h1, h2, hK => by
    have e : i < n := by omega
    rw [u98_66]
    simp only [u98_68, u98_70, u98_73, u98_74, u98_75, u98_77, u98_78, u98_79, u98_81, u98_83, u98_86, u98_88, u98_88n, u98_90, u98_93, u98_94, u98_95, u98_98, q_push_s, q_push_n, q_sm_0, q_sm_i, q_sm_r, q_sm_n, q_sm_l, q_c1_0, q_c1_i, q_c1_r, q_c1_n, Nat.zero_add, Nat.reduceAdd, Nat.reduceMul, Nat.reduceSub, Nat.reduceLeDiff, Nat.reduceLT, Nat.reduceEqDiff, true_and, and_true, not_false_eq_true, if_true, if_false, ite_true, ite_false, or_true, true_or, or_false, false_or, not_true_eq_false, n_lt (i := i) (j := n) (by omega) (by omega), e, n_mul, n_add, n_lt0 (j := a + 2 * i) (by omega), gfs1 hk, h1, z_le_sub2 (p := a + 2 * i) (q := sz) (by omega) (by omega)]
    unfold z_gb at hK
    by_cases q : a + 2 * i + 2 ≤ sz
    · rw [if_pos q] at hK ⊢
      simp only [u98_101, u98_102, u98_102n, u98_104, u98_107, u98_109, u98_112, u98_112n, u98_114, u98_117, u98_119, u98_120, u98_121, u98_124, q_push_s, q_push_n, q_sm_0, q_sm_i, q_sm_r, q_sm_n, q_sm_l, q_c1_0, q_c1_i, q_c1_r, q_c1_n, Nat.zero_add, Nat.reduceAdd, Nat.reduceMul, Nat.reduceSub, Nat.reduceLeDiff, Nat.reduceLT, Nat.reduceEqDiff, true_and, and_true, not_false_eq_true, if_true, if_false, ite_true, ite_false, or_true, true_or, or_false, false_or, not_true_eq_false, gfs2 hk, n_add, io0, Nat.zero_le, Nat.reduceLeDiff, c_at (j := a + 2 * i) (shs hk) (show 31 + 2 * k < 930 by omega) (by decide) (show a + 2 * i < 40 by omega), c_at (j := a + 2 * i + 1) (shs hk) (show 31 + 2 * k < 930 by omega) (by decide) (show a + 2 * i + 1 < 40 by omega), h2 (a + 2 * i) (by omega), h2 (a + 2 * i + 1) (by omega)]
      refine c_guest hC hB _ _ (fun m1 f1 hC1 => ?_)
      have hfin : ∀ came', (∀ m', FG m1 m' → ICl 3 (z_gb cs sz a c (i + 1) (z_gs s (cs (a + 2 * i)) (cs (a + 2 * i + 1))) came').1 m' → K (some (.int (z_gb cs sz a c (i + 1) (z_gs s (cs (a + 2 * i)) (cs (a + 2 * i + 1))) came').2)) (GG T L) m') → q_R 98 133 (d + 4) [some (.ref 0), some (.int (nI k)), x2, some (.int (nI a)), some (.int (nI n)), some (.ref (30 + 2 * k)), some (.int came'), some (.int (nI i)), some (.int (nI (a + 2 * i)))] [] (GG T L) m1 K := by
        intro came' hK'
        simp only [u98_133, u98_136, q_push_s, q_push_n, q_sm_0, q_sm_i, q_sm_r, q_sm_n, q_sm_l, q_c1_0, q_c1_i, q_c1_r, q_c1_n, Nat.zero_add, Nat.reduceAdd, Nat.reduceMul, Nat.reduceSub, Nat.reduceLeDiff, Nat.reduceLT, Nat.reduceEqDiff, true_and, and_true, not_false_eq_true, if_true, if_false, ite_true, ite_false, or_true, true_or, or_false, false_or, not_true_eq_false, n_add]
        refine l_gby hk hsz ha x2 d hn c (i + 1) _ came' m1 _ (of_eq_true (q_c1_i _)) (by omega) (hB.gs _ _) hC1 (by rw [f1 _ (by omega)]; exact h1) (fun x hx => by rw [f1 _ (by omega)]; exact h2 x hx) hK'
      simp only [u98_127, u98_130, q_push_s, q_push_n, q_sm_0, q_sm_i, q_sm_r, q_sm_n, q_sm_l, q_c1_0, q_c1_i, q_c1_r, q_c1_n, Nat.zero_add, Nat.reduceAdd, Nat.reduceMul, Nat.reduceSub, Nat.reduceLeDiff, Nat.reduceLT, Nat.reduceEqDiff, true_and, and_true, not_false_eq_true, if_true, if_false, ite_true, ite_false, or_true, true_or, or_false, false_or, not_true_eq_false]
      by_cases q2 : z_gr s (cs (a + 2 * i)) (cs (a + 2 * i + 1)) < nI 0
      · rw [if_pos q2] at hK ⊢
        exact hfin _ (fun m' f' hC' => hK m' (fun p hp => (f' p hp).trans (f1 p hp)) hC')
      · rw [if_neg q2] at hK ⊢
        exact hfin _ (fun m' f' hC' => hK m' (fun p hp => (f' p hp).trans (f1 p hp)) hC')
    · rw [if_neg q] at hK ⊢
      simp only [u98_98, u98_100, q_push_s, q_push_n, q_sm_0, q_sm_i, q_sm_r, q_sm_n, q_sm_l, q_c1_0, q_c1_i, q_c1_r, q_c1_n, Nat.zero_add, Nat.reduceAdd, Nat.reduceMul, Nat.reduceSub, Nat.reduceLeDiff, Nat.reduceLT, Nat.reduceEqDiff, true_and, and_true, not_false_eq_true, if_true, if_false, ite_true, ite_false, or_true, true_or, or_false, false_or, not_true_eq_false]
      exact hK m (fun _ _ => rfl) hC
theorem l_gby8 {k sz a : Nat} {cs : Nat → Int32} (hk : k < 4) (hsz : sz ≤ 40) (ha : a < 1000) (x2 : Option Value) (d : Nat) {n : Nat} (hn : n ≤ 6) : ∀ c i s came m x7 x8, q_c1 x7 = true → q_c1 x8 = true → i + c = n → BZ s → IMo s m → m 48 k = nI sz → (∀ x, x < sz → m 49 (40 * k + x) = cs x) → (∀ m', FG8 m m' → IMo (z_gb cs sz a c i s came).1 m' → K (some (.int (z_gb cs sz a c i s came).2)) (GG T L) m') →
    q_R 198 64 (d + 4) [some (.ref 38), some (.int (nI k)), x2, some (.int (nI a)), some (.int (nI n)), some (.int came), some (.int (nI i)), x7, x8] [] (GG T L) m K
  | 0, i, s, came, m, x7, x8, h7, h8, hi, hB, hC, h1, h2, hK => by
    have e : ¬ i < n := by omega
    simp only [u198_64, u198_66, u198_68, u198_153, u198_155, q_push_s, q_push_n, q_sm_0, q_sm_i, q_sm_r, q_sm_n, q_sm_l, q_c1_0, q_c1_i, q_c1_r, q_c1_n, Nat.zero_add, Nat.reduceAdd, Nat.reduceMul, Nat.reduceSub, Nat.reduceLeDiff, Nat.reduceLT, Nat.reduceEqDiff, true_and, and_true, not_false_eq_true, if_true, if_false, ite_true, ite_false, or_true, true_or, or_false, false_or, not_true_eq_false, n_lt (i := i) (j := n) (by omega) (by omega), e]
    exact hK m ⟨fun _ _ _ => rfl, fun _ _ => rfl⟩ hC
  | c + 1, i, s, came, m, x7, x8, h7, h8, hi, hB, hC, h1, h2, hK => by
    have e : i < n := by omega
    have e2 : ¬ a + 2 * i < a := by omega
    rw [u198_64]
    simp only [u198_66, u198_68, u198_71, u198_72, u198_73, u198_75, u198_76, u198_77, u198_79, u198_80, u198_83, u198_85, u198_86, u198_89, u198_91, u198_92, u198_95, u198_96, u198_97, u198_98, u198_99, q_push_s, q_push_n, q_sm_0, q_sm_i, q_sm_r, q_sm_n, q_sm_l, q_c1_0, q_c1_i, q_c1_r, q_c1_n, Nat.zero_add, Nat.reduceAdd, Nat.reduceMul, Nat.reduceSub, Nat.reduceLeDiff, Nat.reduceLT, Nat.reduceEqDiff, true_and, and_true, not_false_eq_true, if_true, if_false, ite_true, ite_false, or_true, true_or, or_false, false_or, not_true_eq_false, n_lt (i := i) (j := n) (by omega) (by omega), e, n_mul, n_add, n_lt0 (j := a) (by omega), n_lt (i := a + 2 * i) (j := a) (by omega) (by omega), e2, gf38_18, ia48 hk, h1, z_le_sub2 (p := a + 2 * i) (q := sz) (by omega) (by omega)]
    unfold z_gb at hK
    by_cases q : a + 2 * i + 2 ≤ sz
    · rw [if_pos q] at hK ⊢
      have e3 : 40 * k + (a + 2 * i) + 1 = 40 * k + (a + 2 * i + 1) := by omega
      simp only [u198_105, u198_107, u198_108, u198_109, u198_111, u198_112, u198_114, u198_116, u198_117, u198_118, u198_121, u198_123, u198_124, u198_125, u198_128, u198_130, u198_131, u198_132, u198_133, q_push_s, q_push_n, q_sm_0, q_sm_i, q_sm_r, q_sm_n, q_sm_l, q_c1_0, q_c1_i, q_c1_r, q_c1_n, Nat.zero_add, Nat.reduceAdd, Nat.reduceMul, Nat.reduceSub, Nat.reduceLeDiff, Nat.reduceLT, Nat.reduceEqDiff, true_and, and_true, not_false_eq_true, if_true, if_false, ite_true, ite_false, or_true, true_or, or_false, false_or, not_true_eq_false, gf38_19, n_mul, n_add, e3, io38, Nat.zero_le, Nat.reduceLeDiff, ia49 (i := 40 * k + (a + 2 * i)) (by omega), ia49 (i := 40 * k + (a + 2 * i + 1)) (by omega), h2 (a + 2 * i) (by omega), h2 (a + 2 * i + 1) (by omega)]
      refine c_guest8 hC hB _ _ (fun m1 f1 hC1 => ?_)
      have hfin : ∀ came', (∀ m', FG8 m1 m' → IMo (z_gb cs sz a c (i + 1) (z_gs s (cs (a + 2 * i)) (cs (a + 2 * i + 1))) came').1 m' → K (some (.int (z_gb cs sz a c (i + 1) (z_gs s (cs (a + 2 * i)) (cs (a + 2 * i + 1))) came').2)) (GG T L) m') → q_R 198 147 (d + 4) [some (.ref 38), some (.int (nI k)), x2, some (.int (nI a)), some (.int (nI n)), some (.int came'), some (.int (nI i)), some (.int (nI (a + 2 * i))), some (.int (nI (40 * k + (a + 2 * i))))] [] (GG T L) m1 K := by
        intro came' hK'
        simp only [u198_147, u198_150, q_push_s, q_push_n, q_sm_0, q_sm_i, q_sm_r, q_sm_n, q_sm_l, q_c1_0, q_c1_i, q_c1_r, q_c1_n, Nat.zero_add, Nat.reduceAdd, Nat.reduceMul, Nat.reduceSub, Nat.reduceLeDiff, Nat.reduceLT, Nat.reduceEqDiff, true_and, and_true, not_false_eq_true, if_true, if_false, ite_true, ite_false, or_true, true_or, or_false, false_or, not_true_eq_false, n_add]
        refine l_gby8 hk hsz ha x2 d hn c (i + 1) _ came' m1 _ _ (of_eq_true (q_c1_i _)) (of_eq_true (q_c1_i _)) (by omega) (hB.gs _ _) hC1 (by rw [f1.1 _ (by omega) (by omega)]; exact h1) (fun x hx => by rw [f1.1 _ (by omega) (by omega)]; exact h2 x hx) hK'
      have ft : ∀ m', FG8 m1 m' → FG8 m m' := fun m' f' => ⟨fun p p1 p2 => (f'.1 p p1 p2).trans (f1.1 p p1 p2), fun f hf => (f'.2 f hf).trans (f1.2 f hf)⟩
      simp only [u198_136, u198_139, u198_140, u198_143, u198_144, u198_145, q_push_s, q_push_n, q_sm_0, q_sm_i, q_sm_r, q_sm_n, q_sm_l, q_c1_0, q_c1_i, q_c1_r, q_c1_n, Nat.zero_add, Nat.reduceAdd, Nat.reduceMul, Nat.reduceSub, Nat.reduceLeDiff, Nat.reduceLT, Nat.reduceEqDiff, true_and, and_true, not_false_eq_true, if_true, if_false, ite_true, ite_false, or_true, true_or, or_false, false_or, not_true_eq_false, n_add0]
      by_cases q2 : z_gr s (cs (a + 2 * i)) (cs (a + 2 * i + 1)) < nI 0
      · rw [if_pos q2] at hK ⊢
        exact hfin _ (fun m' f' hC' => hK m' (ft m' f') hC')
      · rw [if_neg q2] at hK ⊢
        exact hfin _ (fun m' f' hC' => hK m' (ft m' f') hC')
    · rw [if_neg q] at hK ⊢
      simp only [u198_102, u198_104, q_push_s, q_push_n, q_sm_0, q_sm_i, q_sm_r, q_sm_n, q_sm_l, q_c1_0, q_c1_i, q_c1_r, q_c1_n, Nat.zero_add, Nat.reduceAdd, Nat.reduceMul, Nat.reduceSub, Nat.reduceLeDiff, Nat.reduceLT, Nat.reduceEqDiff, true_and, and_true, not_false_eq_true, if_true, if_false, ite_true, ite_false, or_true, true_or, or_false, false_or, not_true_eq_false]
      exact hK m ⟨fun _ _ _ => rfl, fun _ _ => rfl⟩ hC
end
section
variable {T : List Nat} {L d : Nat} {xs : Nat → Int32} {s : ZS} {tx : Nat → Nat → List Nat} {n : Nat} {tp : Nat → Nat} {z : Nat} {h : ZH} {wd : Nat → Int32} {m : q_M} {K : Option Value → Option Value → q_G → q_M → Prop}
theorem p_guestsBy (l : LJ T L xs s tx n tp z h wd m) (a b c e : Int32) (hK : ∀ r s' m', LJ T L xs s' tx n tp z h wd m' → K (some (.int r)) (some (.int r)) (GG T L) m') :
    q_C 98 (d + 4) [.ref 0, .int a, .int b, .int c, .int e] (GG T L) m (fun v g m => q_C 198 (d + 4) [.ref 38, .int a, .int b, .int c, .int e] g m (fun v' g m => K v v' g m)) := by
  have h6 := l.bz.1
  by_cases ha : z_is a 4
  · obtain ⟨k, hk, rfl⟩ := z_is_n ha
    have k0 := n_lt0 (j := k) (by omega)
    have k3 := n_le (i := k) (j := 3) (by omega) (by decide)
    have k3' : k ≤ 3 := by omega
    have h950 : (30 + 2 * k = 950) = False := eq_false (by omega)
    obtain ⟨b1, b2, b3, b4, b5, b6, b7, b8⟩ := l.sh k hk
    by_cases hb : z_is b 3
    · obtain ⟨so, hso, rfl⟩ := z_is_n hb
      have s0 := n_lt0 (j := so) (by omega)
      have s3 := n_le (i := so) (j := 2) (by omega) (by decide)
      have s3' : so ≤ 2 := by omega
      by_cases he : z_is e 7
      · obtain ⟨w, hw, rfl⟩ := z_is_n he
        have w0 := n_lt0 (j := w) (by omega)
        have w3 := n_le (i := w) (j := 6) (by omega) (by decide)
        have w3' : w ≤ 6 := by omega
        by_cases q1 : h.1 k = (-1 : Int32)
        · simp only [u98_0, u98_1, u98_2, u98_5, u98_5n, u98_7, u98_7n, u98_9n, u98_9, u98_12, u98_13, u98_16, u98_17, u98_18, u98_21, u98_23, u98_26, u98_28, u98_30, u98_33, u98_35, u98_36, u98_36n, u98_38, u98_41, u98_42, u98_45, u98_47, e98, u198_0, u198_1, u198_2, u198_3, u198_6, u198_9, u198_10, u198_11, u198_12, u198_15, u198_18, u198_20, u198_21, u198_23, u198_26, u198_29, u198_31, u198_32, u198_33, u198_36, u198_37, u198_38, u198_39, u198_42, u198_44, e198, q_push_s, q_push_n, q_sm_0, q_sm_i, q_sm_r, q_sm_n, q_sm_l, q_c1_0, q_c1_i, q_c1_r, q_c1_n, Nat.zero_add, Nat.reduceAdd, Nat.reduceMul, Nat.reduceSub, Nat.reduceLeDiff, Nat.reduceLT, Nat.reduceEqDiff, true_and, and_true, not_false_eq_true, if_true, if_false, ite_true, ite_false, or_true, true_or, or_false, false_or, not_true_eq_false, io0, c_sheetAt hk, h950, gfs0 hk, gf38_17, ia47 hk, b4, b5, q1, k0, k3, k3', s0, s3, s3', w0, w3, w3', c_in, and_self, z_b_z, Nat.zero_le, Nat.reduceLeDiff]
          exact hK _ _ _ l
        · by_cases q2 : h.1 k = nI so
          · have q1' : (nI so = (-1 : Int32)) = False := (i_nm (j := so) (by omega)).2.1
            simp only [u98_0, u98_1, u98_2, u98_5, u98_5n, u98_7, u98_7n, u98_9n, u98_9, u98_12, u98_13, u98_16, u98_17, u98_18, u98_21, u98_23, u98_26, u98_28, u98_30, u98_33, u98_35, u98_36, u98_36n, u98_38, u98_41, u98_42, u98_45, u98_47, u98_48, u98_48n, u98_50, u98_53, u98_54, u98_57, u98_59, u98_60, u98_61, u98_63, u98_64, e98, q_push_s, q_push_n, q_sm_0, q_sm_i, q_sm_r, q_sm_n, q_sm_l, q_c1_0, q_c1_i, q_c1_r, q_c1_n, Nat.zero_add, Nat.reduceAdd, Nat.reduceMul, Nat.reduceSub, Nat.reduceLeDiff, Nat.reduceLT, Nat.reduceEqDiff, true_and, and_true, not_false_eq_true, if_true, if_false, ite_true, ite_false, or_true, true_or, or_false, false_or, not_true_eq_false, io0, c_sheetAt hk, h950, gfs0 hk, b4, q1', q2, k0, k3, k3', s0, s3, s3', w0, w3, w3', Nat.zero_le, Nat.reduceLeDiff]
            by_cases hw0 : w = 0
            · subst hw0
              simp only [u98_66, u98_68, u98_70, u98_139, u98_141, u198_0, u198_1, u198_2, u198_3, u198_6, u198_9, u198_10, u198_11, u198_12, u198_15, u198_18, u198_20, u198_21, u198_23, u198_26, u198_29, u198_31, u198_32, u198_33, u198_36, u198_37, u198_38, u198_39, u198_42, u198_44, u198_45, u198_46, u198_49, u198_50, u198_51, u198_52, u198_55, u198_57, u198_58, u198_59, u198_61, u198_62, u198_64, u198_66, u198_68, u198_153, u198_155, e198, q_push_s, q_push_n, q_sm_0, q_sm_i, q_sm_r, q_sm_n, q_sm_l, q_c1_0, q_c1_i, q_c1_r, q_c1_n, Nat.zero_add, Nat.reduceAdd, Nat.reduceMul, Nat.reduceSub, Nat.reduceLeDiff, Nat.reduceLT, Nat.reduceEqDiff, true_and, and_true, not_false_eq_true, if_true, if_false, ite_true, ite_false, or_true, true_or, or_false, false_or, not_true_eq_false, eq_self, lq_0_1, lq_0_2, lq_0_3, lq_0_4, lq_0_5, lq_0_6, lq_1_0, lq_1_2, lq_1_3, lq_1_4, lq_1_5, lq_1_6, lq_2_0, lq_2_1, lq_2_3, lq_2_4, lq_2_5, lq_2_6, lq_3_0, lq_3_1, lq_3_2, lq_3_4, lq_3_5, lq_3_6, lq_4_0, lq_4_1, lq_4_2, lq_4_3, lq_4_5, lq_4_6, lq_5_0, lq_5_1, lq_5_2, lq_5_3, lq_5_4, lq_5_6, lq_6_0, lq_6_1, lq_6_2, lq_6_3, lq_6_4, lq_6_5, ll_0_0, ll_0_1, ll_0_2, ll_0_3, ll_0_4, ll_0_5, ll_0_6, ll_1_0, ll_1_1, ll_1_2, ll_1_3, ll_1_4, ll_1_5, ll_1_6, ll_2_0, ll_2_1, ll_2_2, ll_2_3, ll_2_4, ll_2_5, ll_2_6, ll_3_0, ll_3_1, ll_3_2, ll_3_3, ll_3_4, ll_3_5, ll_3_6, ll_4_0, ll_4_1, ll_4_2, ll_4_3, ll_4_4, ll_4_5, ll_4_6, ll_5_0, ll_5_1, ll_5_2, ll_5_3, ll_5_4, ll_5_5, ll_5_6, ll_6_0, ll_6_1, ll_6_2, ll_6_3, ll_6_4, ll_6_5, ll_6_6, le_0_0, le_0_1, le_0_2, le_0_3, le_0_4, le_0_5, le_0_6, le_1_0, le_1_1, le_1_2, le_1_3, le_1_4, le_1_5, le_1_6, le_2_0, le_2_1, le_2_2, le_2_3, le_2_4, le_2_5, le_2_6, le_3_0, le_3_1, le_3_2, le_3_3, le_3_4, le_3_5, le_3_6, le_4_0, le_4_1, le_4_2, le_4_3, le_4_4, le_4_5, le_4_6, le_5_0, le_5_1, le_5_2, le_5_3, le_5_4, le_5_5, le_5_6, le_6_0, le_6_1, le_6_2, le_6_3, le_6_4, le_6_5, le_6_6, gf38_17, ia47 hk, b5, q1', q2, k0, k3, k3', s0, s3, s3', c_in, and_self, z_b_z, Nat.zero_le, Nat.reduceLeDiff]
              exact hK _ _ _ l
            · have w0' : (nI 0 < nI w) = True := by rw [n_lt (by decide) (by omega)]; exact eq_true (by omega)
              by_cases hc : z_is c 1000
              · obtain ⟨x, hx, rfl⟩ := z_is_n hc
                refine l_gby (s := s) (cs := fun i => h.2.2 k i) (sz := h.2.1 k) (c := w) (i := 0) hk b3 hx _ d w3' (nI 0) m _ (of_eq_true q_c1_0) (by omega) l.bz l.cl b6 (fun i hi => (b8 i hi).1) (fun m1 f1 hC1 => ?_)
                have e47 : m1 47 = m 47 := f1 47 (by decide)
                simp only [u198_0, u198_1, u198_2, u198_3, u198_6, u198_9, u198_10, u198_11, u198_12, u198_15, u198_18, u198_20, u198_21, u198_23, u198_26, u198_29, u198_31, u198_32, u198_33, u198_36, u198_37, u198_38, u198_39, u198_42, u198_44, u198_45, u198_46, u198_49, u198_50, u198_51, u198_52, u198_55, u198_57, u198_58, u198_59, u198_61, u198_62, e198, q_push_s, q_push_n, q_sm_0, q_sm_i, q_sm_r, q_sm_n, q_sm_l, q_c1_0, q_c1_i, q_c1_r, q_c1_n, Nat.zero_add, Nat.reduceAdd, Nat.reduceMul, Nat.reduceSub, Nat.reduceLeDiff, Nat.reduceLT, Nat.reduceEqDiff, true_and, and_true, not_false_eq_true, if_true, if_false, ite_true, ite_false, or_true, true_or, or_false, false_or, not_true_eq_false, gf38_17, ia47 hk, e47, b5, q1', q2, k0, k3, k3', s0, s3, s3', w0, w3, w3', c_in, and_self, z_b_z, Nat.zero_le, Nat.reduceLeDiff]
                have hM1 : IMo s m1 := l.mo.fr (by rw [f1 38 (by decide)]) (by rw [f1 38 (by decide)]) (by rw [f1 38 (by decide)]) (fun k' h1 h2 => f1 k' (by omega))
                refine l_gby8 (s := s) (cs := fun i => h.2.2 k i) (sz := h.2.1 k) (c := w) (i := 0) hk b3 hx _ d w3' (nI 0) m1 _ _ (of_eq_true q_c1_0) (of_eq_true q_c1_0) (by omega) l.bz hM1 (by rw [f1 48 (by decide)]; exact b7) (fun i hi => by rw [f1 49 (by decide)]; exact (b8 i hi).2) (fun m2 f2 hM2 => ?_)
                obtain ⟨r1, r2, r3, r4⟩ := z_gb_b (fun i => h.2.2 k i) (h.2.1 k) x w 0 s (nI 0) l.bz
                exact hK _ _ _ (l.gg f1 f2 r1 r2 r3 r4 hC1 hM2)
              · have e20 : nI 2 * nI 0 = nI 0 := by rw [n_mul]
                rcases z_nin (n := 1000) (by decide) hc with q | ⟨q3, q4⟩
                · simp only [u98_66, u98_68, u98_70, u98_73, u98_74, u98_75, u98_77, u98_78, u98_79, u98_81, u98_83, u98_86, u98_88, u98_88n, u98_90, u98_93, u98_94, u98_95, u98_98, u98_100, u198_0, u198_1, u198_2, u198_3, u198_6, u198_9, u198_10, u198_11, u198_12, u198_15, u198_18, u198_20, u198_21, u198_23, u198_26, u198_29, u198_31, u198_32, u198_33, u198_36, u198_37, u198_38, u198_39, u198_42, u198_44, u198_45, u198_46, u198_49, u198_50, u198_51, u198_52, u198_55, u198_57, u198_58, u198_59, u198_61, u198_62, u198_64, u198_66, u198_68, u198_71, u198_72, u198_73, u198_75, u198_76, u198_77, u198_79, u198_80, u198_83, u198_85, u198_86, u198_89, u198_91, u198_92, u198_95, u198_96, u198_97, u198_98, u198_99, u198_102, u198_104, e198, q_push_s, q_push_n, q_sm_0, q_sm_i, q_sm_r, q_sm_n, q_sm_l, q_c1_0, q_c1_i, q_c1_r, q_c1_n, Nat.zero_add, Nat.reduceAdd, Nat.reduceMul, Nat.reduceSub, Nat.reduceLeDiff, Nat.reduceLT, Nat.reduceEqDiff, true_and, and_true, not_false_eq_true, if_true, if_false, ite_true, ite_false, or_true, true_or, or_false, false_or, not_true_eq_false, w0', e20, n_add0, q, gf38_17, ia47 hk, b5, q1', q2, k0, k3, k3', s0, s3, s3', w0, w3, w3', c_in, and_self, z_b_z, Nat.zero_le, Nat.reduceLeDiff]
                  exact hK _ _ _ l
                · have q5 : (c ≤ nI (h.2.1 k) - nI 2) = False := eq_false (fun e => by
                    rw [Int32.le_iff_toInt_le, pk_sub_toInt (by omega) (by omega)] at e
                    rw [Int32.lt_iff_toInt_lt, nI_toInt (n := 1000) (by decide)] at q4
                    omega)
                  have q6 : (c < c) = False := eq_false (fun e => by rw [Int32.lt_iff_toInt_lt] at e; omega)
                  simp only [u98_66, u98_68, u98_70, u98_73, u98_74, u98_75, u98_77, u98_78, u98_79, u98_81, u98_83, u98_86, u98_88, u98_88n, u98_90, u98_93, u98_94, u98_95, u98_98, u98_100, u198_0, u198_1, u198_2, u198_3, u198_6, u198_9, u198_10, u198_11, u198_12, u198_15, u198_18, u198_20, u198_21, u198_23, u198_26, u198_29, u198_31, u198_32, u198_33, u198_36, u198_37, u198_38, u198_39, u198_42, u198_44, u198_45, u198_46, u198_49, u198_50, u198_51, u198_52, u198_55, u198_57, u198_58, u198_59, u198_61, u198_62, u198_64, u198_66, u198_68, u198_71, u198_72, u198_73, u198_75, u198_76, u198_77, u198_79, u198_80, u198_83, u198_85, u198_86, u198_89, u198_91, u198_92, u198_95, u198_96, u198_97, u198_98, u198_99, u198_102, u198_104, e198, q_push_s, q_push_n, q_sm_0, q_sm_i, q_sm_r, q_sm_n, q_sm_l, q_c1_0, q_c1_i, q_c1_r, q_c1_n, Nat.zero_add, Nat.reduceAdd, Nat.reduceMul, Nat.reduceSub, Nat.reduceLeDiff, Nat.reduceLT, Nat.reduceEqDiff, true_and, and_true, not_false_eq_true, if_true, if_false, ite_true, ite_false, or_true, true_or, or_false, false_or, not_true_eq_false, w0', e20, n_add0, q3, q5, q6, gfs1 hk, b6, gf38_17, gf38_18, ia47 hk, ia48 hk, b5, b7, q1', q2, k0, k3, k3', s0, s3, s3', w0, w3, w3', c_in, and_self, z_b_z, Nat.zero_le, Nat.reduceLeDiff]
                  exact hK _ _ _ l
          · simp only [u98_0, u98_1, u98_2, u98_5, u98_5n, u98_7, u98_7n, u98_9n, u98_9, u98_12, u98_13, u98_16, u98_17, u98_18, u98_21, u98_23, u98_26, u98_28, u98_30, u98_33, u98_35, u98_36, u98_36n, u98_38, u98_41, u98_42, u98_45, u98_47, u98_48, u98_48n, u98_50, u98_53, u98_54, u98_57, u98_59, e98, u198_0, u198_1, u198_2, u198_3, u198_6, u198_9, u198_10, u198_11, u198_12, u198_15, u198_18, u198_20, u198_21, u198_23, u198_26, u198_29, u198_31, u198_32, u198_33, u198_36, u198_37, u198_38, u198_39, u198_42, u198_44, u198_45, u198_46, u198_49, u198_50, u198_51, u198_52, u198_55, u198_57, e198, q_push_s, q_push_n, q_sm_0, q_sm_i, q_sm_r, q_sm_n, q_sm_l, q_c1_0, q_c1_i, q_c1_r, q_c1_n, Nat.zero_add, Nat.reduceAdd, Nat.reduceMul, Nat.reduceSub, Nat.reduceLeDiff, Nat.reduceLT, Nat.reduceEqDiff, true_and, and_true, not_false_eq_true, if_true, if_false, ite_true, ite_false, or_true, true_or, or_false, false_or, not_true_eq_false, io0, c_sheetAt hk, h950, gfs0 hk, gf38_17, ia47 hk, b4, b5, q1, q2, k0, k3, k3', s0, s3, s3', w0, w3, w3', c_in, and_self, z_b_z, Nat.zero_le, Nat.reduceLeDiff]
            exact hK _ _ _ l
      · rcases z_is_f (n := 6) (by decide) he with q | ⟨q1, q2⟩
        · simp only [u98_0, u98_1, u98_2, u98_5, u98_5n, u98_7, u98_7n, u98_9n, u98_9, u98_12, u98_13, u98_16, u98_17, u98_18, u98_21, u98_23, u98_26, u98_28, u98_30, u98_33, u98_35, e98, u198_0, u198_1, u198_2, u198_3, u198_6, u198_9, u198_10, u198_11, u198_12, u198_15, u198_18, u198_20, u198_21, u198_23, u198_26, u198_29, u198_31, e198, q_push_s, q_push_n, q_sm_0, q_sm_i, q_sm_r, q_sm_n, q_sm_l, q_c1_0, q_c1_i, q_c1_r, q_c1_n, Nat.zero_add, Nat.reduceAdd, Nat.reduceMul, Nat.reduceSub, Nat.reduceLeDiff, Nat.reduceLT, Nat.reduceEqDiff, true_and, and_true, not_false_eq_true, if_true, if_false, ite_true, ite_false, or_true, true_or, or_false, false_or, not_true_eq_false, io0, c_sheetAt hk, h950, k0, k3, k3', s0, s3, s3', q, c_in, and_self, false_and, z_b_z, Nat.zero_le, Nat.reduceLeDiff]
          exact hK _ _ _ l
        · simp only [u98_0, u98_1, u98_2, u98_5, u98_5n, u98_7, u98_7n, u98_9n, u98_9, u98_12, u98_13, u98_16, u98_17, u98_18, u98_21, u98_23, u98_26, u98_28, u98_30, u98_33, u98_35, e98, u198_0, u198_1, u198_2, u198_3, u198_6, u198_9, u198_10, u198_11, u198_12, u198_15, u198_18, u198_20, u198_21, u198_23, u198_26, u198_29, u198_31, e198, q_push_s, q_push_n, q_sm_0, q_sm_i, q_sm_r, q_sm_n, q_sm_l, q_c1_0, q_c1_i, q_c1_r, q_c1_n, Nat.zero_add, Nat.reduceAdd, Nat.reduceMul, Nat.reduceSub, Nat.reduceLeDiff, Nat.reduceLT, Nat.reduceEqDiff, true_and, and_true, not_false_eq_true, if_true, if_false, ite_true, ite_false, or_true, true_or, or_false, false_or, not_true_eq_false, io0, c_sheetAt hk, h950, k0, k3, k3', s0, s3, s3', q1, q2, c_in, and_self, and_false, z_b_z, Nat.zero_le, Nat.reduceLeDiff]
          exact hK _ _ _ l
    · rcases z_is_f (n := 2) (by decide) hb with q | ⟨q1, q2⟩
      · simp only [u98_0, u98_1, u98_2, u98_5, u98_5n, u98_7, u98_7n, u98_9n, u98_9, u98_12, u98_13, u98_16, u98_17, u98_18, u98_21, u98_23, u98_26, u98_28, u98_30, u98_33, u98_35, e98, u198_0, u198_1, u198_2, u198_3, u198_6, u198_9, u198_10, u198_11, u198_12, u198_15, u198_18, u198_20, u198_21, u198_23, u198_26, u198_29, u198_31, e198, q_push_s, q_push_n, q_sm_0, q_sm_i, q_sm_r, q_sm_n, q_sm_l, q_c1_0, q_c1_i, q_c1_r, q_c1_n, Nat.zero_add, Nat.reduceAdd, Nat.reduceMul, Nat.reduceSub, Nat.reduceLeDiff, Nat.reduceLT, Nat.reduceEqDiff, true_and, and_true, not_false_eq_true, if_true, if_false, ite_true, ite_false, or_true, true_or, or_false, false_or, not_true_eq_false, io0, c_sheetAt hk, h950, k0, k3, k3', q, c_in, and_self, false_and, z_b_z, Nat.zero_le, Nat.reduceLeDiff]
        exact hK _ _ _ l
      · simp only [u98_0, u98_1, u98_2, u98_5, u98_5n, u98_7, u98_7n, u98_9n, u98_9, u98_12, u98_13, u98_16, u98_17, u98_18, u98_21, u98_23, u98_26, u98_28, u98_30, u98_33, u98_35, e98, u198_0, u198_1, u198_2, u198_3, u198_6, u198_9, u198_10, u198_11, u198_12, u198_15, u198_18, u198_20, u198_21, u198_23, u198_26, u198_29, u198_31, e198, q_push_s, q_push_n, q_sm_0, q_sm_i, q_sm_r, q_sm_n, q_sm_l, q_c1_0, q_c1_i, q_c1_r, q_c1_n, Nat.zero_add, Nat.reduceAdd, Nat.reduceMul, Nat.reduceSub, Nat.reduceLeDiff, Nat.reduceLT, Nat.reduceEqDiff, true_and, and_true, not_false_eq_true, if_true, if_false, ite_true, ite_false, or_true, true_or, or_false, false_or, not_true_eq_false, io0, c_sheetAt hk, h950, k0, k3, k3', q1, q2, c_in, and_self, and_false, z_b_z, Nat.zero_le, Nat.reduceLeDiff]
        exact hK _ _ _ l
  · rcases z_is_f (n := 3) (by decide) ha with q | ⟨q1, q2⟩
    · simp only [u98_0, u98_1, u98_2, u98_5, u98_5n, u98_7, u98_7n, u98_9n, u98_9, u98_12, u98_13, u98_16, u98_17, u98_18, u98_21, u98_23, u98_26, u98_28, u98_30, u98_33, u98_35, e98, u198_0, u198_1, u198_2, u198_3, u198_6, u198_9, u198_10, u198_11, u198_12, u198_15, u198_18, u198_20, u198_21, u198_23, u198_26, u198_29, u198_31, e198, q_push_s, q_push_n, q_sm_0, q_sm_i, q_sm_r, q_sm_n, q_sm_l, q_c1_0, q_c1_i, q_c1_r, q_c1_n, Nat.zero_add, Nat.reduceAdd, Nat.reduceMul, Nat.reduceSub, Nat.reduceLeDiff, Nat.reduceLT, Nat.reduceEqDiff, true_and, and_true, not_false_eq_true, if_true, if_false, ite_true, ite_false, or_true, true_or, or_false, false_or, not_true_eq_false, io0, c_sheetAt0 ha, q, c_in, false_and, z_b_z, Nat.zero_le, Nat.reduceLeDiff]
      exact hK _ _ _ l
    · simp only [u98_0, u98_1, u98_2, u98_5, u98_5n, u98_7, u98_7n, u98_9n, u98_9, u98_12, u98_13, u98_16, u98_17, u98_18, u98_21, u98_23, u98_26, u98_28, u98_30, u98_33, u98_35, e98, u198_0, u198_1, u198_2, u198_3, u198_6, u198_9, u198_10, u198_11, u198_12, u198_15, u198_18, u198_20, u198_21, u198_23, u198_26, u198_29, u198_31, e198, q_push_s, q_push_n, q_sm_0, q_sm_i, q_sm_r, q_sm_n, q_sm_l, q_c1_0, q_c1_i, q_c1_r, q_c1_n, Nat.zero_add, Nat.reduceAdd, Nat.reduceMul, Nat.reduceSub, Nat.reduceLeDiff, Nat.reduceLT, Nat.reduceEqDiff, true_and, and_true, not_false_eq_true, if_true, if_false, ite_true, ite_false, or_true, true_or, or_false, false_or, not_true_eq_false, io0, c_sheetAt0 ha, q1, q2, c_in, and_false, z_b_z, Nat.zero_le, Nat.reduceLeDiff]
      exact hK _ _ _ l
end
