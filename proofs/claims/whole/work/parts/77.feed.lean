/-! ===== feed ===== -/
section
variable {T : List Nat} {L : Nat} {m : q_M} {K : Option Value → q_G → q_M → Prop}
theorem c_add {d z : Nat} (hz : z < 160) (h1 : m 26 1 = nI z) (b : Int32) : q_C 24 (d + 1) [.ref 26, .int b] (GG T L) m K ↔ K none (GG T L) (q_up (q_up m 27 z b) 26 1 (nI (z + 1))) := by
  have e1 := n_lt (i := z) (j := 160) (by omega) (by decide)
  have e2 : q_up m 27 z b 26 1 = nI z := by rw [q_up_f _ _ _ (by decide)]; exact h1
  simp only [e24, u24_0, u24_1, u24_4, u24_7, u24_10, u24_11, u24_12, u24_15, u24_16, u24_19, u24_20, u24_23, u24_24, u24_24r, u24_25, u24_28, u24_29, u24_30, u24_33, e24, q_push_s, q_push_n, q_sm_0, q_sm_i, q_sm_r, q_sm_n, q_sm_l, q_c1_0, q_c1_i, q_c1_r, q_c1_n, Nat.zero_add, Nat.reduceAdd, Nat.reduceMul, Nat.reduceSub, Nat.reduceLeDiff, Nat.reduceLT, Nat.reduceEqDiff, true_and, and_true, not_false_eq_true, if_true, if_false, ite_true, ite_false, or_true, true_or, or_false, false_or, not_true_eq_false, gf26_0, gf26_1, pf26_1, h1, e1, hz, c_put (j := z) sh27 (by decide) (by decide) hz, e2, n_add, Nat.zero_le]
theorem l_feed {N : Nat} (hN : N ≤ 5) {bs : Nat → Nat} (d : Nat) : ∀ c i z m, i + c = N → z + c ≤ 160 → m 26 1 = nI z → (∀ m', (∀ p, p ≠ 26 → p ≠ 27 → m' p = m p) → (∀ f, f ≠ 1 → m' 26 f = m 26 f) → m' 26 1 = nI (z + c) → (∀ x, m' 27 x = if z ≤ x ∧ x < z + c then nI (bs (i + (x - z))) else m 27 x) → K (some (.int (nI (z + c)))) (GG T L) m') →
    q_R 61 75 (d + 2) [some (.ref 0), some (.int (nI N)), some (.int (nI (bs 0))), some (.int (nI (bs 1))), some (.int (nI (bs 2))), some (.int (nI (bs 3))), some (.int (nI (bs 4))), some (.int (nI i))] [] (GG T L) m K
  | 0, i, z, m, hi, hz, h1, hK => by
    have e : i = N := by omega
    subst e
    simp only [u61_75, u61_77, u61_78, u61_137, u61_138, u61_141, u61_144, q_push_s, q_push_n, q_sm_0, q_sm_i, q_sm_r, q_sm_n, q_sm_l, q_c1_0, q_c1_i, q_c1_r, q_c1_n, Nat.zero_add, Nat.reduceAdd, Nat.reduceMul, Nat.reduceSub, Nat.reduceLeDiff, Nat.reduceLT, Nat.reduceEqDiff, true_and, and_true, not_false_eq_true, if_true, if_false, ite_true, ite_false, or_true, true_or, or_false, false_or, not_true_eq_false, n_lt (i := i) (j := i) (by omega) (by omega), Nat.lt_irrefl, gf0_5, gf26_1, h1]
    exact hK m (fun _ _ _ => rfl) (fun _ _ => rfl) h1 (fun x => by rw [if_neg (by omega)])
  | c + 1, i, z, m, hi, hz, h1, hK => by
    have e : i < N := by omega
    have hz' : z < 160 := by omega
    have fin : ∀ b, b = bs i → q_R 61 128 (d + 2) [some (.ref 0), some (.int (nI N)), some (.int (nI (bs 0))), some (.int (nI (bs 1))), some (.int (nI (bs 2))), some (.int (nI (bs 3))), some (.int (nI (bs 4))), some (.int (nI i))] [.int (nI b), .ref 26] (GG T L) m K := by
      intro b hb
      subst hb
      simp only [u61_128, u61_131, u61_134, q_push_s, q_push_n, q_sm_0, q_sm_i, q_sm_r, q_sm_n, q_sm_l, q_c1_0, q_c1_i, q_c1_r, q_c1_n, Nat.zero_add, Nat.reduceAdd, Nat.reduceMul, Nat.reduceSub, Nat.reduceLeDiff, Nat.reduceLT, Nat.reduceEqDiff, true_and, and_true, not_false_eq_true, if_true, if_false, ite_true, ite_false, or_true, true_or, or_false, false_or, not_true_eq_false, io26, c_add hz' h1, n_add, Nat.zero_le, Nat.reduceLeDiff]
      refine l_feed hN d c (i + 1) (z + 1) _ (by omega) (by omega) (q_up_eq _ _ _ _) (fun m' f1 f2 f3 f4 => ?_)
      have ez : z + 1 + c = z + (c + 1) := by omega
      rw [ez] at f3 ⊢
      refine hK m' (fun p p1 p2 => by rw [f1 p p1 p2, q_up_f _ _ _ p1, q_up_f _ _ _ p2]) (fun f hf => by rw [f2 f hf, q_up_i _ _ hf, q_up_f _ _ _ (by decide)]) f3 (fun x => ?_)
      rw [f4 x, q_up_f _ _ _ (show 27 ≠ 26 by decide)]
      by_cases q : x = z
      · rw [q, if_neg (by omega), q_up_eq, if_pos (by omega), Nat.sub_self, Nat.add_zero]
      · rw [q_up_i _ _ q]
        by_cases q2 : z ≤ x ∧ x < z + (c + 1)
        · rw [if_pos q2, if_pos (by omega), show i + 1 + (x - (z + 1)) = i + (x - z) by omega]
        · rw [if_neg q2, if_neg (by omega)]
    rw [u61_75]
    have hi5 : i = 0 ∨ i = 1 ∨ i = 2 ∨ i = 3 ∨ i = 4 := by omega
    have elt := n_lt (i := i) (j := N) (by omega) (by omega)
    rcases hi5 with rfl | rfl | rfl | rfl | rfl <;> simp only [u61_77, u61_78, u61_81, u61_82, u61_85, u61_87, u61_90, u61_91, u61_94, u61_96, u61_97, u61_100, u61_101, u61_104, u61_106, u61_107, u61_110, u61_112, u61_115, u61_117, u61_118, u61_121, u61_123, u61_126, q_push_s, q_push_n, q_sm_0, q_sm_i, q_sm_r, q_sm_n, q_sm_l, q_c1_0, q_c1_i, q_c1_r, q_c1_n, Nat.zero_add, Nat.reduceAdd, Nat.reduceMul, Nat.reduceSub, Nat.reduceLeDiff, Nat.reduceLT, Nat.reduceEqDiff, true_and, and_true, not_false_eq_true, if_true, if_false, ite_true, ite_false, or_true, true_or, or_false, false_or, not_true_eq_false, eq_self, lq_0_1, lq_0_2, lq_0_3, lq_0_4, lq_0_5, lq_0_6, lq_1_0, lq_1_2, lq_1_3, lq_1_4, lq_1_5, lq_1_6, lq_2_0, lq_2_1, lq_2_3, lq_2_4, lq_2_5, lq_2_6, lq_3_0, lq_3_1, lq_3_2, lq_3_4, lq_3_5, lq_3_6, lq_4_0, lq_4_1, lq_4_2, lq_4_3, lq_4_5, lq_4_6, lq_5_0, lq_5_1, lq_5_2, lq_5_3, lq_5_4, lq_5_6, lq_6_0, lq_6_1, lq_6_2, lq_6_3, lq_6_4, lq_6_5, ll_0_0, ll_0_1, ll_0_2, ll_0_3, ll_0_4, ll_0_5, ll_0_6, ll_1_0, ll_1_1, ll_1_2, ll_1_3, ll_1_4, ll_1_5, ll_1_6, ll_2_0, ll_2_1, ll_2_2, ll_2_3, ll_2_4, ll_2_5, ll_2_6, ll_3_0, ll_3_1, ll_3_2, ll_3_3, ll_3_4, ll_3_5, ll_3_6, ll_4_0, ll_4_1, ll_4_2, ll_4_3, ll_4_4, ll_4_5, ll_4_6, ll_5_0, ll_5_1, ll_5_2, ll_5_3, ll_5_4, ll_5_5, ll_5_6, ll_6_0, ll_6_1, ll_6_2, ll_6_3, ll_6_4, ll_6_5, ll_6_6, le_0_0, le_0_1, le_0_2, le_0_3, le_0_4, le_0_5, le_0_6, le_1_0, le_1_1, le_1_2, le_1_3, le_1_4, le_1_5, le_1_6, le_2_0, le_2_1, le_2_2, le_2_3, le_2_4, le_2_5, le_2_6, le_3_0, le_3_1, le_3_2, le_3_3, le_3_4, le_3_5, le_3_6, le_4_0, le_4_1, le_4_2, le_4_3, le_4_4, le_4_5, le_4_6, le_5_0, le_5_1, le_5_2, le_5_3, le_5_4, le_5_5, le_5_6, le_6_0, le_6_1, le_6_2, le_6_3, le_6_4, le_6_5, le_6_6, elt, e, gf0_5] <;> exact fin _ rfl
theorem l_feed8 {N : Nat} (hN : N ≤ 5) {bs : Nat → Nat} (d : Nat) : ∀ c i z m, i + c = N → z + c ≤ 160 → m 38 7 = nI z → (∀ m', (∀ p, p ≠ 38 → p ≠ 43 → m' p = m p) → (∀ f, f ≠ 7 → m' 38 f = m 38 f) → m' 38 7 = nI (z + c) → (∀ x, m' 43 x = if z ≤ x ∧ x < z + c then nI (bs (i + (x - z))) else m 43 x) → K (some (.int (nI (z + c)))) (GG T L) m') →
    q_R 125 68 d [some (.ref 38), some (.int (nI N)), some (.int (nI (bs 0))), some (.int (nI (bs 1))), some (.int (nI (bs 2))), some (.int (nI (bs 3))), some (.int (nI (bs 4))), some (.int (nI i))] [] (GG T L) m K
  | 0, i, z, m, hi, hz, h1, hK => by
    have e : i = N := by omega
    subst e
    simp only [u125_68, u125_70, u125_71, u125_142, u125_143, u125_146, q_push_s, q_push_n, q_sm_0, q_sm_i, q_sm_r, q_sm_n, q_sm_l, q_c1_0, q_c1_i, q_c1_r, q_c1_n, Nat.zero_add, Nat.reduceAdd, Nat.reduceMul, Nat.reduceSub, Nat.reduceLeDiff, Nat.reduceLT, Nat.reduceEqDiff, true_and, and_true, not_false_eq_true, if_true, if_false, ite_true, ite_false, or_true, true_or, or_false, false_or, not_true_eq_false, n_lt (i := i) (j := i) (by omega) (by omega), Nat.lt_irrefl, gf38_7, h1]
    exact hK m (fun _ _ _ => rfl) (fun _ _ => rfl) h1 (fun x => by rw [if_neg (by omega)])
  | c + 1, i, z, m, hi, hz, h1, hK => by
    have e : i < N := by omega
    have cz : (nI z).toNatClampNeg = z := n_cl (by omega)
    have fin : ∀ b, b = bs i → q_R 125 125 d [some (.ref 38), some (.int (nI N)), some (.int (nI (bs 0))), some (.int (nI (bs 1))), some (.int (nI (bs 2))), some (.int (nI (bs 3))), some (.int (nI (bs 4))), some (.int (nI i))] [.int (nI b), .int (nI z), .ref 43] (GG T L) m K := by
      intro b hb
      subst hb
      have e2 : q_up m 43 z (nI (bs i)) 38 7 = nI z := by rw [q_up_f _ _ _ (by decide)]; exact h1
      simp only [u125_125, u125_126, u125_127, u125_127r, u125_128, u125_131, u125_132, u125_133, u125_136, u125_139, q_push_s, q_push_n, q_sm_0, q_sm_i, q_sm_r, q_sm_n, q_sm_l, q_c1_0, q_c1_i, q_c1_r, q_c1_n, Nat.zero_add, Nat.reduceAdd, Nat.reduceMul, Nat.reduceSub, Nat.reduceLeDiff, Nat.reduceLT, Nat.reduceEqDiff, true_and, and_true, not_false_eq_true, if_true, if_false, ite_true, ite_false, or_true, true_or, or_false, false_or, not_true_eq_false, is43 (i := z) (by omega), cz, gf38_7, pf38_7, e2, n_add]
      refine l_feed8 hN d c (i + 1) (z + 1) _ (by omega) (by omega) (q_up_eq _ _ _ _) (fun m' f1 f2 f3 f4 => ?_)
      have ez : z + 1 + c = z + (c + 1) := by omega
      rw [ez] at f3 ⊢
      refine hK m' (fun p p1 p2 => by rw [f1 p p1 p2, q_up_f _ _ _ p1, q_up_f _ _ _ p2]) (fun f hf => by rw [f2 f hf, q_up_i _ _ hf, q_up_f _ _ _ (by decide)]) f3 (fun x => ?_)
      rw [f4 x, q_up_f _ _ _ (show 43 ≠ 38 by decide)]
      by_cases q : x = z
      · rw [q, if_neg (by omega), q_up_eq, if_pos (by omega), Nat.sub_self, Nat.add_zero]
      · rw [q_up_i _ _ q]
        by_cases q2 : z ≤ x ∧ x < z + (c + 1)
        · rw [if_pos q2, if_pos (by omega), show i + 1 + (x - (z + 1)) = i + (x - z) by omega]
        · rw [if_neg q2, if_neg (by omega)]
    rw [u125_68]
    have hi5 : i = 0 ∨ i = 1 ∨ i = 2 ∨ i = 3 ∨ i = 4 := by omega
    have elt := n_lt (i := i) (j := N) (by omega) (by omega)
    rcases hi5 with rfl | rfl | rfl | rfl | rfl <;> simp only [u125_70, u125_71, u125_74, u125_75, u125_78, u125_79, u125_82, u125_84, u125_87, u125_88, u125_91, u125_93, u125_94, u125_97, u125_98, u125_101, u125_103, u125_104, u125_107, u125_109, u125_112, u125_114, u125_115, u125_118, u125_120, u125_123, q_push_s, q_push_n, q_sm_0, q_sm_i, q_sm_r, q_sm_n, q_sm_l, q_c1_0, q_c1_i, q_c1_r, q_c1_n, Nat.zero_add, Nat.reduceAdd, Nat.reduceMul, Nat.reduceSub, Nat.reduceLeDiff, Nat.reduceLT, Nat.reduceEqDiff, true_and, and_true, not_false_eq_true, if_true, if_false, ite_true, ite_false, or_true, true_or, or_false, false_or, not_true_eq_false, eq_self, lq_0_1, lq_0_2, lq_0_3, lq_0_4, lq_0_5, lq_0_6, lq_1_0, lq_1_2, lq_1_3, lq_1_4, lq_1_5, lq_1_6, lq_2_0, lq_2_1, lq_2_3, lq_2_4, lq_2_5, lq_2_6, lq_3_0, lq_3_1, lq_3_2, lq_3_4, lq_3_5, lq_3_6, lq_4_0, lq_4_1, lq_4_2, lq_4_3, lq_4_5, lq_4_6, lq_5_0, lq_5_1, lq_5_2, lq_5_3, lq_5_4, lq_5_6, lq_6_0, lq_6_1, lq_6_2, lq_6_3, lq_6_4, lq_6_5, ll_0_0, ll_0_1, ll_0_2, ll_0_3, ll_0_4, ll_0_5, ll_0_6, ll_1_0, ll_1_1, ll_1_2, ll_1_3, ll_1_4, ll_1_5, ll_1_6, ll_2_0, ll_2_1, ll_2_2, ll_2_3, ll_2_4, ll_2_5, ll_2_6, ll_3_0, ll_3_1, ll_3_2, ll_3_3, ll_3_4, ll_3_5, ll_3_6, ll_4_0, ll_4_1, ll_4_2, ll_4_3, ll_4_4, ll_4_5, ll_4_6, ll_5_0, ll_5_1, ll_5_2, ll_5_3, ll_5_4, ll_5_5, ll_5_6, ll_6_0, ll_6_1, ll_6_2, ll_6_3, ll_6_4, ll_6_5, ll_6_6, le_0_0, le_0_1, le_0_2, le_0_3, le_0_4, le_0_5, le_0_6, le_1_0, le_1_1, le_1_2, le_1_3, le_1_4, le_1_5, le_1_6, le_2_0, le_2_1, le_2_2, le_2_3, le_2_4, le_2_5, le_2_6, le_3_0, le_3_1, le_3_2, le_3_3, le_3_4, le_3_5, le_3_6, le_4_0, le_4_1, le_4_2, le_4_3, le_4_4, le_4_5, le_4_6, le_5_0, le_5_1, le_5_2, le_5_3, le_5_4, le_5_5, le_5_6, le_6_0, le_6_1, le_6_2, le_6_3, le_6_4, le_6_5, le_6_6, elt, e, gf38_6, gf38_7, h1] <;> exact fin _ rfl
end
section
variable {T : List Nat} {L d : Nat} {xs : Nat → Int32} {s : ZS} {tx : Nat → Nat → List Nat} {n : Nat} {tp : Nat → Nat} {z : Nat} {h : ZH} {wd : Nat → Int32} {m m1 m2 : q_M} {K : Option Value → Option Value → q_G → q_M → Prop}
theorem z_bs5 {b0 c0 e0 f0 k0 : Nat} (hb0 : b0 < 256) (hc0 : c0 < 256) (he0 : e0 < 256) (hf0 : f0 < 256) (hk0 : k0 < 256) : ∃ bs : Nat → Nat, (∀ i, bs i < 256) ∧ b0 = bs 0 ∧ c0 = bs 1 ∧ e0 = bs 2 ∧ f0 = bs 3 ∧ k0 = bs 4 := by
  refine ⟨fun i => if i = 0 then b0 else if i = 1 then c0 else if i = 2 then e0 else if i = 3 then f0 else k0, fun i => ?_, rfl, rfl, rfl, rfl, rfl⟩
  show (if i = 0 then b0 else if i = 1 then c0 else if i = 2 then e0 else if i = 3 then f0 else k0) < 256
  split
  · exact hb0
  · split
    · exact hc0
    · split
      · exact he0
      · split
        · exact hf0
        · exact hk0
def z_tp (tp : Nat → Nat) (z : Nat) (bs : Nat → Nat) (x : Nat) : Nat := if z ≤ x then bs (x - z) else tp x
theorem p_feed (l : LJ T L xs s tx n tp z h wd m) (a b c e f k : Int32) (hK : ∀ r tp' z' m', LJ T L xs s tx n tp' z' h wd m' → K (some (.int r)) (some (.int r)) (GG T L) m') :
    q_C 61 (d + 3) [.ref 0, .int a, .int b, .int c, .int e, .int f, .int k] (GG T L) m (fun v g m => q_C 125 (d + 3) [.ref 38, .int a, .int b, .int c, .int e, .int f, .int k] g m (fun v' g m => K v v' g m)) := by
  obtain ⟨t1, t2, t3, t4⟩ := l.tpe
  by_cases ha : nI 1 ≤ a ∧ a ≤ nI 5
  · obtain ⟨a1, a2⟩ := ha
    have a1' := a1
    have a2' := a2
    rw [Int32.le_iff_toInt_le, nI_toInt (by decide)] at a1' a2'
    obtain ⟨N, hN, rfl⟩ := z_is_n (v := a) (n := 6) ⟨by omega, by omega⟩
    rw [nI_toInt (by omega)] at a1' a2'
    have hN1 := n_lt (i := N) (j := 1) (by omega) (by decide)
    have hN1' : ¬ N < 1 := by omega
    have hN2 := n_le (i := N) (j := 5) (by omega) (by decide)
    have hN2' : N ≤ 5 := by omega
    by_cases hb : z_is b 256
    · by_cases hc : z_is c 256
      · by_cases he : z_is e 256
        · by_cases hf : z_is f 256
          · by_cases hk : z_is k 256
            · obtain ⟨b0, hb0, rfl⟩ := z_is_n hb
              obtain ⟨c0, hc0, rfl⟩ := z_is_n hc
              obtain ⟨e0, he0, rfl⟩ := z_is_n he
              obtain ⟨f0, hf0, rfl⟩ := z_is_n hf
              obtain ⟨k0, hk0, rfl⟩ := z_is_n hk
              obtain ⟨bs, hbs, rfl, rfl, rfl, rfl, rfl⟩ := z_bs5 hb0 hc0 he0 hf0 hk0
              have hle := n_le (i := z + N) (j := 160) (by omega) (by decide)
              by_cases q : z + N ≤ 160
              · simp only [u61_0, u61_1, u61_2, u61_5, u61_6, u61_7, u61_10, u61_12, u61_13, u61_14, u61_17, u61_20, u61_21, u61_24, u61_27, u61_29, u61_32, u61_35, u61_37, u61_40, u61_43, u61_45, u61_48, u61_51, u61_53, u61_54, u61_55, u61_58, u61_61, u61_62, u61_63, u61_66, u61_69, u61_71, u61_72, u61_73, e61, q_push_s, q_push_n, q_sm_0, q_sm_i, q_sm_r, q_sm_n, q_sm_l, q_c1_0, q_c1_i, q_c1_r, q_c1_n, Nat.zero_add, Nat.reduceAdd, Nat.reduceMul, Nat.reduceSub, Nat.reduceLeDiff, Nat.reduceLT, Nat.reduceEqDiff, true_and, and_true, not_false_eq_true, if_true, if_false, ite_true, ite_false, or_true, true_or, or_false, false_or, not_true_eq_false, hN1, hN1', hN2, hN2', c_isByte, hb, hc, he, hf, hk, z_b_z, gf0_5, gf26_1, t2, n_add, hle, q, Nat.zero_le, Nat.reduceLeDiff]
                refine l_feed (bs := bs) hN2' (d + 1) N 0 z m (by omega) q t2 (fun m1 f1 f2 f3 f4 => ?_)
                have e38 : m1 38 = m 38 := f1 38 (by decide) (by decide)
                have t3' : m1 38 7 = nI z := by rw [e38]; exact t3
                simp only [u125_0, u125_1, u125_2, u125_3, u125_6, u125_9, u125_10, u125_13, u125_16, u125_17, u125_20, u125_23, u125_25, u125_28, u125_31, u125_33, u125_36, u125_39, u125_41, u125_44, u125_47, u125_49, u125_50, u125_51, u125_54, u125_55, u125_56, u125_59, u125_62, u125_64, u125_65, u125_66, e125, q_push_s, q_push_n, q_sm_0, q_sm_i, q_sm_r, q_sm_n, q_sm_l, q_c1_0, q_c1_i, q_c1_r, q_c1_n, Nat.zero_add, Nat.reduceAdd, Nat.reduceMul, Nat.reduceSub, Nat.reduceLeDiff, Nat.reduceLT, Nat.reduceEqDiff, true_and, and_true, not_false_eq_true, if_true, if_false, ite_true, ite_false, or_true, true_or, or_false, false_or, not_true_eq_false, hN1, hN1', hN2, hN2', c_in, and_self, not_false_eq_true, c_isByte8, hb, hc, he, hf, hk, z_b_z, gf38_7, t3', n_add, hle, q, Nat.zero_le, Nat.reduceLeDiff]
                refine l_feed8 (bs := bs) hN2' (d + 3) N 0 z m1 (by omega) q t3' (fun m2 g1 g2 g3 g4 => ?_)
                have hk2 : ∀ p, p ≠ 26 → p ≠ 27 → p ≠ 38 → p ≠ 43 → m2 p = m p := fun p p1 p2 p3 p4 => by rw [g1 p p3 p4, f1 p p1 p2]
                have h38 : ∀ f, f ≠ 7 → m2 38 f = m 38 f := fun f hf => by rw [g2 f hf, e38]
                refine hK _ (z_tp tp z bs) (z + N) m2 (l.gen (fun p hp => hk2 p (by omega) (by omega) (by omega) (by omega)) (by rw [hk2 2 (by decide) (by decide) (by decide) (by decide)]) (h38 10 (by decide)) l.bz l.iw.2.2.1 (l.cl.fr (fun p h1 h2 => hk2 p (by omega) (by omega) (by omega) (by omega))) (l.mo.fr (h38 0 (by decide)) (h38 5 (by decide)) (h38 11 (by decide)) (fun p h1 h2 => hk2 p (by omega) (by omega) (by omega) (by omega))) ⟨q, ?_, g3, fun i hi => ?_⟩ ?_ ?_)
                · rw [g1 26 (by decide) (by decide)]; exact f3
                · unfold z_tp
                  rw [g1 27 (by decide) (by decide), f4 i, g4 i, f1 43 (by decide) (by decide)]
                  by_cases q3 : z ≤ i
                  · rw [if_pos q3, if_pos ⟨q3, hi⟩, if_pos ⟨q3, hi⟩, Nat.zero_add]; exact ⟨hbs _, rfl, rfl⟩
                  · rw [if_neg q3, if_neg (fun e => q3 e.1), if_neg (fun e => q3 e.1)]; exact t4 i (by omega)
                · exact l.im.fr (Nat.le_refl _) (fun g _ => ⟨rfl, rfl⟩) (by rw [hk2 0 (by decide) (by decide) (by decide) (by decide)]) (fun f h1 h2 => h38 f (by omega)) (fun p h1 h2 => hk2 p (by omega) (by omega) (by omega) (by omega)) (hk2 46 (by decide) (by decide) (by decide) (by decide))
                · exact l.sh.fr (fun p h1 h2 => hk2 p (by omega) (by omega) (by omega) (by omega)) (hk2 47 (by decide) (by decide) (by decide) (by decide)) (hk2 48 (by decide) (by decide) (by decide) (by decide)) (hk2 49 (by decide) (by decide) (by decide) (by decide))
              · simp only [u61_0, u61_1, u61_2, u61_5, u61_6, u61_7, u61_10, u61_12, u61_13, u61_14, u61_17, u61_20, u61_21, u61_24, u61_27, u61_29, u61_32, u61_35, u61_37, u61_40, u61_43, u61_45, u61_48, u61_51, u61_53, u61_54, u61_55, u61_58, u61_61, u61_62, u61_63, u61_66, u61_69, u61_71, e61, u125_0, u125_1, u125_2, u125_3, u125_6, u125_9, u125_10, u125_13, u125_16, u125_17, u125_20, u125_23, u125_25, u125_28, u125_31, u125_33, u125_36, u125_39, u125_41, u125_44, u125_47, u125_49, u125_50, u125_51, u125_54, u125_55, u125_56, u125_59, u125_62, u125_64, e125, q_push_s, q_push_n, q_sm_0, q_sm_i, q_sm_r, q_sm_n, q_sm_l, q_c1_0, q_c1_i, q_c1_r, q_c1_n, Nat.zero_add, Nat.reduceAdd, Nat.reduceMul, Nat.reduceSub, Nat.reduceLeDiff, Nat.reduceLT, Nat.reduceEqDiff, true_and, and_true, not_false_eq_true, if_true, if_false, ite_true, ite_false, or_true, true_or, or_false, false_or, not_true_eq_false, hN1, hN1', hN2, hN2', c_in, and_self, not_false_eq_true, c_isByte, c_isByte8, hb, hc, he, hf, hk, z_b_z, gf0_5, gf26_1, gf38_7, t2, t3, n_add, hle, q, Nat.zero_le, Nat.reduceLeDiff]
                exact hK _ _ _ _ l
            · simp only [u61_0, u61_1, u61_2, u61_5, u61_6, u61_7, u61_10, u61_12, u61_13, u61_14, u61_17, u61_20, u61_21, u61_24, u61_27, u61_29, u61_32, u61_35, u61_37, u61_40, u61_43, u61_45, u61_48, u61_51, u61_53, e61, u125_0, u125_1, u125_2, u125_3, u125_6, u125_9, u125_10, u125_13, u125_16, u125_17, u125_20, u125_23, u125_25, u125_28, u125_31, u125_33, u125_36, u125_39, u125_41, u125_44, u125_47, u125_49, e125, q_push_s, q_push_n, q_sm_0, q_sm_i, q_sm_r, q_sm_n, q_sm_l, q_c1_0, q_c1_i, q_c1_r, q_c1_n, Nat.zero_add, Nat.reduceAdd, Nat.reduceMul, Nat.reduceSub, Nat.reduceLeDiff, Nat.reduceLT, Nat.reduceEqDiff, true_and, and_true, not_false_eq_true, if_true, if_false, ite_true, ite_false, or_true, true_or, or_false, false_or, not_true_eq_false, hN1, hN1', hN2, hN2', c_in, and_self, not_false_eq_true, c_isByte, c_isByte8, hb, hc, he, hf, hk, z_b_z, Nat.zero_le, Nat.reduceLeDiff]
              exact hK _ _ _ _ l
          · simp only [u61_0, u61_1, u61_2, u61_5, u61_6, u61_7, u61_10, u61_12, u61_13, u61_14, u61_17, u61_20, u61_21, u61_24, u61_27, u61_29, u61_32, u61_35, u61_37, u61_40, u61_43, u61_45, u61_48, u61_51, u61_53, e61, u125_0, u125_1, u125_2, u125_3, u125_6, u125_9, u125_10, u125_13, u125_16, u125_17, u125_20, u125_23, u125_25, u125_28, u125_31, u125_33, u125_36, u125_39, u125_41, u125_44, u125_47, u125_49, e125, q_push_s, q_push_n, q_sm_0, q_sm_i, q_sm_r, q_sm_n, q_sm_l, q_c1_0, q_c1_i, q_c1_r, q_c1_n, Nat.zero_add, Nat.reduceAdd, Nat.reduceMul, Nat.reduceSub, Nat.reduceLeDiff, Nat.reduceLT, Nat.reduceEqDiff, true_and, and_true, not_false_eq_true, if_true, if_false, ite_true, ite_false, or_true, true_or, or_false, false_or, not_true_eq_false, hN1, hN1', hN2, hN2', c_in, and_self, not_false_eq_true, c_isByte, c_isByte8, hb, hc, he, hf, z_b_z, Nat.zero_le, Nat.reduceLeDiff]
            exact hK _ _ _ _ l
        · simp only [u61_0, u61_1, u61_2, u61_5, u61_6, u61_7, u61_10, u61_12, u61_13, u61_14, u61_17, u61_20, u61_21, u61_24, u61_27, u61_29, u61_32, u61_35, u61_37, u61_40, u61_43, u61_45, u61_48, u61_51, u61_53, e61, u125_0, u125_1, u125_2, u125_3, u125_6, u125_9, u125_10, u125_13, u125_16, u125_17, u125_20, u125_23, u125_25, u125_28, u125_31, u125_33, u125_36, u125_39, u125_41, u125_44, u125_47, u125_49, e125, q_push_s, q_push_n, q_sm_0, q_sm_i, q_sm_r, q_sm_n, q_sm_l, q_c1_0, q_c1_i, q_c1_r, q_c1_n, Nat.zero_add, Nat.reduceAdd, Nat.reduceMul, Nat.reduceSub, Nat.reduceLeDiff, Nat.reduceLT, Nat.reduceEqDiff, true_and, and_true, not_false_eq_true, if_true, if_false, ite_true, ite_false, or_true, true_or, or_false, false_or, not_true_eq_false, hN1, hN1', hN2, hN2', c_in, and_self, not_false_eq_true, c_isByte, c_isByte8, hb, hc, he, z_b_z, Nat.zero_le, Nat.reduceLeDiff]
          exact hK _ _ _ _ l
      · simp only [u61_0, u61_1, u61_2, u61_5, u61_6, u61_7, u61_10, u61_12, u61_13, u61_14, u61_17, u61_20, u61_21, u61_24, u61_27, u61_29, u61_32, u61_35, u61_37, u61_40, u61_43, u61_45, u61_48, u61_51, u61_53, e61, u125_0, u125_1, u125_2, u125_3, u125_6, u125_9, u125_10, u125_13, u125_16, u125_17, u125_20, u125_23, u125_25, u125_28, u125_31, u125_33, u125_36, u125_39, u125_41, u125_44, u125_47, u125_49, e125, q_push_s, q_push_n, q_sm_0, q_sm_i, q_sm_r, q_sm_n, q_sm_l, q_c1_0, q_c1_i, q_c1_r, q_c1_n, Nat.zero_add, Nat.reduceAdd, Nat.reduceMul, Nat.reduceSub, Nat.reduceLeDiff, Nat.reduceLT, Nat.reduceEqDiff, true_and, and_true, not_false_eq_true, if_true, if_false, ite_true, ite_false, or_true, true_or, or_false, false_or, not_true_eq_false, hN1, hN1', hN2, hN2', c_in, and_self, not_false_eq_true, c_isByte, c_isByte8, hb, hc, z_b_z, Nat.zero_le, Nat.reduceLeDiff]
        exact hK _ _ _ _ l
    · simp only [u61_0, u61_1, u61_2, u61_5, u61_6, u61_7, u61_10, u61_12, u61_13, u61_14, u61_17, u61_20, u61_21, u61_24, u61_27, u61_29, u61_32, u61_35, u61_37, u61_40, u61_43, u61_45, u61_48, u61_51, u61_53, e61, u125_0, u125_1, u125_2, u125_3, u125_6, u125_9, u125_10, u125_13, u125_16, u125_17, u125_20, u125_23, u125_25, u125_28, u125_31, u125_33, u125_36, u125_39, u125_41, u125_44, u125_47, u125_49, e125, q_push_s, q_push_n, q_sm_0, q_sm_i, q_sm_r, q_sm_n, q_sm_l, q_c1_0, q_c1_i, q_c1_r, q_c1_n, Nat.zero_add, Nat.reduceAdd, Nat.reduceMul, Nat.reduceSub, Nat.reduceLeDiff, Nat.reduceLT, Nat.reduceEqDiff, true_and, and_true, not_false_eq_true, if_true, if_false, ite_true, ite_false, or_true, true_or, or_false, false_or, not_true_eq_false, hN1, hN1', hN2, hN2', c_in, and_self, not_false_eq_true, c_isByte, c_isByte8, hb, z_b_z, Nat.zero_le, Nat.reduceLeDiff]
      exact hK _ _ _ _ l
  · by_cases q : a < nI 1
    · simp only [u61_0, u61_1, u61_2, u61_5, u61_6, u61_7, u61_10, u61_12, e61, u125_0, u125_1, u125_2, u125_3, u125_6, u125_9, u125_10, u125_13, u125_16, u125_17, u125_20, u125_23, u125_25, u125_28, u125_31, u125_33, u125_36, u125_39, u125_41, u125_44, u125_47, u125_49, e125, q_push_s, q_push_n, q_sm_0, q_sm_i, q_sm_r, q_sm_n, q_sm_l, q_c1_0, q_c1_i, q_c1_r, q_c1_n, Nat.zero_add, Nat.reduceAdd, Nat.reduceMul, Nat.reduceSub, Nat.reduceLeDiff, Nat.reduceLT, Nat.reduceEqDiff, true_and, and_true, not_false_eq_true, if_true, if_false, ite_true, ite_false, or_true, true_or, or_false, false_or, not_true_eq_false, q, c_in, false_and, z_b_z, Nat.zero_le, Nat.reduceLeDiff]
      exact hK _ _ _ _ l
    · have q2 : ¬ a ≤ nI 5 := fun e => ha ⟨by rw [Int32.lt_iff_toInt_lt] at q; rw [Int32.le_iff_toInt_le]; omega, e⟩
      simp only [u61_0, u61_1, u61_2, u61_5, u61_6, u61_7, u61_10, u61_12, e61, u125_0, u125_1, u125_2, u125_3, u125_6, u125_9, u125_10, u125_13, u125_16, u125_17, u125_20, u125_23, u125_25, u125_28, u125_31, u125_33, u125_36, u125_39, u125_41, u125_44, u125_47, u125_49, e125, q_push_s, q_push_n, q_sm_0, q_sm_i, q_sm_r, q_sm_n, q_sm_l, q_c1_0, q_c1_i, q_c1_r, q_c1_n, Nat.zero_add, Nat.reduceAdd, Nat.reduceMul, Nat.reduceSub, Nat.reduceLeDiff, Nat.reduceLT, Nat.reduceEqDiff, true_and, and_true, not_false_eq_true, if_true, if_false, ite_true, ite_false, or_true, true_or, or_false, false_or, not_true_eq_false, q, q2, c_in, and_false, z_b_z, Nat.zero_le, Nat.reduceLeDiff]
      exact hK _ _ _ _ l
end
