/-! ===== sheets: sheet, cell ===== -/
def z_shs (h : ZH) (k : Nat) (so : Int32) (w : Nat) (cs : Nat → Int32) : ZH := (fun j => if j = k then so else h.1 j, fun j => if j = k then w else h.2.1 j, fun j i => if j = k then cs i else h.2.2 j i)
theorem z_clip_n {w k : Nat} (hk : k < 2 ^ 31) (h : w ≤ k) : z_clip (nI w) k = w := by
  unfold z_clip
  have h1 : ¬ nI w < nI 0 := by rw [n_lt0 (by omega)]; exact fun h => h
  rw [if_neg h1, if_pos (nI_le h hk), nI_toInt (by omega)]
  omega
theorem i_m1 : (-1 : Int32).toInt = -1 := by decide
theorem i_nm {j : Nat} (h : j < 2 ^ 31) : (nI j < (-1 : Int32)) = False ∧ (nI j = (-1 : Int32)) = False ∧ ((-1 : Int32) < nI j) = True ∧ ((-1 : Int32) ≤ nI j) = True := by
  refine ⟨eq_false (fun e => ?_), eq_false (fun e => ?_), eq_true ?_, eq_true ?_⟩
  · rw [Int32.lt_iff_toInt_lt, nI_toInt h, i_m1] at e; omega
  · have := congrArg Int32.toInt e; rw [nI_toInt h, i_m1] at this; omega
  · rw [Int32.lt_iff_toInt_lt, nI_toInt h, i_m1]; omega
  · rw [Int32.le_iff_toInt_le, nI_toInt h, i_m1]; omega
theorem z_sort (b : Int32) : b = (-1 : Int32) ∨ (∃ r, r < 3 ∧ b = nI r) ∨ (¬ z_is b 3 ∧ b < (-1 : Int32) ∧ ¬ b = (-1 : Int32)) ∨ (¬ z_is b 3 ∧ ¬ b < (-1 : Int32) ∧ ¬ b ≤ nI 2 ∧ ¬ b = (-1 : Int32)) := by
  by_cases h1 : b = (-1 : Int32)
  · exact Or.inl h1
  · by_cases h2 : z_is b 3
    · exact Or.inr (Or.inl (z_is_n h2))
    · by_cases h3 : b < (-1 : Int32)
      · exact Or.inr (Or.inr (Or.inl ⟨h2, h3, h1⟩))
      · refine Or.inr (Or.inr (Or.inr ⟨h2, h3, fun h4 => h2 ?_, h1⟩))
        rw [Int32.lt_iff_toInt_lt, i_m1] at h3
        rw [Int32.le_iff_toInt_le, nI_toInt (by decide)] at h4
        have h5 : ¬ b.toInt = -1 := fun e => h1 (by rw [← Int32.toInt_inj, e, i_m1])
        exact ⟨by omega, by omega⟩
section
variable {T : List Nat} {L d : Nat} {m : q_M} {K : Option Value → q_G → q_M → Prop}
theorem gfs0 {k : Nat} (hk : k < 4) {F : Value → Prop} : q_gf 4 0 (GG T L) m (30 + 2 * k) F ↔ F (.int (m (30 + 2 * k) 0)) := by
  have h : k = 0 ∨ k = 1 ∨ k = 2 ∨ k = 3 := by omega
  rcases h with rfl | rfl | rfl | rfl
  · exact gf30_0
  · exact gf32_0
  · exact gf34_0
  · exact gf36_0
theorem gfs1 {k : Nat} (hk : k < 4) {F : Value → Prop} : q_gf 4 1 (GG T L) m (30 + 2 * k) F ↔ F (.int (m (30 + 2 * k) 1)) := by
  have h : k = 0 ∨ k = 1 ∨ k = 2 ∨ k = 3 := by omega
  rcases h with rfl | rfl | rfl | rfl
  · exact gf30_1
  · exact gf32_1
  · exact gf34_1
  · exact gf36_1
theorem gfs2 {k : Nat} (hk : k < 4) {F : Value → Prop} : q_gf 4 2 (GG T L) m (30 + 2 * k) F ↔ F (.ref (31 + 2 * k)) := by
  have h : k = 0 ∨ k = 1 ∨ k = 2 ∨ k = 3 := by omega
  rcases h with rfl | rfl | rfl | rfl
  · exact gf30_2
  · exact gf32_2
  · exact gf34_2
  · exact gf36_2
theorem pfs0 {k : Nat} (hk : k < 4) {v : Int32} {F : q_G → q_M → Prop} : q_pf 4 0 false (GG T L) m (30 + 2 * k) (.int v) F ↔ F (GG T L) (q_up m (30 + 2 * k) 0 v) := by
  have h : k = 0 ∨ k = 1 ∨ k = 2 ∨ k = 3 := by omega
  rcases h with rfl | rfl | rfl | rfl
  · exact pf30_0
  · exact pf32_0
  · exact pf34_0
  · exact pf36_0
theorem pfs1 {k : Nat} (hk : k < 4) {v : Int32} {F : q_G → q_M → Prop} : q_pf 4 1 false (GG T L) m (30 + 2 * k) (.int v) F ↔ F (GG T L) (q_up m (30 + 2 * k) 1 v) := by
  have h : k = 0 ∨ k = 1 ∨ k = 2 ∨ k = 3 := by omega
  rcases h with rfl | rfl | rfl | rfl
  · exact pf30_1
  · exact pf32_1
  · exact pf34_1
  · exact pf36_1
theorem ios {k : Nat} (hk : k < 4) : q_io 4 (GG T L) (30 + 2 * k) ↔ True := by
  have h : k = 0 ∨ k = 1 ∨ k = 2 ∨ k = 3 := by omega
  rcases h with rfl | rfl | rfl | rfl
  · exact io30
  · exact io32
  · exact io34
  · exact io36
theorem shs {k : Nat} (hk : k < 4) : (GG T L).1 (31 + 2 * k) = .inl 40 := by
  have h : k = 0 ∨ k = 1 ∨ k = 2 ∨ k = 3 := by omega
  rcases h with rfl | rfl | rfl | rfl <;> rfl
theorem aa29 {k : Nat} (hk : k < 4) {F : Value → Prop} : q_aa (GG T L) 29 (nI k) F ↔ F (.ref (30 + 2 * k)) := by
  have h : q_aa (GG T L) 29 (nI k) F ↔ (vp_in (nI k) 4 ∧ 29 < 900 ∧ F (match q_sf (nI k).toNatClampNeg with | some z => .ref z | none => .null)) := Iff.rfl
  rw [h, q_vpI (by omega), nI_clamp (by omega)]
  have e : q_sf k = some (30 + 2 * k) := by
    unfold q_sf
    rw [if_pos hk]
  rw [e]
  exact ⟨fun h => h.2.2, fun h => ⟨hk, by decide, h⟩⟩
theorem c_sheetAt {k : Nat} (hk : k < 4) : q_C 112 d [.ref 0, .int (nI k)] (GG T L) m K ↔ K (some (.ref (30 + 2 * k))) (GG T L) m := by
  simp only [e112, u112_0, u112_1, u112_4, u112_5, u112_6, u112_9, u112_10, u112_11, u112_14, u112_15, u112_18, u112_19, u112_22, u112_23, u112_24, u112_27, u112_28, u112_28n, q_push_s, q_push_n, q_sm_0, q_sm_i, q_sm_r, q_sm_n, q_sm_l, q_c1_0, q_c1_i, q_c1_r, q_c1_n, Nat.zero_add, Nat.reduceAdd, Nat.reduceMul, Nat.reduceSub, Nat.reduceLeDiff, Nat.reduceLT, Nat.reduceEqDiff, true_and, and_true, not_false_eq_true, if_true, if_false, ite_true, ite_false, or_true, true_or, or_false, false_or, not_true_eq_false, gf0_6, al29, n_lt0 (j := k) (by omega), n_lt (i := k) (j := 4) (by omega) (by decide), hk, aa29 hk]
theorem c_sheetAt0 {v : Int32} (hv : ¬ z_is v 4) : q_C 112 d [.ref 0, .int v] (GG T L) m K ↔ K (some .null) (GG T L) m := by
  rcases z_nin (n := 4) (by decide) hv with q | ⟨q1, q2⟩
  · simp only [e112, u112_0, u112_1, u112_4, u112_5, u112_6, u112_9, u112_10, u112_11, u112_14, u112_15, u112_18, u112_19, u112_22, u112_23, u112_24, u112_27, u112_28, u112_28n, q_push_s, q_push_n, q_sm_0, q_sm_i, q_sm_r, q_sm_n, q_sm_l, q_c1_0, q_c1_i, q_c1_r, q_c1_n, Nat.zero_add, Nat.reduceAdd, Nat.reduceMul, Nat.reduceSub, Nat.reduceLeDiff, Nat.reduceLT, Nat.reduceEqDiff, true_and, and_true, not_false_eq_true, if_true, if_false, ite_true, ite_false, or_true, true_or, or_false, false_or, not_true_eq_false, q]
  · simp only [e112, u112_0, u112_1, u112_4, u112_5, u112_6, u112_9, u112_10, u112_11, u112_14, u112_15, u112_18, u112_19, u112_22, u112_23, u112_24, u112_27, u112_28, u112_28n, q_push_s, q_push_n, q_sm_0, q_sm_i, q_sm_r, q_sm_n, q_sm_l, q_c1_0, q_c1_i, q_c1_r, q_c1_n, Nat.zero_add, Nat.reduceAdd, Nat.reduceMul, Nat.reduceSub, Nat.reduceLeDiff, Nat.reduceLT, Nat.reduceEqDiff, true_and, and_true, not_false_eq_true, if_true, if_false, ite_true, ite_false, or_true, true_or, or_false, false_or, not_true_eq_false, q1, q2]
theorem l_becS {k w : Nat} (hk : k < 4) (hw : w ≤ 40) (x1 : Option Value) (x2 : Int32) : ∀ c i m, i + c = w → m (30 + 2 * k) 1 = nI w → (∀ m', (∀ p, p ≠ 31 + 2 * k → m' p = m p) → (∀ x, x < w → m' (31 + 2 * k) x = if i ≤ x then nI 0 else m (31 + 2 * k) x) → K none (GG T L) m') →
    q_R 44 17 (d + 1) [some (.ref (30 + 2 * k)), x1, some (.int x2), some (.int (nI i))] [] (GG T L) m K
  | 0, i, m, hi, h1, hK => by
    have hiw : ¬ i < w := by omega
    simp only [u44_17, u44_18, u44_19, u44_22, u44_40, q_push_s, q_push_n, q_sm_0, q_sm_i, q_sm_r, q_sm_n, q_sm_l, q_c1_0, q_c1_i, q_c1_r, q_c1_n, Nat.zero_add, Nat.reduceAdd, Nat.reduceMul, Nat.reduceSub, Nat.reduceLeDiff, Nat.reduceLT, Nat.reduceEqDiff, true_and, and_true, not_false_eq_true, if_true, if_false, ite_true, ite_false, or_true, true_or, or_false, false_or, not_true_eq_false, gfs1 hk, h1, n_lt (i := i) (j := w) (by omega) (by omega), hiw]
    exact hK m (fun _ _ => rfl) (fun x hx => by rw [if_neg (by omega)])
  | c + 1, i, m, hi, h1, hK => by
    have hiw : i < w := by omega
    rw [u44_17]
    simp only [u44_18, u44_19, u44_22, u44_25, u44_26, u44_29, u44_30, u44_31, u44_34, u44_37, q_push_s, q_push_n, q_sm_0, q_sm_i, q_sm_r, q_sm_n, q_sm_l, q_c1_0, q_c1_i, q_c1_r, q_c1_n, Nat.zero_add, Nat.reduceAdd, Nat.reduceMul, Nat.reduceSub, Nat.reduceLeDiff, Nat.reduceLT, Nat.reduceEqDiff, true_and, and_true, not_false_eq_true, if_true, if_false, ite_true, ite_false, or_true, true_or, or_false, false_or, not_true_eq_false, gfs1 hk, gfs2 hk, h1, n_lt (i := i) (j := w) (by omega) (by omega), hiw, Nat.zero_le, c_put (j := i) (shs hk) (show 31 + 2 * k < 900 by omega) (by decide) (show i < 40 by omega), n_add]
    refine l_becS hk hw x1 x2 c (i + 1) _ (by omega) (by rw [q_up_f _ _ _ (by omega)]; exact h1) (fun m' e1 e2 => hK m' (fun p hp => (e1 p hp).trans (q_up_f _ _ _ hp)) (fun x hx => ?_))
    rw [e2 x hx]
    by_cases q : x = i
    · subst q; rw [if_neg (by omega), if_pos (by omega), q_up_eq]
    · rw [q_up_i _ _ q]
      by_cases q2 : i ≤ x
      · rw [if_pos q2, if_pos (by omega)]
      · rw [if_neg q2, if_neg (by omega)]
theorem c_becS {k w : Nat} (hk : k < 4) (hw : w ≤ 40) (so : Int32) (hK : ∀ m', (∀ p, p ≠ 30 + 2 * k → p ≠ 31 + 2 * k → m' p = m p) → m' (30 + 2 * k) 0 = so → m' (30 + 2 * k) 1 = nI w → (∀ x, x < w → m' (31 + 2 * k) x = nI 0) → K none (GG T L) m') : q_C 44 (d + 2) [.ref (30 + 2 * k), .int so, .int (nI w)] (GG T L) m K := by
  simp only [e44, u44_0, u44_1, u44_2, u44_5, u44_6, u44_7, u44_9, u44_12, u44_15, u44_16, q_push_s, q_push_n, q_sm_0, q_sm_i, q_sm_r, q_sm_n, q_sm_l, q_c1_0, q_c1_i, q_c1_r, q_c1_n, Nat.zero_add, Nat.reduceAdd, Nat.reduceMul, Nat.reduceSub, Nat.reduceLeDiff, Nat.reduceLT, Nat.reduceEqDiff, true_and, and_true, not_false_eq_true, if_true, if_false, ite_true, ite_false, or_true, true_or, or_false, false_or, not_true_eq_false, pfs0 hk, pfs1 hk, c_bounded, z_bnd_n (k := 40) _ (by decide), z_clip_n (w := w) (k := 40) (by decide) hw, Nat.zero_le, Nat.reduceLeDiff]
  refine l_becS hk hw _ _ w 0 _ (by omega) (q_up_eq _ _ _ _) (fun m' e1 e2 => hK m' (fun p h1 h2 => ?_) ?_ ?_ (fun x hx => ?_))
  · rw [e1 p h2, q_up_f _ _ _ h1, q_up_f _ _ _ h1]
  · rw [e1 _ (by omega), q_up_i _ _ (by decide), q_up_eq]
  · rw [e1 _ (by omega), q_up_eq]
  · rw [e2 x hx, if_pos (by omega)]
/-- what a number becomes in a sheet of a sort -/
def z_wr (so v : Int32) : Int32 := if so = nI 0 then v.toInt8.toInt32 else if so = nI 1 then v.toInt16.toInt32 else v
theorem c_write {k j : Nat} (hk : k < 4) (hj : j < 40) {so : Int32} (h0 : m (30 + 2 * k) 0 = so) (v : Int32) : q_C 45 (d + 1) [.ref (30 + 2 * k), .int (nI j), .int v] (GG T L) m K ↔ K none (GG T L) (q_up m (31 + 2 * k) j (z_wr so v)) := by
  unfold z_wr
  by_cases q0 : so = nI 0
  · simp only [e45, u45_0, u45_1, u45_4, u45_5, u45_6, u45_9, u45_12, u45_13, u45_14, u45_17, u45_18, u45_21, u45_22, u45_25, u45_26, u45_27, u45_30, u45_31, u45_34, q_push_s, q_push_n, q_sm_0, q_sm_i, q_sm_r, q_sm_n, q_sm_l, q_c1_0, q_c1_i, q_c1_r, q_c1_n, Nat.zero_add, Nat.reduceAdd, Nat.reduceMul, Nat.reduceSub, Nat.reduceLeDiff, Nat.reduceLT, Nat.reduceEqDiff, true_and, and_true, not_false_eq_true, if_true, if_false, ite_true, ite_false, or_true, true_or, or_false, false_or, not_true_eq_false, gfs0 hk, gfs2 hk, h0, q0, c_put (j := j) (shs hk) (show 31 + 2 * k < 900 by omega) (by decide) hj, Nat.zero_le, Nat.reduceLeDiff]
  · by_cases q1 : so = nI 1
    · simp only [e45, u45_0, u45_1, u45_4, u45_5, u45_6, u45_9, u45_12, u45_13, u45_14, u45_17, u45_18, u45_21, u45_22, u45_25, u45_26, u45_27, u45_30, u45_31, u45_34, q_push_s, q_push_n, q_sm_0, q_sm_i, q_sm_r, q_sm_n, q_sm_l, q_c1_0, q_c1_i, q_c1_r, q_c1_n, Nat.zero_add, Nat.reduceAdd, Nat.reduceMul, Nat.reduceSub, Nat.reduceLeDiff, Nat.reduceLT, Nat.reduceEqDiff, true_and, and_true, not_false_eq_true, if_true, if_false, ite_true, ite_false, or_true, true_or, or_false, false_or, not_true_eq_false, eq_self, lq_0_1, lq_0_2, lq_0_3, lq_0_4, lq_0_5, lq_0_6, lq_1_0, lq_1_2, lq_1_3, lq_1_4, lq_1_5, lq_1_6, lq_2_0, lq_2_1, lq_2_3, lq_2_4, lq_2_5, lq_2_6, lq_3_0, lq_3_1, lq_3_2, lq_3_4, lq_3_5, lq_3_6, lq_4_0, lq_4_1, lq_4_2, lq_4_3, lq_4_5, lq_4_6, lq_5_0, lq_5_1, lq_5_2, lq_5_3, lq_5_4, lq_5_6, lq_6_0, lq_6_1, lq_6_2, lq_6_3, lq_6_4, lq_6_5, ll_0_0, ll_0_1, ll_0_2, ll_0_3, ll_0_4, ll_0_5, ll_0_6, ll_1_0, ll_1_1, ll_1_2, ll_1_3, ll_1_4, ll_1_5, ll_1_6, ll_2_0, ll_2_1, ll_2_2, ll_2_3, ll_2_4, ll_2_5, ll_2_6, ll_3_0, ll_3_1, ll_3_2, ll_3_3, ll_3_4, ll_3_5, ll_3_6, ll_4_0, ll_4_1, ll_4_2, ll_4_3, ll_4_4, ll_4_5, ll_4_6, ll_5_0, ll_5_1, ll_5_2, ll_5_3, ll_5_4, ll_5_5, ll_5_6, ll_6_0, ll_6_1, ll_6_2, ll_6_3, ll_6_4, ll_6_5, ll_6_6, le_0_0, le_0_1, le_0_2, le_0_3, le_0_4, le_0_5, le_0_6, le_1_0, le_1_1, le_1_2, le_1_3, le_1_4, le_1_5, le_1_6, le_2_0, le_2_1, le_2_2, le_2_3, le_2_4, le_2_5, le_2_6, le_3_0, le_3_1, le_3_2, le_3_3, le_3_4, le_3_5, le_3_6, le_4_0, le_4_1, le_4_2, le_4_3, le_4_4, le_4_5, le_4_6, le_5_0, le_5_1, le_5_2, le_5_3, le_5_4, le_5_5, le_5_6, le_6_0, le_6_1, le_6_2, le_6_3, le_6_4, le_6_5, le_6_6, gfs0 hk, gfs2 hk, h0, q1, c_put (j := j) (shs hk) (show 31 + 2 * k < 900 by omega) (by decide) hj, Nat.zero_le, Nat.reduceLeDiff]
    · simp only [e45, u45_0, u45_1, u45_4, u45_5, u45_6, u45_9, u45_12, u45_13, u45_14, u45_17, u45_18, u45_21, u45_22, u45_25, u45_26, u45_27, u45_30, u45_31, u45_34, q_push_s, q_push_n, q_sm_0, q_sm_i, q_sm_r, q_sm_n, q_sm_l, q_c1_0, q_c1_i, q_c1_r, q_c1_n, Nat.zero_add, Nat.reduceAdd, Nat.reduceMul, Nat.reduceSub, Nat.reduceLeDiff, Nat.reduceLT, Nat.reduceEqDiff, true_and, and_true, not_false_eq_true, if_true, if_false, ite_true, ite_false, or_true, true_or, or_false, false_or, not_true_eq_false, gfs0 hk, gfs2 hk, h0, q0, q1, c_put (j := j) (shs hk) (show 31 + 2 * k < 900 by omega) (by decide) hj, Nat.zero_le, Nat.reduceLeDiff]
theorem l_sheet8 {k : Nat} (hk : k < 4) (x2 : Option Value) (x3 : Int32) : ∀ c i m, i + c = 40 → (∀ m', (∀ p, p ≠ 49 → m' p = m p) → (∀ x, m' 49 x = if 40 * k + i ≤ x ∧ x < 40 * k + 40 then nI 0 else m 49 x) → q_R 195 96 d [some (.ref 38), some (.int (nI k)), x2, some (.int x3), some (.int (nI 40))] [] (GG T L) m' K) →
    q_R 195 70 d [some (.ref 38), some (.int (nI k)), x2, some (.int x3), some (.int (nI i))] [] (GG T L) m K
  | 0, i, m, hi, hK => by
    have h6 : i = 40 := by omega
    have e36 : (nI 40 < nI 40) = False := eq_false (by decide)
    subst h6
    simp only [u195_70, u195_72, u195_74, q_push_s, q_push_n, q_sm_0, q_sm_i, q_sm_r, q_sm_n, q_sm_l, q_c1_0, q_c1_i, q_c1_r, q_c1_n, Nat.zero_add, Nat.reduceAdd, Nat.reduceMul, Nat.reduceSub, Nat.reduceLeDiff, Nat.reduceLT, Nat.reduceEqDiff, true_and, and_true, not_false_eq_true, if_true, if_false, ite_true, ite_false, or_true, true_or, or_false, false_or, not_true_eq_false, e36]
    exact hK m (fun _ _ => rfl) (fun g => by rw [if_neg (by omega)])
  | c + 1, i, m, hi, hK => by
    have h6 : i < 40 := by omega
    have ci : (nI (40 * k + i)).toNatClampNeg = 40 * k + i := n_cl (by omega)
    rw [u195_70]
    simp only [u195_72, u195_74, u195_77, u195_78, u195_81, u195_83, u195_84, u195_85, u195_87, u195_88, u195_89, u195_90, u195_93, q_push_s, q_push_n, q_sm_0, q_sm_i, q_sm_r, q_sm_n, q_sm_l, q_c1_0, q_c1_i, q_c1_r, q_c1_n, Nat.zero_add, Nat.reduceAdd, Nat.reduceMul, Nat.reduceSub, Nat.reduceLeDiff, Nat.reduceLT, Nat.reduceEqDiff, true_and, and_true, not_false_eq_true, if_true, if_false, ite_true, ite_false, or_true, true_or, or_false, false_or, not_true_eq_false, n_lt (i := i) (j := 40) (by omega) (by decide), h6, gf38_19, n_mul, n_add, is49 (i := 40 * k + i) (by omega), ci]
    refine l_sheet8 hk x2 x3 c (i + 1) _ (by omega) (fun m' h1 h2 => hK m' (fun p hp => (h1 p hp).trans (q_up_f _ _ _ hp)) (fun x => ?_))
    rw [h2 x]
    by_cases q : x = 40 * k + i
    · subst q; rw [if_neg (by omega), if_pos (by omega), q_up_eq]
    · rw [q_up_i _ _ q]
      by_cases q2 : 40 * k + i ≤ x ∧ x < 40 * k + 40
      · rw [if_pos q2, if_pos (by omega)]
      · rw [if_neg q2, if_neg (by omega)]
end
section
variable {T : List Nat} {L d : Nat} {xs : Nat → Int32} {s : ZS} {tx : Nat → Nat → List Nat} {n : Nat} {tp : Nat → Nat} {z : Nat} {h h' : ZH} {wd : Nat → Int32} {m m' : q_M} {K : Option Value → Option Value → q_G → q_M → Prop}
/-- one sheet anew -/
theorem ISh.set (t : ISh h m) {k w : Nat} {so : Int32} {cs : Nat → Int32} (hk : k < 4) (hso : so = (-1 : Int32) ∨ so = nI 0 ∨ so = nI 1 ∨ so = nI 2) (hz : so = (-1 : Int32) → w = 0) (hw : w ≤ 40)
    (h1 : ∀ j, j < 4 → j ≠ k → m' (30 + 2 * j) = m (30 + 2 * j) ∧ m' (31 + 2 * j) = m (31 + 2 * j) ∧ m' 47 j = m 47 j ∧ m' 48 j = m 48 j ∧ ∀ i, i < 40 → m' 49 (40 * j + i) = m 49 (40 * j + i))
    (h2 : m' (30 + 2 * k) 0 = so) (h3 : m' 47 k = so) (h4 : m' (30 + 2 * k) 1 = nI w) (h5 : m' 48 k = nI w) (h6 : ∀ i, i < w → m' (31 + 2 * k) i = cs i ∧ m' 49 (40 * k + i) = cs i) : ISh (z_shs h k so w cs) m' := by
  intro j hj
  by_cases q : j = k
  · subst q
    have e1 : (z_shs h j so w cs).1 j = so := if_pos rfl
    have e2 : (z_shs h j so w cs).2.1 j = w := if_pos rfl
    have e3 : ∀ i, (z_shs h j so w cs).2.2 j i = cs i := fun i => if_pos rfl
    rw [e1, e2]
    exact ⟨hso, hz, hw, h2, h3, h4, h5, fun i hi => by rw [e3]; exact h6 i hi⟩
  · have e1 : (z_shs h k so w cs).1 j = h.1 j := if_neg q
    have e2 : (z_shs h k so w cs).2.1 j = h.2.1 j := if_neg q
    have e3 : ∀ i, (z_shs h k so w cs).2.2 j i = h.2.2 j i := fun i => if_neg q
    obtain ⟨a1, a2, a3, a4, a5⟩ := h1 j hj q
    obtain ⟨b1, b2, b3, b4, b5, b6, b7, b8⟩ := t j hj
    rw [e1, e2, a1, a2, a3, a4]
    exact ⟨b1, b2, b3, b4, b5, b6, b7, fun i hi => by rw [e3, a5 i (by omega)]; exact b8 i hi⟩
/-- what a change of a sheet may touch -/
def FH (m m' : q_M) : Prop := (∀ k, ¬ z_scr k → ¬ (30 ≤ k ∧ k < 38) → ¬ (47 ≤ k ∧ k < 50) → k ≠ 26 → k ≠ 38 → m' k = m k) ∧ m' 26 1 = m 26 1 ∧ ∀ f, f < 21 → m' 38 f = m 38 f
theorem FH.trans {a b c : q_M} (h : FH a b) (h' : FH b c) : FH a c := ⟨fun k h1 h2 h3 h4 h5 => (h'.1 k h1 h2 h3 h4 h5).trans (h.1 k h1 h2 h3 h4 h5), h'.2.1.trans h.2.1, fun f hf => (h'.2.2 f hf).trans (h.2.2 f hf)⟩
theorem FR.fh {a b : q_M} (h : FR a b) : FH a b := ⟨fun k h1 _ _ h4 h5 => h.1 k h1 h4 h5, h.2.1, h.2.2⟩
theorem FH.of {m m' : q_M} (h : ∀ k, ¬ (30 ≤ k ∧ k < 38) → ¬ (47 ≤ k ∧ k < 50) → m' k = m k) : FH m m' := ⟨fun k _ h2 h3 _ _ => h k h2 h3, by rw [h 26 (by decide) (by decide)], fun f _ => by rw [h 38 (by decide) (by decide)]⟩
theorem LJ.fh (l : LJ T L xs s tx n tp z h wd m) (f : FH m m') (hS : ISh h' m') : LJ T L xs s tx n tp z h' wd m' := by
  obtain ⟨f1, f2, f3⟩ := f
  have fk : ∀ k, ¬ ((13 ≤ k ∧ k < 19) ∨ k = 28 ∨ (52 ≤ k ∧ k < 58) ∨ (30 ≤ k ∧ k < 38) ∨ (47 ≤ k ∧ k < 50) ∨ k = 26 ∨ k = 38) → m' k = m k := fun k hk => f1 k (by unfold z_scr; omega) (by omega) (by omega) (by omega) (by omega)
  refine l.gen (fun k q => fk k (by omega)) (by rw [fk 2 (by decide)]) (f3 10 (by decide)) l.bz l.iw.2.2.1 (l.cl.fr (fun k h1 h2 => fk k (by omega))) (l.mo.fr (f3 0 (by decide)) (f3 5 (by decide)) (f3 11 (by decide)) (fun k h1 h2 => fk k (by omega))) ?_ ?_ hS
  · exact l.tpe.fr f2 (f3 7 (by decide)) (fk 27 (by decide)) (fk 43 (by decide))
  · exact l.im.fr (Nat.le_refl _) (fun g _ => ⟨rfl, rfl⟩) (by rw [fk 0 (by decide)]) (fun f h1 h2 => f3 f (by omega)) (fun k h1 h2 => fk k (by omega)) (fk 46 (by decide))
theorem c_sheet8 {k w : Nat} {K : Option Value → q_G → q_M → Prop} (hk : k < 4) (hw : w ≤ 40) (b c : Int32) (hb : (b = (-1 : Int32) ∧ w = 0) ∨ (∃ r, r < 3 ∧ b = nI r ∧ c = nI w)) (hK : ∀ m', (∀ p, ¬ (47 ≤ p ∧ p < 50) → m' p = m p) → (∀ j, m' 47 j = if j = k then b else m 47 j) → (∀ j, m' 48 j = if j = k then nI w else m 48 j) → (∀ x, m' 49 x = if 40 * k ≤ x ∧ x < 40 * k + 40 then nI 0 else m 49 x) → K (some (.int (nI 1))) (GG T L) m') :
    q_C 195 (d + 1) [.ref 38, .int (nI k), .int b, .int c] (GG T L) m K := by
  have k0 := n_lt0 (j := k) (by omega)
  have k3 := n_le (i := k) (j := 3) (by omega) (by decide)
  have k3' : k ≤ 3 := by omega
  have ck : (nI k).toNatClampNeg = k := n_cl (by omega)
  have hfin : ∀ m1, (∀ p, ¬ (47 ≤ p ∧ p < 49) → m1 p = m p) → (∀ j, m1 47 j = if j = k then b else m 47 j) → (∀ j, m1 48 j = if j = k then nI w else m 48 j) → q_R 195 67 (d + 1) [some (.ref 38), some (.int (nI k)), some (.int b), some (.int c), none] [] (GG T L) m1 K := by
    intro m1 e1 e2 e3
    simp only [u195_67, u195_68, q_push_s, q_push_n, q_sm_0, q_sm_i, q_sm_r, q_sm_n, q_sm_l, q_c1_0, q_c1_i, q_c1_r, q_c1_n, Nat.zero_add, Nat.reduceAdd, Nat.reduceMul, Nat.reduceSub, Nat.reduceLeDiff, Nat.reduceLT, Nat.reduceEqDiff, true_and, and_true, not_false_eq_true, if_true, if_false, ite_true, ite_false, or_true, true_or, or_false, false_or, not_true_eq_false]
    refine l_sheet8 hk _ _ 40 0 m1 rfl (fun m' f1 f2 => ?_)
    simp only [u195_96, u195_97, q_push_s, q_push_n, q_sm_0, q_sm_i, q_sm_r, q_sm_n, q_sm_l, q_c1_0, q_c1_i, q_c1_r, q_c1_n, Nat.zero_add, Nat.reduceAdd, Nat.reduceMul, Nat.reduceSub, Nat.reduceLeDiff, Nat.reduceLT, Nat.reduceEqDiff, true_and, and_true, not_false_eq_true, if_true, if_false, ite_true, ite_false, or_true, true_or, or_false, false_or, not_true_eq_false]
    refine hK m' (fun p hp => ?_) (fun j => ?_) (fun j => ?_) (fun x => ?_)
    · rw [f1 p (by omega), e1 p (by omega)]
    · rw [f1 47 (by decide), e2]
    · rw [f1 48 (by decide), e3]
    · rw [f2 x, e1 49 (by decide), Nat.add_zero]
  have hz : ∀ (k' x : Nat) (v : Int32) (m0 : q_M), (∀ j, q_up m0 k' x v k' j = if j = x then v else m0 k' j) := fun k' x v m0 j => by
    by_cases q : j = x
    · rw [if_pos q, q, q_up_eq]
    · rw [if_neg q, q_up_i _ _ q]
  rcases hb with ⟨rfl, rfl⟩ | ⟨r, hr, rfl, rfl⟩
  · have e1 : ((-1 : Int32) < (-1 : Int32)) = False := eq_false (by decide)
    have e2 : ((-1 : Int32) ≤ nI 2) = True := eq_true (by decide)
    simp only [u195_0, u195_1, u195_2, u195_3, u195_6, u195_9, u195_10, u195_11, u195_12, u195_15, u195_18, u195_19, u195_20, u195_23, u195_24, u195_26, u195_29, u195_31, u195_32, u195_33, u195_34, u195_37, u195_38, u195_41, u195_43, u195_44, u195_45, u195_48, u195_49, u195_50, u195_51, u195_52, u195_55, u195_56, u195_57, u195_58, u195_61, u195_62, u195_65, u195_66, e195, q_push_s, q_push_n, q_sm_0, q_sm_i, q_sm_r, q_sm_n, q_sm_l, q_c1_0, q_c1_i, q_c1_r, q_c1_n, Nat.zero_add, Nat.reduceAdd, Nat.reduceMul, Nat.reduceSub, Nat.reduceLeDiff, Nat.reduceLT, Nat.reduceEqDiff, true_and, and_true, not_false_eq_true, if_true, if_false, ite_true, ite_false, or_true, true_or, or_false, false_or, not_true_eq_false, eq_self, lq_0_1, lq_0_2, lq_0_3, lq_0_4, lq_0_5, lq_0_6, lq_1_0, lq_1_2, lq_1_3, lq_1_4, lq_1_5, lq_1_6, lq_2_0, lq_2_1, lq_2_3, lq_2_4, lq_2_5, lq_2_6, lq_3_0, lq_3_1, lq_3_2, lq_3_4, lq_3_5, lq_3_6, lq_4_0, lq_4_1, lq_4_2, lq_4_3, lq_4_5, lq_4_6, lq_5_0, lq_5_1, lq_5_2, lq_5_3, lq_5_4, lq_5_6, lq_6_0, lq_6_1, lq_6_2, lq_6_3, lq_6_4, lq_6_5, ll_0_0, ll_0_1, ll_0_2, ll_0_3, ll_0_4, ll_0_5, ll_0_6, ll_1_0, ll_1_1, ll_1_2, ll_1_3, ll_1_4, ll_1_5, ll_1_6, ll_2_0, ll_2_1, ll_2_2, ll_2_3, ll_2_4, ll_2_5, ll_2_6, ll_3_0, ll_3_1, ll_3_2, ll_3_3, ll_3_4, ll_3_5, ll_3_6, ll_4_0, ll_4_1, ll_4_2, ll_4_3, ll_4_4, ll_4_5, ll_4_6, ll_5_0, ll_5_1, ll_5_2, ll_5_3, ll_5_4, ll_5_5, ll_5_6, ll_6_0, ll_6_1, ll_6_2, ll_6_3, ll_6_4, ll_6_5, ll_6_6, le_0_0, le_0_1, le_0_2, le_0_3, le_0_4, le_0_5, le_0_6, le_1_0, le_1_1, le_1_2, le_1_3, le_1_4, le_1_5, le_1_6, le_2_0, le_2_1, le_2_2, le_2_3, le_2_4, le_2_5, le_2_6, le_3_0, le_3_1, le_3_2, le_3_3, le_3_4, le_3_5, le_3_6, le_4_0, le_4_1, le_4_2, le_4_3, le_4_4, le_4_5, le_4_6, le_5_0, le_5_1, le_5_2, le_5_3, le_5_4, le_5_5, le_5_6, le_6_0, le_6_1, le_6_2, le_6_3, le_6_4, le_6_5, le_6_6, c_in, and_self, k0, k3, k3', e1, e2, z_b_z, gf38_17, gf38_18, is47 hk, is48 hk, ck, Nat.zero_le, Nat.reduceLeDiff]
    refine hfin _ (fun p hp => by rw [q_up_f _ _ _ (by omega), q_up_f _ _ _ (by omega)]) (fun j => ?_) (fun j => ?_)
    · rw [q_up_f _ _ _ (by decide)]; exact hz _ _ _ _ j
    · rw [hz, q_up_f _ _ _ (by decide)]
  · obtain ⟨n1, n2, n3, n4⟩ := i_nm (j := r) (by omega)
    have r3 := n_le (i := r) (j := 2) (by omega) (by decide)
    have r3' : r ≤ 2 := by omega
    have w3 := n_le (i := w) (j := 40) (by omega) (by decide)
    have w0 := n_lt0 (j := w) (by omega)
    simp only [u195_0, u195_1, u195_2, u195_3, u195_6, u195_9, u195_10, u195_11, u195_12, u195_15, u195_18, u195_19, u195_20, u195_23, u195_24, u195_26, u195_29, u195_31, u195_32, u195_33, u195_34, u195_37, u195_38, u195_41, u195_43, u195_44, u195_45, u195_48, u195_49, u195_50, u195_51, u195_52, u195_55, u195_56, u195_57, u195_58, u195_61, u195_62, u195_65, u195_66, e195, q_push_s, q_push_n, q_sm_0, q_sm_i, q_sm_r, q_sm_n, q_sm_l, q_c1_0, q_c1_i, q_c1_r, q_c1_n, Nat.zero_add, Nat.reduceAdd, Nat.reduceMul, Nat.reduceSub, Nat.reduceLeDiff, Nat.reduceLT, Nat.reduceEqDiff, true_and, and_true, not_false_eq_true, if_true, if_false, ite_true, ite_false, or_true, true_or, or_false, false_or, not_true_eq_false, c_in, and_self, k0, k3, k3', n1, n2, r3, r3', w3, hw, w0, z_b_z, gf38_17, gf38_18, is47 hk, is48 hk, ck, Nat.zero_le, Nat.reduceLeDiff]
    refine hfin _ (fun p hp => by rw [q_up_f _ _ _ (by omega), q_up_f _ _ _ (by omega)]) (fun j => ?_) (fun j => ?_)
    · rw [q_up_f _ _ _ (by decide)]; exact hz _ _ _ _ j
    · rw [hz, q_up_f _ _ _ (by decide)]
theorem LJ.bec (l : LJ T L xs s tx n tp z h wd m) {k w : Nat} {b : Int32} (hk : k < 4) (hw : w ≤ 40) (hso : b = (-1 : Int32) ∨ b = nI 0 ∨ b = nI 1 ∨ b = nI 2) (hz : b = (-1 : Int32) → w = 0) {m1 m2 : q_M} (f1 : ∀ p, p ≠ 30 + 2 * k → p ≠ 31 + 2 * k → m1 p = m p) (f2 : m1 (30 + 2 * k) 0 = b) (f3 : m1 (30 + 2 * k) 1 = nI w) (f4 : ∀ x, x < w → m1 (31 + 2 * k) x = nI 0)
    (g1 : ∀ p, ¬ (47 ≤ p ∧ p < 50) → m2 p = m1 p) (g2 : ∀ j, m2 47 j = if j = k then b else m1 47 j) (g3 : ∀ j, m2 48 j = if j = k then nI w else m1 48 j) (g4 : ∀ x, m2 49 x = if 40 * k ≤ x ∧ x < 40 * k + 40 then nI 0 else m1 49 x) : LJ T L xs s tx n tp z (z_shs h k b w (fun _ => nI 0)) wd m2 := by
  refine l.fh (FH.of (fun p h1 h2 => by rw [g1 p h2, f1 p (by omega) (by omega)])) (l.sh.set hk hso hz hw (fun j hj q => ?_) ?_ ?_ ?_ ?_ (fun i hi => ?_))
  · refine ⟨?_, ?_, ?_, ?_, fun i hi => ?_⟩
    · rw [g1 _ (by omega), f1 _ (by omega) (by omega)]
    · rw [g1 _ (by omega), f1 _ (by omega) (by omega)]
    · rw [g2, if_neg q, f1 47 (by omega) (by omega)]
    · rw [g3, if_neg q, f1 48 (by omega) (by omega)]
    · rw [g4, if_neg (by omega), f1 49 (by omega) (by omega)]
  · rw [g1 _ (by omega)]; exact f2
  · rw [g2, if_pos rfl]
  · rw [g1 _ (by omega)]; exact f3
  · rw [g3, if_pos rfl]
  · refine ⟨?_, ?_⟩
    · rw [g1 _ (by omega)]; exact f4 i hi
    · rw [g4, if_pos (by omega)]
theorem p_sheet (l : LJ T L xs s tx n tp z h wd m) (a b c : Int32) (hK : ∀ r h' m', LJ T L xs s tx n tp z h' wd m' → K (some (.int r)) (some (.int r)) (GG T L) m') :
    q_C 95 (d + 3) [.ref 0, .int a, .int b, .int c] (GG T L) m (fun v g m => q_C 195 (d + 3) [.ref 38, .int a, .int b, .int c] g m (fun v' g m => K v v' g m)) := by
  by_cases ha : z_is a 4
  · obtain ⟨k, hk, rfl⟩ := z_is_n ha
    have k0 := n_lt0 (j := k) (by omega)
    have k3 := n_le (i := k) (j := 3) (by omega) (by decide)
    have k3' : k ≤ 3 := by omega
    have h950 : (30 + 2 * k = 950) = False := eq_false (by omega)
    rcases z_sort b with rfl | ⟨r, hr, rfl⟩ | ⟨hb, b1, b2⟩ | ⟨hb, b1, b2, b3⟩
    · have e1 : ((-1 : Int32) < (-1 : Int32)) = False := eq_false (by decide)
      have e2 : ((-1 : Int32) ≤ nI 2) = True := eq_true (by decide)
      simp only [u95_0, u95_1, u95_2, u95_5, u95_5n, u95_7, u95_7n, u95_9n, u95_9, u95_12, u95_13, u95_14, u95_17, u95_18, u95_19, u95_22, u95_24, u95_25, u95_26, u95_27, u95_30, u95_30n, u95_32, u95_33, u95_34, e95, q_push_s, q_push_n, q_sm_0, q_sm_i, q_sm_r, q_sm_n, q_sm_l, q_c1_0, q_c1_i, q_c1_r, q_c1_n, Nat.zero_add, Nat.reduceAdd, Nat.reduceMul, Nat.reduceSub, Nat.reduceLeDiff, Nat.reduceLT, Nat.reduceEqDiff, true_and, and_true, not_false_eq_true, if_true, if_false, ite_true, ite_false, or_true, true_or, or_false, false_or, not_true_eq_false, eq_self, lq_0_1, lq_0_2, lq_0_3, lq_0_4, lq_0_5, lq_0_6, lq_1_0, lq_1_2, lq_1_3, lq_1_4, lq_1_5, lq_1_6, lq_2_0, lq_2_1, lq_2_3, lq_2_4, lq_2_5, lq_2_6, lq_3_0, lq_3_1, lq_3_2, lq_3_4, lq_3_5, lq_3_6, lq_4_0, lq_4_1, lq_4_2, lq_4_3, lq_4_5, lq_4_6, lq_5_0, lq_5_1, lq_5_2, lq_5_3, lq_5_4, lq_5_6, lq_6_0, lq_6_1, lq_6_2, lq_6_3, lq_6_4, lq_6_5, ll_0_0, ll_0_1, ll_0_2, ll_0_3, ll_0_4, ll_0_5, ll_0_6, ll_1_0, ll_1_1, ll_1_2, ll_1_3, ll_1_4, ll_1_5, ll_1_6, ll_2_0, ll_2_1, ll_2_2, ll_2_3, ll_2_4, ll_2_5, ll_2_6, ll_3_0, ll_3_1, ll_3_2, ll_3_3, ll_3_4, ll_3_5, ll_3_6, ll_4_0, ll_4_1, ll_4_2, ll_4_3, ll_4_4, ll_4_5, ll_4_6, ll_5_0, ll_5_1, ll_5_2, ll_5_3, ll_5_4, ll_5_5, ll_5_6, ll_6_0, ll_6_1, ll_6_2, ll_6_3, ll_6_4, ll_6_5, ll_6_6, le_0_0, le_0_1, le_0_2, le_0_3, le_0_4, le_0_5, le_0_6, le_1_0, le_1_1, le_1_2, le_1_3, le_1_4, le_1_5, le_1_6, le_2_0, le_2_1, le_2_2, le_2_3, le_2_4, le_2_5, le_2_6, le_3_0, le_3_1, le_3_2, le_3_3, le_3_4, le_3_5, le_3_6, le_4_0, le_4_1, le_4_2, le_4_3, le_4_4, le_4_5, le_4_6, le_5_0, le_5_1, le_5_2, le_5_3, le_5_4, le_5_5, le_5_6, le_6_0, le_6_1, le_6_2, le_6_3, le_6_4, le_6_5, le_6_6, io0, c_sheetAt hk, h950, e1, e2, ios hk, Nat.zero_le, Nat.reduceLeDiff]
      refine c_becS hk (w := 0) (by decide) _ (fun m1 f1 f2 f3 f4 => ?_)
      simp only [u95_37, u95_38, q_push_s, q_push_n, q_sm_0, q_sm_i, q_sm_r, q_sm_n, q_sm_l, q_c1_0, q_c1_i, q_c1_r, q_c1_n, Nat.zero_add, Nat.reduceAdd, Nat.reduceMul, Nat.reduceSub, Nat.reduceLeDiff, Nat.reduceLT, Nat.reduceEqDiff, true_and, and_true, not_false_eq_true, if_true, if_false, ite_true, ite_false, or_true, true_or, or_false, false_or, not_true_eq_false]
      refine c_sheet8 hk (w := 0) (by decide) _ _ (Or.inl ⟨rfl, rfl⟩) (fun m2 g1 g2 g3 g4 => ?_)
      exact hK _ _ _ (l.bec hk (by decide) (Or.inl rfl) (fun _ => rfl) f1 f2 f3 f4 g1 g2 g3 g4)
    · obtain ⟨n1, n2, n3, n4⟩ := i_nm (j := r) (by omega)
      have r3 := n_le (i := r) (j := 2) (by omega) (by decide)
      have r3' : r ≤ 2 := by omega
      by_cases hc : z_is c 41
      · obtain ⟨w, hw, rfl⟩ := z_is_n hc
        have w3 := n_le (i := w) (j := 40) (by omega) (by decide)
        have w0 := n_lt0 (j := w) (by omega)
        have hw' : w ≤ 40 := by omega
        have hso : nI r = (-1 : Int32) ∨ nI r = nI 0 ∨ nI r = nI 1 ∨ nI r = nI 2 := by
          have hr' : r = 0 ∨ r = 1 ∨ r = 2 := by omega
          rcases hr' with rfl | rfl | rfl
          · exact Or.inr (Or.inl rfl)
          · exact Or.inr (Or.inr (Or.inl rfl))
          · exact Or.inr (Or.inr (Or.inr rfl))
        simp only [u95_0, u95_1, u95_2, u95_5, u95_5n, u95_7, u95_7n, u95_9n, u95_9, u95_12, u95_13, u95_14, u95_17, u95_18, u95_19, u95_22, u95_24, u95_25, u95_26, u95_27, u95_39, u95_40, u95_42, u95_45, u95_47, u95_48, u95_49, u95_52, u95_54, u95_55, u95_55n, u95_57, u95_58, u95_59, e95, q_push_s, q_push_n, q_sm_0, q_sm_i, q_sm_r, q_sm_n, q_sm_l, q_c1_0, q_c1_i, q_c1_r, q_c1_n, Nat.zero_add, Nat.reduceAdd, Nat.reduceMul, Nat.reduceSub, Nat.reduceLeDiff, Nat.reduceLT, Nat.reduceEqDiff, true_and, and_true, not_false_eq_true, if_true, if_false, ite_true, ite_false, or_true, true_or, or_false, false_or, not_true_eq_false, io0, c_sheetAt hk, h950, n1, n2, r3, r3', w3, w0, hw', ios hk, Nat.zero_le, Nat.reduceLeDiff]
        refine c_becS hk hw' _ (fun m1 f1 f2 f3 f4 => ?_)
        simp only [u95_62, u95_63, q_push_s, q_push_n, q_sm_0, q_sm_i, q_sm_r, q_sm_n, q_sm_l, q_c1_0, q_c1_i, q_c1_r, q_c1_n, Nat.zero_add, Nat.reduceAdd, Nat.reduceMul, Nat.reduceSub, Nat.reduceLeDiff, Nat.reduceLT, Nat.reduceEqDiff, true_and, and_true, not_false_eq_true, if_true, if_false, ite_true, ite_false, or_true, true_or, or_false, false_or, not_true_eq_false]
        refine c_sheet8 hk hw' _ _ (Or.inr ⟨r, hr, rfl, rfl⟩) (fun m2 g1 g2 g3 g4 => ?_)
        exact hK _ _ _ (l.bec hk hw' hso (fun e => absurd e (of_eq_false n2)) f1 f2 f3 f4 g1 g2 g3 g4)
      · rcases z_is_f (n := 40) (by decide) hc with q | ⟨q1, q2⟩
        · have q3 : (c ≤ nI 40) = True := eq_true (by
            rw [Int32.lt_iff_toInt_lt, nI_toInt (by decide)] at q
            rw [Int32.le_iff_toInt_le, nI_toInt (by decide)]
            omega)
          simp only [e95, u95_0, u95_1, u95_2, u95_5, u95_5n, u95_7, u95_7n, u95_9n, u95_9, u95_12, u95_13, u95_14, u95_17, u95_18, u95_19, u95_22, u95_24, u95_25, u95_26, u95_27, u95_30, u95_30n, u95_32, u95_33, u95_34, u95_37, u95_38, u95_39, u95_40, u95_42, u95_45, u95_47, u95_48, u95_49, u95_52, u95_54, u95_55, u95_55n, u95_57, u95_58, u95_59, u95_62, u95_63, u195_0, u195_1, u195_2, u195_3, u195_6, u195_9, u195_10, u195_11, u195_12, u195_15, u195_18, u195_19, u195_20, u195_23, u195_24, u195_26, u195_29, u195_31, u195_32, u195_33, u195_34, u195_37, u195_38, u195_41, u195_43, e195, q_push_s, q_push_n, q_sm_0, q_sm_i, q_sm_r, q_sm_n, q_sm_l, q_c1_0, q_c1_i, q_c1_r, q_c1_n, Nat.zero_add, Nat.reduceAdd, Nat.reduceMul, Nat.reduceSub, Nat.reduceLeDiff, Nat.reduceLT, Nat.reduceEqDiff, true_and, and_true, not_false_eq_true, if_true, if_false, ite_true, ite_false, or_true, true_or, or_false, false_or, not_true_eq_false, io0, c_sheetAt hk, h950, n1, n2, r3, r3', q, q3, k0, k3, k3', c_in, and_self, z_b_z, Nat.zero_le, Nat.reduceLeDiff]
          exact hK _ _ _ l
        · simp only [e95, u95_0, u95_1, u95_2, u95_5, u95_5n, u95_7, u95_7n, u95_9n, u95_9, u95_12, u95_13, u95_14, u95_17, u95_18, u95_19, u95_22, u95_24, u95_25, u95_26, u95_27, u95_30, u95_30n, u95_32, u95_33, u95_34, u95_37, u95_38, u95_39, u95_40, u95_42, u95_45, u95_47, u95_48, u95_49, u95_52, u95_54, u95_55, u95_55n, u95_57, u95_58, u95_59, u95_62, u95_63, u195_0, u195_1, u195_2, u195_3, u195_6, u195_9, u195_10, u195_11, u195_12, u195_15, u195_18, u195_19, u195_20, u195_23, u195_24, u195_26, u195_29, u195_31, u195_32, u195_33, u195_34, u195_37, u195_38, u195_41, u195_43, e195, q_push_s, q_push_n, q_sm_0, q_sm_i, q_sm_r, q_sm_n, q_sm_l, q_c1_0, q_c1_i, q_c1_r, q_c1_n, Nat.zero_add, Nat.reduceAdd, Nat.reduceMul, Nat.reduceSub, Nat.reduceLeDiff, Nat.reduceLT, Nat.reduceEqDiff, true_and, and_true, not_false_eq_true, if_true, if_false, ite_true, ite_false, or_true, true_or, or_false, false_or, not_true_eq_false, io0, c_sheetAt hk, h950, n1, n2, r3, r3', q1, q2, k0, k3, k3', c_in, and_self, z_b_z, Nat.zero_le, Nat.reduceLeDiff]
          exact hK _ _ _ l
    · simp only [e95, u95_0, u95_1, u95_2, u95_5, u95_5n, u95_7, u95_7n, u95_9n, u95_9, u95_12, u95_13, u95_14, u95_17, u95_18, u95_19, u95_22, u95_24, u95_25, u95_26, u95_27, u95_30, u95_30n, u95_32, u95_33, u95_34, u95_37, u95_38, u95_39, u95_40, u95_42, u95_45, u95_47, u95_48, u95_49, u95_52, u95_54, u95_55, u95_55n, u95_57, u95_58, u95_59, u95_62, u95_63, u195_0, u195_1, u195_2, u195_3, u195_6, u195_9, u195_10, u195_11, u195_12, u195_15, u195_18, u195_19, u195_20, u195_23, u195_24, u195_26, u195_29, u195_31, u195_32, u195_33, u195_34, u195_37, u195_38, u195_41, u195_43, e195, q_push_s, q_push_n, q_sm_0, q_sm_i, q_sm_r, q_sm_n, q_sm_l, q_c1_0, q_c1_i, q_c1_r, q_c1_n, Nat.zero_add, Nat.reduceAdd, Nat.reduceMul, Nat.reduceSub, Nat.reduceLeDiff, Nat.reduceLT, Nat.reduceEqDiff, true_and, and_true, not_false_eq_true, if_true, if_false, ite_true, ite_false, or_true, true_or, or_false, false_or, not_true_eq_false, io0, c_sheetAt hk, h950, b1, b2, k0, k3, k3', c_in, and_self, false_and, z_b_z, Nat.zero_le, Nat.reduceLeDiff]
      exact hK _ _ _ l
    · simp only [e95, u95_0, u95_1, u95_2, u95_5, u95_5n, u95_7, u95_7n, u95_9n, u95_9, u95_12, u95_13, u95_14, u95_17, u95_18, u95_19, u95_22, u95_24, u95_25, u95_26, u95_27, u95_30, u95_30n, u95_32, u95_33, u95_34, u95_37, u95_38, u95_39, u95_40, u95_42, u95_45, u95_47, u95_48, u95_49, u95_52, u95_54, u95_55, u95_55n, u95_57, u95_58, u95_59, u95_62, u95_63, u195_0, u195_1, u195_2, u195_3, u195_6, u195_9, u195_10, u195_11, u195_12, u195_15, u195_18, u195_19, u195_20, u195_23, u195_24, u195_26, u195_29, u195_31, u195_32, u195_33, u195_34, u195_37, u195_38, u195_41, u195_43, e195, q_push_s, q_push_n, q_sm_0, q_sm_i, q_sm_r, q_sm_n, q_sm_l, q_c1_0, q_c1_i, q_c1_r, q_c1_n, Nat.zero_add, Nat.reduceAdd, Nat.reduceMul, Nat.reduceSub, Nat.reduceLeDiff, Nat.reduceLT, Nat.reduceEqDiff, true_and, and_true, not_false_eq_true, if_true, if_false, ite_true, ite_false, or_true, true_or, or_false, false_or, not_true_eq_false, io0, c_sheetAt hk, h950, b1, b2, b3, k0, k3, k3', c_in, and_self, and_false, z_b_z, Nat.zero_le, Nat.reduceLeDiff]
      exact hK _ _ _ l
  · rcases z_is_f (n := 3) (by decide) ha with q | ⟨q1, q2⟩
    · simp only [e95, u95_0, u95_1, u95_2, u95_5, u95_5n, u95_7, u95_7n, u95_9n, u95_9, u95_12, u95_13, u95_14, u95_17, u95_18, u95_19, u95_22, u95_24, u95_25, u95_26, u95_27, u95_30, u95_30n, u95_32, u95_33, u95_34, u95_37, u95_38, u95_39, u95_40, u95_42, u95_45, u95_47, u95_48, u95_49, u95_52, u95_54, u95_55, u95_55n, u95_57, u95_58, u95_59, u95_62, u95_63, u195_0, u195_1, u195_2, u195_3, u195_6, u195_9, u195_10, u195_11, u195_12, u195_15, u195_18, u195_19, u195_20, u195_23, u195_24, u195_26, u195_29, u195_31, u195_32, u195_33, u195_34, u195_37, u195_38, u195_41, u195_43, e195, q_push_s, q_push_n, q_sm_0, q_sm_i, q_sm_r, q_sm_n, q_sm_l, q_c1_0, q_c1_i, q_c1_r, q_c1_n, Nat.zero_add, Nat.reduceAdd, Nat.reduceMul, Nat.reduceSub, Nat.reduceLeDiff, Nat.reduceLT, Nat.reduceEqDiff, true_and, and_true, not_false_eq_true, if_true, if_false, ite_true, ite_false, or_true, true_or, or_false, false_or, not_true_eq_false, io0, c_sheetAt0 ha, q, c_in, false_and, z_b_z, Nat.zero_le, Nat.reduceLeDiff]
      exact hK _ _ _ l
    · simp only [e95, u95_0, u95_1, u95_2, u95_5, u95_5n, u95_7, u95_7n, u95_9n, u95_9, u95_12, u95_13, u95_14, u95_17, u95_18, u95_19, u95_22, u95_24, u95_25, u95_26, u95_27, u95_30, u95_30n, u95_32, u95_33, u95_34, u95_37, u95_38, u95_39, u95_40, u95_42, u95_45, u95_47, u95_48, u95_49, u95_52, u95_54, u95_55, u95_55n, u95_57, u95_58, u95_59, u95_62, u95_63, u195_0, u195_1, u195_2, u195_3, u195_6, u195_9, u195_10, u195_11, u195_12, u195_15, u195_18, u195_19, u195_20, u195_23, u195_24, u195_26, u195_29, u195_31, u195_32, u195_33, u195_34, u195_37, u195_38, u195_41, u195_43, e195, q_push_s, q_push_n, q_sm_0, q_sm_i, q_sm_r, q_sm_n, q_sm_l, q_c1_0, q_c1_i, q_c1_r, q_c1_n, Nat.zero_add, Nat.reduceAdd, Nat.reduceMul, Nat.reduceSub, Nat.reduceLeDiff, Nat.reduceLT, Nat.reduceEqDiff, true_and, and_true, not_false_eq_true, if_true, if_false, ite_true, ite_false, or_true, true_or, or_false, false_or, not_true_eq_false, io0, c_sheetAt0 ha, q1, q2, c_in, and_false, z_b_z, Nat.zero_le, Nat.reduceLeDiff]
      exact hK _ _ _ l
end
