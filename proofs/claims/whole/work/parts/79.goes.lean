/-! ===== the reference reads a word ===== -/
section
variable {T : List Nat} {L d : Nat} {m : q_M} {tp : Nat → Nat} {z : Nat} {K : Option Value → q_G → q_M → Prop}
def y_ch (tp : Nat → Nat) (b e k c : Nat) : Prop := y_wl (8 * k + c) = if b + c < e then tp (b + c) else 32
theorem y_wl_r : ∀ i, i < 96 → y_wl i < 256 := by decide
theorem l_word8 {b e k : Nat} (hz : z ≤ 160) (he : e ≤ z) (hb : b ≤ e) (hk : k < 12) (ht : ∀ i, i < z → tp i < 256 ∧ m 43 i = nI (tp i)) (hw : ∀ i, i < 96 → m 51 i = nI (y_wl i)) (d : Nat) : ∀ n c, c + n = 8 →
    ((∀ c', c ≤ c' → c' < 8 → y_ch tp b e k c') → q_R 126 88 d [some (.ref 38), some (.int (nI b)), some (.int (nI e)), some (.int (nI k)), some (.int (nI 1)), some (.int (nI 8))] [] (GG T L) m K) →
    ((∃ c', c ≤ c' ∧ c' < 8 ∧ ¬ y_ch tp b e k c') → ∀ x, q_R 126 88 d [some (.ref 38), some (.int (nI b)), some (.int (nI e)), some (.int (nI k)), some (.int (nI 0)), some (.int x)] [] (GG T L) m K) →
    q_R 126 26 d [some (.ref 38), some (.int (nI b)), some (.int (nI e)), some (.int (nI k)), some (.int (nI 1)), some (.int (nI c))] [] (GG T L) m K
  | 0, c, hn, h1, h2 => by
    have ec : c = 8 := by omega
    subst ec
    rw [u126_26]
    simp only [u126_28, u126_30, q_push_s, q_push_n, q_sm_0, q_sm_i, q_sm_r, q_sm_n, q_sm_l, q_c1_0, q_c1_i, q_c1_r, q_c1_n, Nat.zero_add, Nat.reduceAdd, Nat.reduceMul, Nat.reduceSub, Nat.reduceLeDiff, Nat.reduceLT, Nat.reduceEqDiff, true_and, and_true, not_false_eq_true, if_true, if_false, ite_true, ite_false, or_true, true_or, or_false, false_or, not_true_eq_false, Nat.lt_irrefl, n_lt (i := 8) (j := 8) (by decide) (by decide)]
    exact h1 (fun c' a b => by omega)
  | n + 1, c, hn, h1, h2 => by
    have hc : c < 8 := by omega
    have hbc : (nI (b + c) < nI e) = (b + c < e) := n_lt (by omega) (by omega)
    have ew := hw (8 * k + c) (by omega)
    have hr := y_wl_r (8 * k + c) (by omega)
    have fin : ∀ v, v < 256 → (v = if b + c < e then tp (b + c) else 32) → q_R 126 72 d [some (.ref 38), some (.int (nI b)), some (.int (nI e)), some (.int (nI k)), some (.int (nI 1)), some (.int (nI c))] [.int (nI v), .int (nI (y_wl (8 * k + c)))] (GG T L) m K := by
      intro v hv ev
      have eq := n_eq (i := y_wl (8 * k + c)) (j := v) (by omega) (by omega)
      by_cases q : y_wl (8 * k + c) = v
      · simp only [u126_72, u126_75, u126_76, u126_79, u126_80, u126_82, u126_85, q_push_s, q_push_n, q_sm_0, q_sm_i, q_sm_r, q_sm_n, q_sm_l, q_c1_0, q_c1_i, q_c1_r, q_c1_n, Nat.zero_add, Nat.reduceAdd, Nat.reduceMul, Nat.reduceSub, Nat.reduceLeDiff, Nat.reduceLT, Nat.reduceEqDiff, true_and, and_true, not_false_eq_true, if_true, if_false, ite_true, ite_false, or_true, true_or, or_false, false_or, not_true_eq_false, eq, q, n_add]
        refine l_word8 hz he hb hk ht hw d n (c + 1) (by omega) (fun h => h1 (fun c' a a2 => ?_)) (fun ⟨c', a, a2, a3⟩ => h2 ⟨c', by omega, a2, a3⟩)
        by_cases q2 : c' = c
        · rw [q2]
          unfold y_ch
          rw [q, ev]
        · exact h c' (by omega) a2
      · simp only [u126_72, u126_75, u126_76, u126_79, u126_80, u126_82, u126_85, q_push_s, q_push_n, q_sm_0, q_sm_i, q_sm_r, q_sm_n, q_sm_l, q_c1_0, q_c1_i, q_c1_r, q_c1_n, Nat.zero_add, Nat.reduceAdd, Nat.reduceMul, Nat.reduceSub, Nat.reduceLeDiff, Nat.reduceLT, Nat.reduceEqDiff, true_and, and_true, not_false_eq_true, if_true, if_false, ite_true, ite_false, or_true, true_or, or_false, false_or, not_true_eq_false, eq, q, n_add]
        rw [u126_26]
        by_cases q3 : c + 1 < 8
        · simp only [u126_28, u126_30, u126_33, u126_35, q_push_s, q_push_n, q_sm_0, q_sm_i, q_sm_r, q_sm_n, q_sm_l, q_c1_0, q_c1_i, q_c1_r, q_c1_n, Nat.zero_add, Nat.reduceAdd, Nat.reduceMul, Nat.reduceSub, Nat.reduceLeDiff, Nat.reduceLT, Nat.reduceEqDiff, true_and, and_true, not_false_eq_true, if_true, if_false, ite_true, ite_false, or_true, true_or, or_false, false_or, not_true_eq_false, n_lt (i := c + 1) (j := 8) (by omega) (by decide), q3]
          exact h2 ⟨c, Nat.le_refl _, hc, fun h => q (h.trans ev.symm)⟩ _
        · simp only [u126_28, u126_30, u126_33, u126_35, q_push_s, q_push_n, q_sm_0, q_sm_i, q_sm_r, q_sm_n, q_sm_l, q_c1_0, q_c1_i, q_c1_r, q_c1_n, Nat.zero_add, Nat.reduceAdd, Nat.reduceMul, Nat.reduceSub, Nat.reduceLeDiff, Nat.reduceLT, Nat.reduceEqDiff, true_and, and_true, not_false_eq_true, if_true, if_false, ite_true, ite_false, or_true, true_or, or_false, false_or, not_true_eq_false, n_lt (i := c + 1) (j := 8) (by omega) (by decide), q3]
          exact h2 ⟨c, Nat.le_refl _, hc, fun h => q (h.trans ev.symm)⟩ _
    rw [u126_26]
    by_cases q : b + c < e
    · obtain ⟨t1, t2⟩ := ht (b + c) (by omega)
      simp only [u126_28, u126_30, u126_33, u126_35, u126_38, u126_39, u126_42, u126_44, u126_45, u126_46, u126_48, u126_49, u126_50, u126_51, u126_53, u126_54, u126_55, u126_58, u126_59, u126_62, u126_63, u126_65, u126_66, u126_67, q_push_s, q_push_n, q_sm_0, q_sm_i, q_sm_r, q_sm_n, q_sm_l, q_c1_0, q_c1_i, q_c1_r, q_c1_n, Nat.zero_add, Nat.reduceAdd, Nat.reduceMul, Nat.reduceSub, Nat.reduceLeDiff, Nat.reduceLT, Nat.reduceEqDiff, true_and, and_true, not_false_eq_true, if_true, if_false, ite_true, ite_false, or_true, true_or, or_false, false_or, not_true_eq_false, n_lt (i := c) (j := 8) (by omega) (by decide), hc, gf38_25, n_mul, n_add, ia51 (i := 8 * k + c) (by omega), ew, hbc, q, gf38_6, ia43 (i := b + c) (by omega), t2]
      exact fin _ t1 (by rw [if_pos q])
    · simp only [u126_28, u126_30, u126_33, u126_35, u126_38, u126_39, u126_42, u126_44, u126_45, u126_46, u126_48, u126_49, u126_50, u126_51, u126_53, u126_54, u126_55, u126_58, u126_59, u126_62, u126_63, u126_65, u126_66, u126_67, u126_70, q_push_s, q_push_n, q_sm_0, q_sm_i, q_sm_r, q_sm_n, q_sm_l, q_c1_0, q_c1_i, q_c1_r, q_c1_n, Nat.zero_add, Nat.reduceAdd, Nat.reduceMul, Nat.reduceSub, Nat.reduceLeDiff, Nat.reduceLT, Nat.reduceEqDiff, true_and, and_true, not_false_eq_true, if_true, if_false, ite_true, ite_false, or_true, true_or, or_false, false_or, not_true_eq_false, n_lt (i := c) (j := 8) (by omega) (by decide), hc, gf38_25, n_mul, n_add, ia51 (i := 8 * k + c) (by omega), ew, hbc, q]
      exact fin 32 (by decide) (by rw [if_neg q])
theorem l_word {b e : Nat} (hz : z ≤ 160) (he : e ≤ z) (hb : b ≤ e) (ht : ∀ i, i < z → tp i < 256 ∧ m 43 i = nI (tp i)) (hw : ∀ i, i < 96 → m 51 i = nI (y_wl i)) (d : Nat) (hK : K (some (.int (nI (y_wn tp b e)))) (GG T L) m) : ∀ n k x y, q_c1 x = true → q_c1 y = true → k + n = 12 → (∀ k', k' < k → ¬ y_wd tp b e k') →
    q_R 126 2 d [some (.ref 38), some (.int (nI b)), some (.int (nI e)), some (.int (nI k)), x, y] [] (GG T L) m K
  | 0, k, x, y, hx, hy, hn, hno => by
    have ek : k = 12 := by omega
    subst ek
    simp only [u126_2, u126_3, u126_5, u126_101, u126_103, q_push_s, q_push_n, q_sm_0, q_sm_i, q_sm_r, q_sm_n, q_sm_l, q_c1_0, q_c1_i, q_c1_r, q_c1_n, Nat.zero_add, Nat.reduceAdd, Nat.reduceMul, Nat.reduceSub, Nat.reduceLeDiff, Nat.reduceLT, Nat.reduceEqDiff, true_and, and_true, not_false_eq_true, if_true, if_false, ite_true, ite_false, or_true, true_or, or_false, false_or, not_true_eq_false, Nat.lt_irrefl, n_lt (i := 12) (j := 12) (by decide) (by decide)]
    rw [y_wn_no hno] at hK
    exact hK
  | n + 1, k, x, y, hx, hy, hn, hno => by
    have hk : k < 12 := by omega
    rw [u126_2]
    by_cases q8 : e - b ≤ 8
    · simp only [u126_3, u126_5, u126_8, u126_9, u126_10, u126_11, u126_13, u126_16, u126_17, u126_20, u126_21, u126_23, u126_24, q_push_s, q_push_n, q_sm_0, q_sm_i, q_sm_r, q_sm_n, q_sm_l, q_c1_0, q_c1_i, q_c1_r, q_c1_n, Nat.zero_add, Nat.reduceAdd, Nat.reduceMul, Nat.reduceSub, Nat.reduceLeDiff, Nat.reduceLT, Nat.reduceEqDiff, true_and, and_true, not_false_eq_true, if_true, if_false, ite_true, ite_false, or_true, true_or, or_false, false_or, not_true_eq_false, n_lt (i := k) (j := 12) (by omega) (by decide), hk, n_sub hb, n_le (i := e - b) (j := 8) (by omega) (by decide), q8, hx, hy]
      refine l_word8 hz he hb hk ht hw d 8 0 rfl (fun h => ?_) (fun ⟨c', a, a2, a3⟩ x => ?_)
      · rw [y_wn_of hk ⟨q8, fun c hc => h c (by omega) hc⟩] at hK
        simp only [u126_88, u126_90, u126_93, u126_94, q_push_s, q_push_n, q_sm_0, q_sm_i, q_sm_r, q_sm_n, q_sm_l, q_c1_0, q_c1_i, q_c1_r, q_c1_n, Nat.zero_add, Nat.reduceAdd, Nat.reduceMul, Nat.reduceSub, Nat.reduceLeDiff, Nat.reduceLT, Nat.reduceEqDiff, true_and, and_true, not_false_eq_true, if_true, if_false, ite_true, ite_false, or_true, true_or, or_false, false_or, not_true_eq_false, eq_self, lq_0_1, lq_0_2, lq_0_3, lq_0_4, lq_0_5, lq_0_6, lq_1_0, lq_1_2, lq_1_3, lq_1_4, lq_1_5, lq_1_6, lq_2_0, lq_2_1, lq_2_3, lq_2_4, lq_2_5, lq_2_6, lq_3_0, lq_3_1, lq_3_2, lq_3_4, lq_3_5, lq_3_6, lq_4_0, lq_4_1, lq_4_2, lq_4_3, lq_4_5, lq_4_6, lq_5_0, lq_5_1, lq_5_2, lq_5_3, lq_5_4, lq_5_6, lq_6_0, lq_6_1, lq_6_2, lq_6_3, lq_6_4, lq_6_5, ll_0_0, ll_0_1, ll_0_2, ll_0_3, ll_0_4, ll_0_5, ll_0_6, ll_1_0, ll_1_1, ll_1_2, ll_1_3, ll_1_4, ll_1_5, ll_1_6, ll_2_0, ll_2_1, ll_2_2, ll_2_3, ll_2_4, ll_2_5, ll_2_6, ll_3_0, ll_3_1, ll_3_2, ll_3_3, ll_3_4, ll_3_5, ll_3_6, ll_4_0, ll_4_1, ll_4_2, ll_4_3, ll_4_4, ll_4_5, ll_4_6, ll_5_0, ll_5_1, ll_5_2, ll_5_3, ll_5_4, ll_5_5, ll_5_6, ll_6_0, ll_6_1, ll_6_2, ll_6_3, ll_6_4, ll_6_5, ll_6_6, le_0_0, le_0_1, le_0_2, le_0_3, le_0_4, le_0_5, le_0_6, le_1_0, le_1_1, le_1_2, le_1_3, le_1_4, le_1_5, le_1_6, le_2_0, le_2_1, le_2_2, le_2_3, le_2_4, le_2_5, le_2_6, le_3_0, le_3_1, le_3_2, le_3_3, le_3_4, le_3_5, le_3_6, le_4_0, le_4_1, le_4_2, le_4_3, le_4_4, le_4_5, le_4_6, le_5_0, le_5_1, le_5_2, le_5_3, le_5_4, le_5_5, le_5_6, le_6_0, le_6_1, le_6_2, le_6_3, le_6_4, le_6_5, le_6_6]
        exact hK
      · simp only [u126_88, u126_90, u126_93, u126_94, u126_95, u126_98, q_push_s, q_push_n, q_sm_0, q_sm_i, q_sm_r, q_sm_n, q_sm_l, q_c1_0, q_c1_i, q_c1_r, q_c1_n, Nat.zero_add, Nat.reduceAdd, Nat.reduceMul, Nat.reduceSub, Nat.reduceLeDiff, Nat.reduceLT, Nat.reduceEqDiff, true_and, and_true, not_false_eq_true, if_true, if_false, ite_true, ite_false, or_true, true_or, or_false, false_or, not_true_eq_false, n_add]
        refine l_word hz he hb ht hw d hK n (k + 1) _ _ rfl rfl (by omega) (fun k' hk' => ?_)
        by_cases q2 : k' = k
        · rw [q2]; exact fun h => a3 (h.2 c' a2)
        · exact hno k' (by omega)
    · simp only [u126_3, u126_5, u126_8, u126_9, u126_10, u126_11, u126_13, u126_16, u126_17, u126_20, u126_21, u126_23, u126_24, q_push_s, q_push_n, q_sm_0, q_sm_i, q_sm_r, q_sm_n, q_sm_l, q_c1_0, q_c1_i, q_c1_r, q_c1_n, Nat.zero_add, Nat.reduceAdd, Nat.reduceMul, Nat.reduceSub, Nat.reduceLeDiff, Nat.reduceLT, Nat.reduceEqDiff, true_and, and_true, not_false_eq_true, if_true, if_false, ite_true, ite_false, or_true, true_or, or_false, false_or, not_true_eq_false, n_lt (i := k) (j := 12) (by omega) (by decide), hk, n_sub hb, n_le (i := e - b) (j := 8) (by omega) (by decide), q8, hx, hy]
      rw [u126_26]
      simp only [u126_28, u126_30, u126_33, u126_35, u126_88, u126_90, u126_93, u126_94, u126_95, u126_98, q_push_s, q_push_n, q_sm_0, q_sm_i, q_sm_r, q_sm_n, q_sm_l, q_c1_0, q_c1_i, q_c1_r, q_c1_n, Nat.zero_add, Nat.reduceAdd, Nat.reduceMul, Nat.reduceSub, Nat.reduceLeDiff, Nat.reduceLT, Nat.reduceEqDiff, true_and, and_true, not_false_eq_true, if_true, if_false, ite_true, ite_false, or_true, true_or, or_false, false_or, not_true_eq_false, n_lt (i := 0) (j := 8) (by decide) (by decide), (show 0 < 8 by decide), n_add]
      refine l_word hz he hb ht hw d hK n (k + 1) _ _ rfl rfl (by omega) (fun k' hk' => ?_)
      by_cases q2 : k' = k
      · rw [q2]; exact fun h => q8 h.1
      · exact hno k' (by omega)
theorem c_wordFrom {b e : Nat} (hz : z ≤ 160) (he : e ≤ z) (hb : b ≤ e) (ht : ∀ i, i < z → tp i < 256 ∧ m 43 i = nI (tp i)) (hw : ∀ i, i < 96 → m 51 i = nI (y_wl i)) (hK : K (some (.int (nI (y_wn tp b e)))) (GG T L) m) : q_C 126 d [.ref 38, .int (nI b), .int (nI e)] (GG T L) m K := by
  simp only [e126, u126_0, u126_1, q_push_s, q_push_n, q_sm_0, q_sm_i, q_sm_r, q_sm_n, q_sm_l, q_c1_0, q_c1_i, q_c1_r, q_c1_n, Nat.zero_add, Nat.reduceAdd, Nat.reduceMul, Nat.reduceSub, Nat.reduceLeDiff, Nat.reduceLT, Nat.reduceEqDiff, true_and, and_true, not_false_eq_true, if_true, if_false, ite_true, ite_false, or_true, true_or, or_false, false_or, not_true_eq_false]
  exact l_word hz he hb ht hw d hK 12 0 _ _ rfl rfl rfl (fun k' h => by omega)
end
/-! ===== the reference goes on to what stands next ===== -/
/-- what goesNext changes -/
def YG (m m' : q_M) : Prop := (∀ p, p ≠ 38 → m' p = m p) ∧ ∀ f, ¬ (21 ≤ f ∧ f ≤ 24) → m' 38 f = m 38 f
theorem YG.refl (m : q_M) : YG m m := ⟨fun _ _ => rfl, fun _ _ => rfl⟩
theorem YG.trans {a b c : q_M} (h : YG a b) (h' : YG b c) : YG a c := ⟨fun p hp => (h'.1 p hp).trans (h.1 p hp), fun f hf => (h'.2 f hf).trans (h.2 f hf)⟩
theorem YG.up (m : q_M) {f : Nat} (v : Int32) (hf : 21 ≤ f ∧ f ≤ 24) : YG m (q_up m 38 f v) := ⟨fun p hp => by rw [q_up_f _ _ _ hp], fun f' hf' => q_up_i _ _ (by intro e; rw [e] at hf'; exact hf' hf) _⟩
/-- the tape as goesNext sees it -/
def y_T (tp : Nat → Nat) (z : Nat) (m : q_M) : Prop := z ≤ 160 ∧ m 38 7 = nI z ∧ ∀ i, i < z → tp i < 256 ∧ m 43 i = nI (tp i)
theorem y_T.fr {tp : Nat → Nat} {z : Nat} {m m' : q_M} (h : y_T tp z m) (f : YG m m') : y_T tp z m' := by
  obtain ⟨h1, h2, h3⟩ := h
  exact ⟨h1, by rw [f.2 7 (by omega)]; exact h2, fun i hi => by rw [f.1 43 (by decide)]; exact h3 i hi⟩
section
variable {T : List Nat} {L d : Nat} {m : q_M} {tp : Nat → Nat} {z : Nat} {K : Option Value → q_G → q_M → Prop}
theorem l_blank (d : Nat) : ∀ n i m, i + n = z → y_T tp z m → m 38 21 = nI i → (∀ m', YG m m' → m' 38 21 = nI (y_sk y_blk tp z i) → q_R 127 52 d [some (.ref 38), none, none] [] (GG T L) m' K) →
    q_R 127 0 d [some (.ref 38), none, none] [] (GG T L) m K
  | 0, i, m, hn, ht, ha, hK => by
    obtain ⟨t1, t2, t3⟩ := ht
    have ei : i = z := by omega
    subst ei
    rw [u127_0]
    simp only [u127_1, u127_4, u127_5, u127_8, q_push_s, q_push_n, q_sm_0, q_sm_i, q_sm_r, q_sm_n, q_sm_l, q_c1_0, q_c1_i, q_c1_r, q_c1_n, Nat.zero_add, Nat.reduceAdd, Nat.reduceMul, Nat.reduceSub, Nat.reduceLeDiff, Nat.reduceLT, Nat.reduceEqDiff, true_and, and_true, not_false_eq_true, if_true, if_false, ite_true, ite_false, or_true, true_or, or_false, false_or, not_true_eq_false, gf38_21, gf38_7, ha, t2, n_lt (i := i) (j := i) (by omega) (by omega), Nat.lt_irrefl]
    exact hK m (YG.refl m) (by rw [y_sk_end (by omega)]; exact ha)
  | n + 1, i, m, hn, ht, ha, hK => by
    have hi : i < z := by omega
    obtain ⟨t1, t2, t3⟩ := ht
    obtain ⟨t4, t5⟩ := t3 i hi
    have hlt := n_lt (i := i) (j := z) (by omega) (by omega)
    have q32 := n_eq (i := tp i) (j := 32) (by omega) (by decide)
    have q10 := n_eq (i := tp i) (j := 10) (by omega) (by decide)
    have go : y_blk (tp i) = true → q_R 127 39 d [some (.ref 38), none, none] [] (GG T L) m K := fun hb => by
      simp only [u127_39, u127_40, u127_40r, u127_41, u127_44, u127_45, u127_46, u127_49, q_push_s, q_push_n, q_sm_0, q_sm_i, q_sm_r, q_sm_n, q_sm_l, q_c1_0, q_c1_i, q_c1_r, q_c1_n, Nat.zero_add, Nat.reduceAdd, Nat.reduceMul, Nat.reduceSub, Nat.reduceLeDiff, Nat.reduceLT, Nat.reduceEqDiff, true_and, and_true, not_false_eq_true, if_true, if_false, ite_true, ite_false, or_true, true_or, or_false, false_or, not_true_eq_false, gf38_21, pf38_21, ha, n_add]
      have f1 : YG m (q_up m 38 21 (nI (i + 1))) := YG.up m _ (by decide)
      exact l_blank d n (i + 1) _ (by omega) (y_T.fr ⟨t1, t2, t3⟩ f1) (q_up_eq _ _ _ _) (fun m' f2 e2 => hK m' (f1.trans f2) (by rw [y_sk_go hi hb]; exact e2))
    rw [u127_0]
    by_cases a : tp i = 32
    · simp only [u127_1, u127_4, u127_5, u127_8, u127_11, u127_12, u127_15, u127_16, u127_19, u127_20, u127_22, u127_25, u127_26, u127_29, u127_30, u127_33, u127_34, u127_36, q_push_s, q_push_n, q_sm_0, q_sm_i, q_sm_r, q_sm_n, q_sm_l, q_c1_0, q_c1_i, q_c1_r, q_c1_n, Nat.zero_add, Nat.reduceAdd, Nat.reduceMul, Nat.reduceSub, Nat.reduceLeDiff, Nat.reduceLT, Nat.reduceEqDiff, true_and, and_true, not_false_eq_true, if_true, if_false, ite_true, ite_false, or_true, true_or, or_false, false_or, not_true_eq_false, gf38_21, gf38_7, gf38_6, ha, t2, hlt, hi, ia43 (i := i) (by omega), t5, q32, a]
      exact go (by unfold y_blk; rw [a]; rfl)
    · by_cases b : tp i = 10
      · simp only [u127_1, u127_4, u127_5, u127_8, u127_11, u127_12, u127_15, u127_16, u127_19, u127_20, u127_22, u127_25, u127_26, u127_29, u127_30, u127_33, u127_34, u127_36, q_push_s, q_push_n, q_sm_0, q_sm_i, q_sm_r, q_sm_n, q_sm_l, q_c1_0, q_c1_i, q_c1_r, q_c1_n, Nat.zero_add, Nat.reduceAdd, Nat.reduceMul, Nat.reduceSub, Nat.reduceLeDiff, Nat.reduceLT, Nat.reduceEqDiff, true_and, and_true, not_false_eq_true, if_true, if_false, ite_true, ite_false, or_true, true_or, or_false, false_or, not_true_eq_false, gf38_21, gf38_7, gf38_6, ha, t2, hlt, hi, ia43 (i := i) (by omega), t5, q32, a, q10, b]
        exact go (by unfold y_blk; rw [b]; rfl)
      · simp only [u127_1, u127_4, u127_5, u127_8, u127_11, u127_12, u127_15, u127_16, u127_19, u127_20, u127_22, u127_25, u127_26, u127_29, u127_30, u127_33, u127_34, u127_36, q_push_s, q_push_n, q_sm_0, q_sm_i, q_sm_r, q_sm_n, q_sm_l, q_c1_0, q_c1_i, q_c1_r, q_c1_n, Nat.zero_add, Nat.reduceAdd, Nat.reduceMul, Nat.reduceSub, Nat.reduceLeDiff, Nat.reduceLT, Nat.reduceEqDiff, true_and, and_true, not_false_eq_true, if_true, if_false, ite_true, ite_false, or_true, true_or, or_false, false_or, not_true_eq_false, gf38_21, gf38_7, gf38_6, ha, t2, hlt, hi, ia43 (i := i) (by omega), t5, q32, a, q10, b]
        exact hK m (YG.refl m) (by rw [y_sk_no hi (by unfold y_blk; exact fun e => (of_decide_eq_true e).elim a b)]; exact ha)
theorem y_in {b lo hi : Nat} (h1 : b < 256) (h2 : lo < 256) (h3 : hi < 256) : (¬ nI b < nI lo ∧ nI b ≤ nI hi) = (lo ≤ b ∧ b ≤ hi) := by
  rw [n_lt (by omega) (by omega), n_le (by omega) (by omega), Nat.not_lt]
theorem y_letI {b : Nat} (h : b < 256) : (¬ nI b < nI 97 ∧ nI b ≤ nI 122) = (y_let b = true) := (y_in h (by decide) (by decide)).trans (propext ⟨fun h => decide_eq_true h, fun h => of_decide_eq_true h⟩)
theorem y_digI {b : Nat} (h : b < 256) : (¬ nI b < nI 48 ∧ nI b ≤ nI 57) = (y_dig b = true) := (y_in h (by decide) (by decide)).trans (propext ⟨fun h => decide_eq_true h, fun h => of_decide_eq_true h⟩)
theorem l_lets8 (d : Nat) (c : Int32) : ∀ n i m, i + n = z → y_T tp z m → m 38 21 = nI i → (∀ m', YG m m' → m' 38 22 = m 38 22 → m' 38 21 = nI (y_sk y_let tp z i) → q_R 127 146 (d + 1) [some (.ref 38), some (.int c), none] [] (GG T L) m' K) →
    q_R 127 103 (d + 1) [some (.ref 38), some (.int c), none] [] (GG T L) m K
  | 0, i, m, hn, ht, ha, hK => by
    obtain ⟨t1, t2, t3⟩ := ht
    have ei : i = z := by omega
    subst ei
    rw [u127_103]
    simp only [u127_104, u127_107, u127_108, u127_111, q_push_s, q_push_n, q_sm_0, q_sm_i, q_sm_r, q_sm_n, q_sm_l, q_c1_0, q_c1_i, q_c1_r, q_c1_n, Nat.zero_add, Nat.reduceAdd, Nat.reduceMul, Nat.reduceSub, Nat.reduceLeDiff, Nat.reduceLT, Nat.reduceEqDiff, true_and, and_true, not_false_eq_true, if_true, if_false, ite_true, ite_false, or_true, true_or, or_false, false_or, not_true_eq_false, gf38_21, gf38_7, ha, t2, n_lt (i := i) (j := i) (by omega) (by omega), Nat.lt_irrefl]
    exact hK m (YG.refl m) rfl (by rw [y_sk_end (by omega)]; exact ha)
  | n + 1, i, m, hn, ht, ha, hK => by
    have hi : i < z := by omega
    obtain ⟨t1, t2, t3⟩ := ht
    obtain ⟨t4, t5⟩ := t3 i hi
    have hlt := n_lt (i := i) (j := z) (by omega) (by omega)
    rw [u127_103]
    by_cases a : y_let (tp i) = true
    · simp only [u127_104, u127_107, u127_108, u127_111, u127_114, u127_115, u127_118, u127_119, u127_122, u127_123, u127_125, u127_127, u127_130, u127_133, u127_134, u127_134r, u127_135, u127_138, u127_139, u127_140, u127_143, q_push_s, q_push_n, q_sm_0, q_sm_i, q_sm_r, q_sm_n, q_sm_l, q_c1_0, q_c1_i, q_c1_r, q_c1_n, Nat.zero_add, Nat.reduceAdd, Nat.reduceMul, Nat.reduceSub, Nat.reduceLeDiff, Nat.reduceLT, Nat.reduceEqDiff, true_and, and_true, not_false_eq_true, if_true, if_false, ite_true, ite_false, or_true, true_or, or_false, false_or, not_true_eq_false, gf38_21, pf38_21, gf38_7, gf38_6, ha, t2, hlt, hi, ia43 (i := i) (by omega), t5, c_in, y_letI t4, a, z_b_z, n_add]
      have f1 : YG m (q_up m 38 21 (nI (i + 1))) := YG.up m _ (by decide)
      exact l_lets8 d c n (i + 1) _ (by omega) (y_T.fr ⟨t1, t2, t3⟩ f1) (q_up_eq _ _ _ _) (fun m' f2 e1 e2 => hK m' (f1.trans f2) (by rw [e1, q_up_i _ _ (by decide)]) (by rw [y_sk_go hi a]; exact e2))
    · simp only [u127_104, u127_107, u127_108, u127_111, u127_114, u127_115, u127_118, u127_119, u127_122, u127_123, u127_125, u127_127, u127_130, q_push_s, q_push_n, q_sm_0, q_sm_i, q_sm_r, q_sm_n, q_sm_l, q_c1_0, q_c1_i, q_c1_r, q_c1_n, Nat.zero_add, Nat.reduceAdd, Nat.reduceMul, Nat.reduceSub, Nat.reduceLeDiff, Nat.reduceLT, Nat.reduceEqDiff, true_and, and_true, not_false_eq_true, if_true, if_false, ite_true, ite_false, or_true, true_or, or_false, false_or, not_true_eq_false, gf38_21, pf38_21, gf38_7, gf38_6, ha, t2, hlt, hi, ia43 (i := i) (by omega), t5, c_in, y_letI t4, a, z_b_z, n_add]
      exact hK m (YG.refl m) rfl (by rw [y_sk_no hi a]; exact ha)
theorem y_val_s {b c : Nat} : y_val tp b (c + 1) = 10 * y_val tp b c + (tp (b + c) - 48) := rfl
theorem y_sub48 {a : Nat} (h : 48 ≤ a) (v : Nat) : nI 10 * nI v + nI a - nI 48 = nI (10 * v + (a - 48)) := by
  rw [n_mul, n_add, n_sub (by omega), Nat.add_sub_assoc h]
theorem l_digs8 (d : Nat) (c : Int32) {b : Nat} : ∀ n i m, b ≤ i → i + n = z → y_T tp z m → m 38 21 = nI i → (i - b ≤ 4 → m 38 24 = nI (y_val tp b (i - b))) → (∀ m', YG m m' → m' 38 22 = m 38 22 → m' 38 21 = nI (y_sk y_dig tp z i) → (y_sk y_dig tp z i - b ≤ 4 → m' 38 24 = nI (y_val tp b (y_sk y_dig tp z i - b))) → q_R 127 309 (d + 1) [some (.ref 38), some (.int c), some (.int (nI (y_sk y_dig tp z i - b)))] [] (GG T L) m' K) →
    q_R 127 230 (d + 1) [some (.ref 38), some (.int c), some (.int (nI (i - b)))] [] (GG T L) m K
  | 0, i, m, hb, hn, ht, ha, hv, hK => by
    obtain ⟨t1, t2, t3⟩ := ht
    have ei : i = z := by omega
    subst ei
    rw [u127_230]
    simp only [u127_231, u127_234, u127_235, u127_238, q_push_s, q_push_n, q_sm_0, q_sm_i, q_sm_r, q_sm_n, q_sm_l, q_c1_0, q_c1_i, q_c1_r, q_c1_n, Nat.zero_add, Nat.reduceAdd, Nat.reduceMul, Nat.reduceSub, Nat.reduceLeDiff, Nat.reduceLT, Nat.reduceEqDiff, true_and, and_true, not_false_eq_true, if_true, if_false, ite_true, ite_false, or_true, true_or, or_false, false_or, not_true_eq_false, gf38_21, gf38_7, ha, t2, n_lt (i := i) (j := i) (by omega) (by omega), Nat.lt_irrefl]
    have e := y_sk_end (pr := y_dig) (tp := tp) (z := i) (i := i) (Nat.lt_irrefl i)
    rw [e] at hK
    exact hK m (YG.refl m) rfl ha hv
  | n + 1, i, m, hb, hn, ht, ha, hv, hK => by
    have hi : i < z := by omega
    obtain ⟨t1, t2, t3⟩ := ht
    obtain ⟨t4, t5⟩ := t3 i hi
    have hlt := n_lt (i := i) (j := z) (by omega) (by omega)
    rw [u127_230]
    by_cases a : y_dig (tp i) = true
    · have a48 : 48 ≤ tp i := (of_decide_eq_true a).1
      have hK2 := hK
      rw [y_sk_go hi a] at hK2
      have ei : i + 1 - b = i - b + 1 := by omega
      have hl4 := n_lt (i := i - b) (j := 4) (by omega) (by decide)
      by_cases q : i - b < 4
      · have hv' := hv (by omega)
        simp only [u127_231, u127_234, u127_235, u127_238, u127_241, u127_242, u127_245, u127_246, u127_249, u127_250, u127_252, u127_254, u127_257, u127_260, u127_261, u127_262, u127_263, u127_266, u127_268, u127_269, u127_272, u127_273, u127_274, u127_277, u127_278, u127_281, u127_282, u127_283, u127_285, u127_286, u127_289, u127_290, u127_293, u127_296, u127_297, u127_297r, u127_298, u127_301, u127_302, u127_303, u127_306, q_push_s, q_push_n, q_sm_0, q_sm_i, q_sm_r, q_sm_n, q_sm_l, q_c1_0, q_c1_i, q_c1_r, q_c1_n, Nat.zero_add, Nat.reduceAdd, Nat.reduceMul, Nat.reduceSub, Nat.reduceLeDiff, Nat.reduceLT, Nat.reduceEqDiff, true_and, and_true, not_false_eq_true, if_true, if_false, ite_true, ite_false, or_true, true_or, or_false, false_or, not_true_eq_false, gf38_21, pf38_21, gf38_24, pf38_24, gf38_7, gf38_6, ha, t2, hlt, hi, ia43 (i := i) (by omega), t5, c_in, y_digI t4, a, z_b_z, hl4, q, hv', y_sub48 a48, q_up_i _ _ (show 21 ≠ 24 by decide), n_add]
        have f1 : YG m (q_up (q_up m 38 24 (nI (10 * y_val tp b (i - b) + (tp i - 48)))) 38 21 (nI (i + 1))) := (YG.up m _ (by decide)).trans (YG.up _ _ (by decide))
        have hr := l_digs8 d c n (i + 1) (q_up (q_up m 38 24 (nI (10 * y_val tp b (i - b) + (tp i - 48)))) 38 21 (nI (i + 1))) (by omega) (by omega) (y_T.fr ⟨t1, t2, t3⟩ f1) (q_up_eq _ _ _ _) (fun h => ?_) (fun m' f2 e1 e2 e3 => hK2 m' (f1.trans f2) (by rw [e1, q_up_i _ _ (by decide), q_up_i _ _ (by decide)]) e2 e3)
        · rw [ei] at hr
          exact hr
        · rw [q_up_i _ _ (by decide), q_up_eq, ei, y_val_s]
          rw [show b + (i - b) = i by omega]
      · simp only [u127_231, u127_234, u127_235, u127_238, u127_241, u127_242, u127_245, u127_246, u127_249, u127_250, u127_252, u127_254, u127_257, u127_260, u127_261, u127_262, u127_263, u127_266, u127_268, u127_269, u127_272, u127_273, u127_274, u127_277, u127_278, u127_281, u127_282, u127_283, u127_285, u127_286, u127_289, u127_290, u127_293, u127_296, u127_297, u127_297r, u127_298, u127_301, u127_302, u127_303, u127_306, q_push_s, q_push_n, q_sm_0, q_sm_i, q_sm_r, q_sm_n, q_sm_l, q_c1_0, q_c1_i, q_c1_r, q_c1_n, Nat.zero_add, Nat.reduceAdd, Nat.reduceMul, Nat.reduceSub, Nat.reduceLeDiff, Nat.reduceLT, Nat.reduceEqDiff, true_and, and_true, not_false_eq_true, if_true, if_false, ite_true, ite_false, or_true, true_or, or_false, false_or, not_true_eq_false, gf38_21, pf38_21, gf38_24, pf38_24, gf38_7, gf38_6, ha, t2, hlt, hi, ia43 (i := i) (by omega), t5, c_in, y_digI t4, a, z_b_z, hl4, q, q_up_i _ _ (show 21 ≠ 24 by decide), n_add]
        have f1 : YG m (q_up (q_up m 38 24 (nI 0)) 38 21 (nI (i + 1))) := (YG.up m _ (by decide)).trans (YG.up _ _ (by decide))
        have hr := l_digs8 d c n (i + 1) (q_up (q_up m 38 24 (nI 0)) 38 21 (nI (i + 1))) (by omega) (by omega) (y_T.fr ⟨t1, t2, t3⟩ f1) (q_up_eq _ _ _ _) (fun h => absurd h (by omega)) (fun m' f2 e1 e2 e3 => hK2 m' (f1.trans f2) (by rw [e1, q_up_i _ _ (by decide), q_up_i _ _ (by decide)]) e2 e3)
        rw [ei] at hr
        exact hr
    · simp only [u127_231, u127_234, u127_235, u127_238, u127_241, u127_242, u127_245, u127_246, u127_249, u127_250, u127_252, u127_254, u127_257, q_push_s, q_push_n, q_sm_0, q_sm_i, q_sm_r, q_sm_n, q_sm_l, q_c1_0, q_c1_i, q_c1_r, q_c1_n, Nat.zero_add, Nat.reduceAdd, Nat.reduceMul, Nat.reduceSub, Nat.reduceLeDiff, Nat.reduceLT, Nat.reduceEqDiff, true_and, and_true, not_false_eq_true, if_true, if_false, ite_true, ite_false, or_true, true_or, or_false, false_or, not_true_eq_false, gf38_21, pf38_21, gf38_7, gf38_6, ha, t2, hlt, hi, ia43 (i := i) (by omega), t5, c_in, y_digI t4, a, z_b_z, n_add]
      rw [y_sk_no hi a] at hK
      exact hK m (YG.refl m) rfl ha hv
/-- the reference's token -/
def y_rt (t : Nat) : Int32 := if t = 7 then (-1 : Int32) else nI t
theorem y_sigI {b : Nat} (h : b < 256) : y_sig b = true ∨ (y_sig b = false ∧ ¬ b = 40 ∧ ¬ b = 41 ∧ ¬ b = 59 ∧ ¬ b = 43 ∧ ¬ b = 45 ∧ ¬ b = 42 ∧ ¬ b = 60 ∧ ¬ b = 61) := by
  by_cases q : y_sig b = true
  · exact Or.inl q
  · have q2 : ¬ (b = 40 ∨ b = 41 ∨ b = 59 ∨ b = 43 ∨ b = 45 ∨ b = 42 ∨ b = 60 ∨ b = 61) := fun e => q (decide_eq_true e)
    refine Or.inr ⟨by simpa using q, ?_⟩
    omega
theorem c_goesNext {p : Nat} (hp : p ≤ z) (ht : y_T tp z m) (hw : ∀ i, i < 96 → m 51 i = nI (y_wl i)) (ha : m 38 21 = nI p) (hK : ∀ m', YG m m' → m' 38 21 = nI (y_te tp z p) → m' 38 22 = nI (y_tb tp z p) → m' 38 23 = y_rt (y_tt tp z p) → (y_tt tp z p = 1 ∨ y_tt tp z p = 2 ∨ y_tt tp z p = 3 → m' 38 24 = nI (y_tv tp z p)) → K none (GG T L) m') :
    q_C 127 (d + 1) [.ref 38] (GG T L) m K := by
  simp only [e127]
  refine l_blank (d + 1) (z - p) p m (by omega) ht ha (fun m1 f1 a1 => ?_)
  have hb := (y_tb_le (tp := tp) (z := z) (p := p)).2 hp
  obtain ⟨g1, g2, g3⟩ := y_te_le (tp := tp) (z := z) hp
  have a1' : m1 38 21 = nI (y_tb tp z p) := a1
  obtain ⟨t1, t2, t3⟩ := ht.fr f1
  have f2 : YG m (q_up (q_up (q_up m1 38 22 (nI (y_tb tp z p))) 38 23 (nI 0)) 38 24 (nI 0)) := ((f1.trans (YG.up _ _ (by decide))).trans (YG.up _ _ (by decide))).trans (YG.up _ _ (by decide))
  have e21 : (q_up (q_up (q_up m1 38 22 (nI (y_tb tp z p))) 38 23 (nI 0)) 38 24 (nI 0)) 38 21 = nI (y_tb tp z p) := by
    rw [q_up_i _ _ (by decide), q_up_i _ _ (by decide), q_up_i _ _ (by decide)]; exact a1'
  have e7 : (q_up (q_up (q_up m1 38 22 (nI (y_tb tp z p))) 38 23 (nI 0)) 38 24 (nI 0)) 38 7 = nI z := by
    rw [q_up_i _ _ (by decide), q_up_i _ _ (by decide), q_up_i _ _ (by decide)]; exact t2
  have e22 : (q_up (q_up (q_up m1 38 22 (nI (y_tb tp z p))) 38 23 (nI 0)) 38 24 (nI 0)) 38 22 = nI (y_tb tp z p) := by
    rw [q_up_i _ _ (by decide), q_up_i _ _ (by decide), q_up_eq]
  have e23 : (q_up (q_up (q_up m1 38 22 (nI (y_tb tp z p))) 38 23 (nI 0)) 38 24 (nI 0)) 38 23 = nI 0 := by
    rw [q_up_i _ _ (by decide), q_up_eq]
  have e24 : (q_up (q_up (q_up m1 38 22 (nI (y_tb tp z p))) 38 23 (nI 0)) 38 24 (nI 0)) 38 24 = nI 0 := q_up_eq _ _ _ _
  have ht2 := ht.fr f2
  have eqz := n_eq (i := y_tb tp z p) (j := z) (by omega) (by omega)
  by_cases h : y_tb tp z p < z
  · have h' : ¬ y_tb tp z p = z := by omega
    obtain ⟨b1, b2⟩ := t3 _ h
    have b2' : (q_up (q_up (q_up m1 38 22 (nI (y_tb tp z p))) 38 23 (nI 0)) 38 24 (nI 0)) 43 (y_tb tp z p) = nI (tp (y_tb tp z p)) := (ht2.2.2 _ h).2
    simp only [u127_52, u127_53, u127_54, u127_57, u127_60, u127_61, u127_62, u127_65, u127_66, u127_67, u127_70, u127_71, u127_74, u127_75, u127_78, q_push_s, q_push_n, q_sm_0, q_sm_i, q_sm_r, q_sm_n, q_sm_l, q_c1_0, q_c1_i, q_c1_r, q_c1_n, Nat.zero_add, Nat.reduceAdd, Nat.reduceMul, Nat.reduceSub, Nat.reduceLeDiff, Nat.reduceLT, Nat.reduceEqDiff, true_and, and_true, not_false_eq_true, if_true, if_false, ite_true, ite_false, or_true, true_or, or_false, false_or, not_true_eq_false, gf38_21, gf38_7, pf38_22, pf38_23, pf38_24, a1']
    generalize q_up (q_up (q_up m1 38 22 (nI (y_tb tp z p))) 38 23 (nI 0)) 38 24 (nI 0) = m2 at f2 e21 e7 e22 e23 e24 ht2 b2' ⊢
    simp only [e21, e7, eqz, h']
    by_cases hl : y_let (tp (y_tb tp z p)) = true
    · simp only [u127_82, u127_83, u127_86, u127_87, u127_90, u127_91, u127_92, u127_93, u127_95, u127_97, u127_100, q_push_s, q_push_n, q_sm_0, q_sm_i, q_sm_r, q_sm_n, q_sm_l, q_c1_0, q_c1_i, q_c1_r, q_c1_n, Nat.zero_add, Nat.reduceAdd, Nat.reduceMul, Nat.reduceSub, Nat.reduceLeDiff, Nat.reduceLT, Nat.reduceEqDiff, true_and, and_true, not_false_eq_true, if_true, if_false, ite_true, ite_false, or_true, true_or, or_false, false_or, not_true_eq_false, gf38_21, gf38_6, e21, ia43 (i := y_tb tp z p) (by omega), b2', c_in, y_letI b1, hl, z_b_z]
      refine l_lets8 d _ (z - y_tb tp z p) (y_tb tp z p) m2 (by omega) ht2 e21 (fun m3 f3 e1 e2 => ?_)
      have f4 := f2.trans f3
      rw [← y_te_l h hl] at e2
      have ht3 := ht.fr f4
      have hw3 : ∀ i, i < 96 → m3 51 i = nI (y_wl i) := fun i hi => by rw [f4.1 51 (by decide)]; exact hw i hi
      have wle := y_wn_le (tp := tp) (y_tb tp z p) (y_te tp z p)
      simp only [u127_146, u127_147, u127_148, u127_151, u127_152, u127_155, q_push_s, q_push_n, q_sm_0, q_sm_i, q_sm_r, q_sm_n, q_sm_l, q_c1_0, q_c1_i, q_c1_r, q_c1_n, Nat.zero_add, Nat.reduceAdd, Nat.reduceMul, Nat.reduceSub, Nat.reduceLeDiff, Nat.reduceLT, Nat.reduceEqDiff, true_and, and_true, not_false_eq_true, if_true, if_false, ite_true, ite_false, or_true, true_or, or_false, false_or, not_true_eq_false, io38, gf38_21, gf38_22, e1, e2, e22]
      refine c_wordFrom t1 g1 g2 ht3.2.2 hw3 ?_
      have hw3' := n_lt (i := y_wn tp (y_tb tp z p) (y_te tp z p)) (j := 3) (by omega) (by decide)
      have hw9' := n_lt (i := y_wn tp (y_tb tp z p) (y_te tp z p)) (j := 9) (by omega) (by decide)
      have hw12' := n_eq (i := y_wn tp (y_tb tp z p) (y_te tp z p)) (j := 12) (by omega) (by decide)
      have fin : ∀ (m' : q_M) (t v : Int32), m' = q_up (q_up m3 38 23 t) 38 24 v → t = y_rt (y_tt tp z p) → (y_tt tp z p = 1 ∨ y_tt tp z p = 2 ∨ y_tt tp z p = 3 → v = nI (y_tv tp z p)) → K none (GG T L) m' := by
        intro m' t v em et ev
        subst em
        refine hK _ ((f4.trans (YG.up _ _ (by decide))).trans (YG.up _ _ (by decide))) ?_ ?_ ?_ (fun h => ?_)
        · rw [q_up_i _ _ (by decide), q_up_i _ _ (by decide)]; exact e2
        · rw [q_up_i _ _ (by decide), q_up_i _ _ (by decide), e1]; exact e22
        · rw [q_up_i _ _ (by decide), q_up_eq]; exact et
        · rw [q_up_eq]; exact ev h
      by_cases w3 : y_wn tp (y_tb tp z p) (y_te tp z p) < 3
      · simp only [u127_158, u127_159, u127_160, u127_161, u127_162, u127_165, u127_166, u127_169, u127_170, u127_172, u127_175, u127_176, u127_179, u127_180, u127_182, u127_185, u127_186, u127_189, u127_190, u127_191, u127_192, u127_194, u127_195, u127_198, u127_199, u127_200, u127_201, u127_204, u127_205, u127_208, u127_209, u127_210, u127_211, u127_214, u127_403, q_push_s, q_push_n, q_sm_0, q_sm_i, q_sm_r, q_sm_n, q_sm_l, q_c1_0, q_c1_i, q_c1_r, q_c1_n, Nat.zero_add, Nat.reduceAdd, Nat.reduceMul, Nat.reduceSub, Nat.reduceLeDiff, Nat.reduceLT, Nat.reduceEqDiff, true_and, and_true, not_false_eq_true, if_true, if_false, ite_true, ite_false, or_true, true_or, or_false, false_or, not_true_eq_false, pf38_23, pf38_24, hw3', w3]
        refine fin _ _ _ rfl ?_ (fun _ => ?_)
        · unfold y_tt; rw [if_pos h, if_pos hl, if_pos w3]; rfl
        · unfold y_tv; rw [if_pos hl, if_pos w3]
      · by_cases w9 : y_wn tp (y_tb tp z p) (y_te tp z p) < 9
        · simp only [u127_158, u127_159, u127_160, u127_161, u127_162, u127_165, u127_166, u127_169, u127_170, u127_172, u127_175, u127_176, u127_179, u127_180, u127_182, u127_185, u127_186, u127_189, u127_190, u127_191, u127_192, u127_194, u127_195, u127_198, u127_199, u127_200, u127_201, u127_204, u127_205, u127_208, u127_209, u127_210, u127_211, u127_214, u127_403, q_push_s, q_push_n, q_sm_0, q_sm_i, q_sm_r, q_sm_n, q_sm_l, q_c1_0, q_c1_i, q_c1_r, q_c1_n, Nat.zero_add, Nat.reduceAdd, Nat.reduceMul, Nat.reduceSub, Nat.reduceLeDiff, Nat.reduceLT, Nat.reduceEqDiff, true_and, and_true, not_false_eq_true, if_true, if_false, ite_true, ite_false, or_true, true_or, or_false, false_or, not_true_eq_false, pf38_23, pf38_24, hw3', w3, hw9', w9, n_sub (Nat.not_lt.mp w3)]
          refine fin _ _ _ rfl ?_ (fun _ => ?_)
          · unfold y_tt; rw [if_pos h, if_pos hl, if_neg w3, if_pos w9]; rfl
          · unfold y_tv; rw [if_pos hl, if_neg w3]
        · by_cases w12 : y_wn tp (y_tb tp z p) (y_te tp z p) = 12
          · have et : y_tt tp z p = 7 := by unfold y_tt; rw [if_pos h, if_pos hl, if_neg w3, if_neg w9, if_pos w12]
            simp only [u127_158, u127_159, u127_160, u127_161, u127_162, u127_165, u127_166, u127_169, u127_170, u127_172, u127_175, u127_176, u127_179, u127_180, u127_182, u127_185, u127_186, u127_189, u127_190, u127_191, u127_192, u127_194, u127_195, u127_198, u127_199, u127_200, u127_201, u127_204, u127_205, u127_208, u127_209, u127_210, u127_211, u127_214, u127_403, q_push_s, q_push_n, q_sm_0, q_sm_i, q_sm_r, q_sm_n, q_sm_l, q_c1_0, q_c1_i, q_c1_r, q_c1_n, Nat.zero_add, Nat.reduceAdd, Nat.reduceMul, Nat.reduceSub, Nat.reduceLeDiff, Nat.reduceLT, Nat.reduceEqDiff, true_and, and_true, not_false_eq_true, if_true, if_false, ite_true, ite_false, or_true, true_or, or_false, false_or, not_true_eq_false, pf38_23, pf38_24, hw3', w3, hw9', w9, hw12', w12]
            refine fin _ _ _ rfl (by rw [et]; rfl) (fun h => ?_)
            omega
          · have et : y_tt tp z p = y_wn tp (y_tb tp z p) (y_te tp z p) - 5 := by unfold y_tt; rw [if_pos h, if_pos hl, if_neg w3, if_neg w9, if_neg w12]
            simp only [u127_158, u127_159, u127_160, u127_161, u127_162, u127_165, u127_166, u127_169, u127_170, u127_172, u127_175, u127_176, u127_179, u127_180, u127_182, u127_185, u127_186, u127_189, u127_190, u127_191, u127_192, u127_194, u127_195, u127_198, u127_199, u127_200, u127_201, u127_204, u127_205, u127_208, u127_209, u127_210, u127_211, u127_214, u127_403, q_push_s, q_push_n, q_sm_0, q_sm_i, q_sm_r, q_sm_n, q_sm_l, q_c1_0, q_c1_i, q_c1_r, q_c1_n, Nat.zero_add, Nat.reduceAdd, Nat.reduceMul, Nat.reduceSub, Nat.reduceLeDiff, Nat.reduceLT, Nat.reduceEqDiff, true_and, and_true, not_false_eq_true, if_true, if_false, ite_true, ite_false, or_true, true_or, or_false, false_or, not_true_eq_false, pf38_23, pf38_24, hw3', w3, hw9', w9, hw12', w12, n_add, n_sub (show 9 ≤ 4 + y_wn tp (y_tb tp z p) (y_te tp z p) by omega)]
            refine fin _ _ _ rfl ?_ (fun h => ?_)
            · rw [et]; unfold y_rt; rw [if_neg (by omega), show 4 + y_wn tp (y_tb tp z p) (y_te tp z p) - 9 = y_wn tp (y_tb tp z p) (y_te tp z p) - 5 by omega]
            · omega
    · by_cases hd : y_dig (tp (y_tb tp z p)) = true
      · have ev0 : y_tv tp z p = y_val tp (y_tb tp z p) (y_te tp z p - y_tb tp z p) := by unfold y_tv; rw [if_neg hl]
        have hr := l_digs8 (K := K) (T := T) (L := L) d (nI (tp (y_tb tp z p))) (b := y_tb tp z p) (z - y_tb tp z p) (y_tb tp z p) m2 (Nat.le_refl _) (by omega) ht2 e21 (fun _ => by rw [Nat.sub_self]; exact e24) (fun m3 f3 e1 e2 e3 => ?_)
        · rw [Nat.sub_self] at hr
          simp only [u127_82, u127_83, u127_86, u127_87, u127_90, u127_91, u127_92, u127_93, u127_95, u127_97, u127_100, u127_217, u127_218, u127_220, u127_222, u127_225, u127_228, u127_229, q_push_s, q_push_n, q_sm_0, q_sm_i, q_sm_r, q_sm_n, q_sm_l, q_c1_0, q_c1_i, q_c1_r, q_c1_n, Nat.zero_add, Nat.reduceAdd, Nat.reduceMul, Nat.reduceSub, Nat.reduceLeDiff, Nat.reduceLT, Nat.reduceEqDiff, true_and, and_true, not_false_eq_true, if_true, if_false, ite_true, ite_false, or_true, true_or, or_false, false_or, not_true_eq_false, gf38_21, gf38_6, e21, ia43 (i := y_tb tp z p) (by omega), b2', c_in, y_letI b1, y_digI b1, hl, hd, z_b_z]
          exact hr
        · have f4 := f2.trans f3
          rw [← y_te_d h hl hd] at e2 e3 ⊢
          have h4 := n_le (i := y_te tp z p - y_tb tp z p) (j := 4) (by omega) (by decide)
          by_cases q : y_te tp z p - y_tb tp z p ≤ 4
          · have et : y_tt tp z p = 1 := by unfold y_tt; rw [if_pos h, if_neg hl, if_pos hd, if_pos q]
            simp only [u127_309, u127_310, u127_311, u127_312, u127_315, u127_316, u127_319, u127_320, u127_323, u127_403, q_push_s, q_push_n, q_sm_0, q_sm_i, q_sm_r, q_sm_n, q_sm_l, q_c1_0, q_c1_i, q_c1_r, q_c1_n, Nat.zero_add, Nat.reduceAdd, Nat.reduceMul, Nat.reduceSub, Nat.reduceLeDiff, Nat.reduceLT, Nat.reduceEqDiff, true_and, and_true, not_false_eq_true, if_true, if_false, ite_true, ite_false, or_true, true_or, or_false, false_or, not_true_eq_false, pf38_23, h4, q]
            refine hK _ (f4.trans (YG.up _ _ (by decide))) ?_ ?_ ?_ (fun _ => ?_)
            · rw [q_up_i _ _ (by decide)]; exact e2
            · rw [q_up_i _ _ (by decide), e1]; exact e22
            · rw [q_up_eq, et]; rfl
            · rw [q_up_i _ _ (by decide), ev0]; exact e3 q
          · have et : y_tt tp z p = 7 := by unfold y_tt; rw [if_pos h, if_neg hl, if_pos hd, if_neg q]
            simp only [u127_309, u127_310, u127_311, u127_312, u127_315, u127_316, u127_319, u127_320, u127_323, u127_403, q_push_s, q_push_n, q_sm_0, q_sm_i, q_sm_r, q_sm_n, q_sm_l, q_c1_0, q_c1_i, q_c1_r, q_c1_n, Nat.zero_add, Nat.reduceAdd, Nat.reduceMul, Nat.reduceSub, Nat.reduceLeDiff, Nat.reduceLT, Nat.reduceEqDiff, true_and, and_true, not_false_eq_true, if_true, if_false, ite_true, ite_false, or_true, true_or, or_false, false_or, not_true_eq_false, pf38_23, h4, q]
            refine hK _ (f4.trans (YG.up _ _ (by decide))) ?_ ?_ ?_ (fun h => ?_)
            · rw [q_up_i _ _ (by decide)]; exact e2
            · rw [q_up_i _ _ (by decide), e1]; exact e22
            · rw [q_up_eq, et]; rfl
            · omega
      · have e1 : y_te tp z p = y_tb tp z p + 1 := y_te_s h hl hd
        have fin : ∀ (m' : q_M) (t : Int32), m' = q_up (q_up m2 38 23 t) 38 21 (nI (y_tb tp z p + 1)) → t = y_rt (y_tt tp z p) → 7 ≤ y_tt tp z p → K none (GG T L) m' := by
          intro m' t em et e7
          subst em
          refine hK _ ((f2.trans (YG.up _ _ (by decide))).trans (YG.up _ _ (by decide))) ?_ ?_ ?_ (fun h => ?_)
          · rw [q_up_eq, e1]
          · rw [q_up_i _ _ (by decide), q_up_i _ _ (by decide)]; exact e22
          · rw [q_up_i _ _ (by decide), q_up_eq]; exact et
          · omega
        have nq : ∀ v, v < 256 → (nI (tp (y_tb tp z p)) = nI v) = (tp (y_tb tp z p) = v) := fun v hv => n_eq (by omega) (by omega)
        have nq40 := nq 40 (by decide)
        have nq41 := nq 41 (by decide)
        have nq59 := nq 59 (by decide)
        have nq43 := nq 43 (by decide)
        have nq45 := nq 45 (by decide)
        have nq42 := nq 42 (by decide)
        have nq60 := nq 60 (by decide)
        have nq61 := nq 61 (by decide)
        have es : q_up m2 38 23 (nI (tp (y_tb tp z p))) 38 21 = nI (y_tb tp z p) := by rw [q_up_i _ _ (by decide)]; exact e21
        have es' : q_up m2 38 23 (-1) 38 21 = nI (y_tb tp z p) := by rw [q_up_i _ _ (by decide)]; exact e21
        rcases y_sigI b1 with q | ⟨q, q1, q2, q3, q4, q5, q6, q7, q8⟩
        · have q' := of_decide_eq_true q
          have et : y_tt tp z p = tp (y_tb tp z p) := by unfold y_tt; rw [if_pos h, if_neg hl, if_neg hd, if_pos q]
          have go : q_R 127 374 (d + 1) [some (.ref 38), some (.int (nI (tp (y_tb tp z p)))), none] [] (GG T L) m2 K := by
            simp only [u127_374, u127_375, u127_378, u127_379, u127_380, u127_381, u127_382, u127_385, u127_386, u127_389, u127_390, u127_393, u127_394, u127_394r, u127_395, u127_398, u127_399, u127_400, u127_403, q_push_s, q_push_n, q_sm_0, q_sm_i, q_sm_r, q_sm_n, q_sm_l, q_c1_0, q_c1_i, q_c1_r, q_c1_n, Nat.zero_add, Nat.reduceAdd, Nat.reduceMul, Nat.reduceSub, Nat.reduceLeDiff, Nat.reduceLT, Nat.reduceEqDiff, true_and, and_true, not_false_eq_true, if_true, if_false, ite_true, ite_false, or_true, true_or, or_false, false_or, not_true_eq_false, eq_self, lq_0_1, lq_0_2, lq_0_3, lq_0_4, lq_0_5, lq_0_6, lq_1_0, lq_1_2, lq_1_3, lq_1_4, lq_1_5, lq_1_6, lq_2_0, lq_2_1, lq_2_3, lq_2_4, lq_2_5, lq_2_6, lq_3_0, lq_3_1, lq_3_2, lq_3_4, lq_3_5, lq_3_6, lq_4_0, lq_4_1, lq_4_2, lq_4_3, lq_4_5, lq_4_6, lq_5_0, lq_5_1, lq_5_2, lq_5_3, lq_5_4, lq_5_6, lq_6_0, lq_6_1, lq_6_2, lq_6_3, lq_6_4, lq_6_5, ll_0_0, ll_0_1, ll_0_2, ll_0_3, ll_0_4, ll_0_5, ll_0_6, ll_1_0, ll_1_1, ll_1_2, ll_1_3, ll_1_4, ll_1_5, ll_1_6, ll_2_0, ll_2_1, ll_2_2, ll_2_3, ll_2_4, ll_2_5, ll_2_6, ll_3_0, ll_3_1, ll_3_2, ll_3_3, ll_3_4, ll_3_5, ll_3_6, ll_4_0, ll_4_1, ll_4_2, ll_4_3, ll_4_4, ll_4_5, ll_4_6, ll_5_0, ll_5_1, ll_5_2, ll_5_3, ll_5_4, ll_5_5, ll_5_6, ll_6_0, ll_6_1, ll_6_2, ll_6_3, ll_6_4, ll_6_5, ll_6_6, le_0_0, le_0_1, le_0_2, le_0_3, le_0_4, le_0_5, le_0_6, le_1_0, le_1_1, le_1_2, le_1_3, le_1_4, le_1_5, le_1_6, le_2_0, le_2_1, le_2_2, le_2_3, le_2_4, le_2_5, le_2_6, le_3_0, le_3_1, le_3_2, le_3_3, le_3_4, le_3_5, le_3_6, le_4_0, le_4_1, le_4_2, le_4_3, le_4_4, le_4_5, le_4_6, le_5_0, le_5_1, le_5_2, le_5_3, le_5_4, le_5_5, le_5_6, le_6_0, le_6_1, le_6_2, le_6_3, le_6_4, le_6_5, le_6_6, pf38_23, gf38_21, pf38_21, es, n_add]
            exact fin _ _ rfl (by rw [et]; unfold y_rt; rw [if_neg (by omega)]) (by rw [et]; omega)
          simp only [u127_82, u127_83, u127_86, u127_87, u127_90, u127_91, u127_92, u127_93, u127_95, u127_97, u127_100, u127_217, u127_218, u127_220, u127_222, u127_225, q_push_s, q_push_n, q_sm_0, q_sm_i, q_sm_r, q_sm_n, q_sm_l, q_c1_0, q_c1_i, q_c1_r, q_c1_n, Nat.zero_add, Nat.reduceAdd, Nat.reduceMul, Nat.reduceSub, Nat.reduceLeDiff, Nat.reduceLT, Nat.reduceEqDiff, true_and, and_true, not_false_eq_true, if_true, if_false, ite_true, ite_false, or_true, true_or, or_false, false_or, not_true_eq_false, gf38_21, gf38_6, e21, ia43 (i := y_tb tp z p) (by omega), b2', c_in, y_letI b1, y_digI b1, hl, hd, z_b_z]
          by_cases r1 : tp (y_tb tp z p) = 40
          · simp only [u127_326, u127_327, u127_329, u127_332, u127_333, u127_335, u127_338, u127_339, u127_341, u127_344, u127_345, u127_347, u127_350, u127_351, u127_353, u127_356, u127_357, u127_359, u127_362, u127_363, u127_365, u127_368, u127_369, u127_371, q_push_s, q_push_n, q_sm_0, q_sm_i, q_sm_r, q_sm_n, q_sm_l, q_c1_0, q_c1_i, q_c1_r, q_c1_n, Nat.zero_add, Nat.reduceAdd, Nat.reduceMul, Nat.reduceSub, Nat.reduceLeDiff, Nat.reduceLT, Nat.reduceEqDiff, true_and, and_true, not_false_eq_true, if_true, if_false, ite_true, ite_false, or_true, true_or, or_false, false_or, not_true_eq_false, nq40, r1]; rw [r1] at go; exact go
          by_cases r2 : tp (y_tb tp z p) = 41
          · simp only [u127_326, u127_327, u127_329, u127_332, u127_333, u127_335, u127_338, u127_339, u127_341, u127_344, u127_345, u127_347, u127_350, u127_351, u127_353, u127_356, u127_357, u127_359, u127_362, u127_363, u127_365, u127_368, u127_369, u127_371, q_push_s, q_push_n, q_sm_0, q_sm_i, q_sm_r, q_sm_n, q_sm_l, q_c1_0, q_c1_i, q_c1_r, q_c1_n, Nat.zero_add, Nat.reduceAdd, Nat.reduceMul, Nat.reduceSub, Nat.reduceLeDiff, Nat.reduceLT, Nat.reduceEqDiff, true_and, and_true, not_false_eq_true, if_true, if_false, ite_true, ite_false, or_true, true_or, or_false, false_or, not_true_eq_false, nq40, nq41, r1, r2]; rw [r2] at go; exact go
          by_cases r3 : tp (y_tb tp z p) = 59
          · simp only [u127_326, u127_327, u127_329, u127_332, u127_333, u127_335, u127_338, u127_339, u127_341, u127_344, u127_345, u127_347, u127_350, u127_351, u127_353, u127_356, u127_357, u127_359, u127_362, u127_363, u127_365, u127_368, u127_369, u127_371, q_push_s, q_push_n, q_sm_0, q_sm_i, q_sm_r, q_sm_n, q_sm_l, q_c1_0, q_c1_i, q_c1_r, q_c1_n, Nat.zero_add, Nat.reduceAdd, Nat.reduceMul, Nat.reduceSub, Nat.reduceLeDiff, Nat.reduceLT, Nat.reduceEqDiff, true_and, and_true, not_false_eq_true, if_true, if_false, ite_true, ite_false, or_true, true_or, or_false, false_or, not_true_eq_false, nq40, nq41, nq59, r1, r2, r3]; rw [r3] at go; exact go
          by_cases r4 : tp (y_tb tp z p) = 43
          · simp only [u127_326, u127_327, u127_329, u127_332, u127_333, u127_335, u127_338, u127_339, u127_341, u127_344, u127_345, u127_347, u127_350, u127_351, u127_353, u127_356, u127_357, u127_359, u127_362, u127_363, u127_365, u127_368, u127_369, u127_371, q_push_s, q_push_n, q_sm_0, q_sm_i, q_sm_r, q_sm_n, q_sm_l, q_c1_0, q_c1_i, q_c1_r, q_c1_n, Nat.zero_add, Nat.reduceAdd, Nat.reduceMul, Nat.reduceSub, Nat.reduceLeDiff, Nat.reduceLT, Nat.reduceEqDiff, true_and, and_true, not_false_eq_true, if_true, if_false, ite_true, ite_false, or_true, true_or, or_false, false_or, not_true_eq_false, nq40, nq41, nq59, nq43, r1, r2, r3, r4]; rw [r4] at go; exact go
          by_cases r5 : tp (y_tb tp z p) = 45
          · simp only [u127_326, u127_327, u127_329, u127_332, u127_333, u127_335, u127_338, u127_339, u127_341, u127_344, u127_345, u127_347, u127_350, u127_351, u127_353, u127_356, u127_357, u127_359, u127_362, u127_363, u127_365, u127_368, u127_369, u127_371, q_push_s, q_push_n, q_sm_0, q_sm_i, q_sm_r, q_sm_n, q_sm_l, q_c1_0, q_c1_i, q_c1_r, q_c1_n, Nat.zero_add, Nat.reduceAdd, Nat.reduceMul, Nat.reduceSub, Nat.reduceLeDiff, Nat.reduceLT, Nat.reduceEqDiff, true_and, and_true, not_false_eq_true, if_true, if_false, ite_true, ite_false, or_true, true_or, or_false, false_or, not_true_eq_false, nq40, nq41, nq59, nq43, nq45, r1, r2, r3, r4, r5]; rw [r5] at go; exact go
          by_cases r6 : tp (y_tb tp z p) = 42
          · simp only [u127_326, u127_327, u127_329, u127_332, u127_333, u127_335, u127_338, u127_339, u127_341, u127_344, u127_345, u127_347, u127_350, u127_351, u127_353, u127_356, u127_357, u127_359, u127_362, u127_363, u127_365, u127_368, u127_369, u127_371, q_push_s, q_push_n, q_sm_0, q_sm_i, q_sm_r, q_sm_n, q_sm_l, q_c1_0, q_c1_i, q_c1_r, q_c1_n, Nat.zero_add, Nat.reduceAdd, Nat.reduceMul, Nat.reduceSub, Nat.reduceLeDiff, Nat.reduceLT, Nat.reduceEqDiff, true_and, and_true, not_false_eq_true, if_true, if_false, ite_true, ite_false, or_true, true_or, or_false, false_or, not_true_eq_false, nq40, nq41, nq59, nq43, nq45, nq42, r1, r2, r3, r4, r5, r6]; rw [r6] at go; exact go
          by_cases r7 : tp (y_tb tp z p) = 60
          · simp only [u127_326, u127_327, u127_329, u127_332, u127_333, u127_335, u127_338, u127_339, u127_341, u127_344, u127_345, u127_347, u127_350, u127_351, u127_353, u127_356, u127_357, u127_359, u127_362, u127_363, u127_365, u127_368, u127_369, u127_371, q_push_s, q_push_n, q_sm_0, q_sm_i, q_sm_r, q_sm_n, q_sm_l, q_c1_0, q_c1_i, q_c1_r, q_c1_n, Nat.zero_add, Nat.reduceAdd, Nat.reduceMul, Nat.reduceSub, Nat.reduceLeDiff, Nat.reduceLT, Nat.reduceEqDiff, true_and, and_true, not_false_eq_true, if_true, if_false, ite_true, ite_false, or_true, true_or, or_false, false_or, not_true_eq_false, nq40, nq41, nq59, nq43, nq45, nq42, nq60, r1, r2, r3, r4, r5, r6, r7]; rw [r7] at go; exact go
          have r8 : tp (y_tb tp z p) = 61 := by omega
          simp only [u127_326, u127_327, u127_329, u127_332, u127_333, u127_335, u127_338, u127_339, u127_341, u127_344, u127_345, u127_347, u127_350, u127_351, u127_353, u127_356, u127_357, u127_359, u127_362, u127_363, u127_365, u127_368, u127_369, u127_371, q_push_s, q_push_n, q_sm_0, q_sm_i, q_sm_r, q_sm_n, q_sm_l, q_c1_0, q_c1_i, q_c1_r, q_c1_n, Nat.zero_add, Nat.reduceAdd, Nat.reduceMul, Nat.reduceSub, Nat.reduceLeDiff, Nat.reduceLT, Nat.reduceEqDiff, true_and, and_true, not_false_eq_true, if_true, if_false, ite_true, ite_false, or_true, true_or, or_false, false_or, not_true_eq_false, nq40, nq41, nq59, nq43, nq45, nq42, nq60, nq61, r1, r2, r3, r4, r5, r6, r7, r8]; rw [r8] at go; exact go
        · have et : y_tt tp z p = 7 := by unfold y_tt; rw [if_pos h, if_neg hl, if_neg hd, q]; rfl
          simp only [u127_82, u127_83, u127_86, u127_87, u127_90, u127_91, u127_92, u127_93, u127_95, u127_97, u127_100, u127_217, u127_218, u127_220, u127_222, u127_225, u127_326, u127_327, u127_329, u127_332, u127_333, u127_335, u127_338, u127_339, u127_341, u127_344, u127_345, u127_347, u127_350, u127_351, u127_353, u127_356, u127_357, u127_359, u127_362, u127_363, u127_365, u127_368, u127_369, u127_371, u127_374, u127_375, u127_378, u127_379, u127_380, u127_381, u127_382, u127_385, u127_386, u127_389, u127_390, u127_393, u127_394, u127_394r, u127_395, u127_398, u127_399, u127_400, u127_403, q_push_s, q_push_n, q_sm_0, q_sm_i, q_sm_r, q_sm_n, q_sm_l, q_c1_0, q_c1_i, q_c1_r, q_c1_n, Nat.zero_add, Nat.reduceAdd, Nat.reduceMul, Nat.reduceSub, Nat.reduceLeDiff, Nat.reduceLT, Nat.reduceEqDiff, true_and, and_true, not_false_eq_true, if_true, if_false, ite_true, ite_false, or_true, true_or, or_false, false_or, not_true_eq_false, eq_self, lq_0_1, lq_0_2, lq_0_3, lq_0_4, lq_0_5, lq_0_6, lq_1_0, lq_1_2, lq_1_3, lq_1_4, lq_1_5, lq_1_6, lq_2_0, lq_2_1, lq_2_3, lq_2_4, lq_2_5, lq_2_6, lq_3_0, lq_3_1, lq_3_2, lq_3_4, lq_3_5, lq_3_6, lq_4_0, lq_4_1, lq_4_2, lq_4_3, lq_4_5, lq_4_6, lq_5_0, lq_5_1, lq_5_2, lq_5_3, lq_5_4, lq_5_6, lq_6_0, lq_6_1, lq_6_2, lq_6_3, lq_6_4, lq_6_5, ll_0_0, ll_0_1, ll_0_2, ll_0_3, ll_0_4, ll_0_5, ll_0_6, ll_1_0, ll_1_1, ll_1_2, ll_1_3, ll_1_4, ll_1_5, ll_1_6, ll_2_0, ll_2_1, ll_2_2, ll_2_3, ll_2_4, ll_2_5, ll_2_6, ll_3_0, ll_3_1, ll_3_2, ll_3_3, ll_3_4, ll_3_5, ll_3_6, ll_4_0, ll_4_1, ll_4_2, ll_4_3, ll_4_4, ll_4_5, ll_4_6, ll_5_0, ll_5_1, ll_5_2, ll_5_3, ll_5_4, ll_5_5, ll_5_6, ll_6_0, ll_6_1, ll_6_2, ll_6_3, ll_6_4, ll_6_5, ll_6_6, le_0_0, le_0_1, le_0_2, le_0_3, le_0_4, le_0_5, le_0_6, le_1_0, le_1_1, le_1_2, le_1_3, le_1_4, le_1_5, le_1_6, le_2_0, le_2_1, le_2_2, le_2_3, le_2_4, le_2_5, le_2_6, le_3_0, le_3_1, le_3_2, le_3_3, le_3_4, le_3_5, le_3_6, le_4_0, le_4_1, le_4_2, le_4_3, le_4_4, le_4_5, le_4_6, le_5_0, le_5_1, le_5_2, le_5_3, le_5_4, le_5_5, le_5_6, le_6_0, le_6_1, le_6_2, le_6_3, le_6_4, le_6_5, le_6_6, gf38_21, pf38_21, gf38_6, pf38_23, e21, es', ia43 (i := y_tb tp z p) (by omega), b2', c_in, y_letI b1, y_digI b1, hl, hd, z_b_z, nq40, nq41, nq59, nq43, nq45, nq42, nq60, nq61, q1, q2, q3, q4, q5, q6, q7, q8, n_add]
          exact fin _ _ rfl (by rw [et]; rfl) (by omega)
  · have h' : y_tb tp z p = z := by omega
    have et : y_tt tp z p = 0 := by unfold y_tt; rw [if_neg h]
    have e := y_te_0 h
    simp only [u127_52, u127_53, u127_54, u127_57, u127_60, u127_61, u127_62, u127_65, u127_66, u127_67, u127_70, u127_71, u127_74, u127_75, u127_78, u127_81, q_push_s, q_push_n, q_sm_0, q_sm_i, q_sm_r, q_sm_n, q_sm_l, q_c1_0, q_c1_i, q_c1_r, q_c1_n, Nat.zero_add, Nat.reduceAdd, Nat.reduceMul, Nat.reduceSub, Nat.reduceLeDiff, Nat.reduceLT, Nat.reduceEqDiff, true_and, and_true, not_false_eq_true, if_true, if_false, ite_true, ite_false, or_true, true_or, or_false, false_or, not_true_eq_false, gf38_21, gf38_7, pf38_22, pf38_23, pf38_24, a1', e21, e7, eqz, h']
    rw [h'] at f2 e21 e22 e23 e7
    rw [if_pos (e21.trans e7.symm)]
    refine hK _ f2 (by rw [e]; exact e21) (by rw [h']; exact e22) (by rw [et]; exact e23) (fun h => ?_)
    omega
end
