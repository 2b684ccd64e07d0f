/-! ===== what a text asks, the reference's ===== -/
def z_m99 (x : Int32) : Int32 := if x ≤ nI 99 then x else nI 99
def z_nm (s : ZS) (g o j : Nat) (c : Nat) : Int32 := match c with
  | 0 => nI (s.2.1 1 g)
  | 1 => nI (z_ap (s.2.1 2 g) (s.2.1 2 o))
  | 2 => nI j
  | 3 => nI (s.1 1)
  | 4 => z_m99 (s.2.2 (6 * g + o))
  | 5 => nI (s.2.1 4 g)
  | _ => 0
def z_clip (v : Int32) (k : Nat) : Nat := if v < nI 0 then 0 else if v ≤ nI k then v.toInt.toNat else k
theorem z_clip_le (v : Int32) {k : Nat} (h : k < 2 ^ 31) : z_clip v k ≤ k := by
  unfold z_clip
  by_cases h1 : v < nI 0
  · rw [if_pos h1]; omega
  · rw [if_neg h1]
    by_cases h2 : v ≤ nI k
    · rw [if_pos h2]
      rw [Int32.le_iff_toInt_le, nI_toInt h] at h2
      omega
    · rw [if_neg h2]; exact Nat.le_refl k
theorem z_clip_v {v : Int32} (h1 : ¬ v < nI 0) : nI v.toInt.toNat = v := by
  have h2 : v.toInt < 2 ^ 31 := Int32.toInt_lt v
  rw [Int32.lt_iff_toInt_lt, nI_toInt (by decide)] at h1
  rw [← Int32.toInt_inj, nI_toInt (by omega)]
  omega
theorem z_win_n (v : Int32) (k : Nat) : z_win v (nI 0) (nI k) = nI (z_clip v k) := by
  unfold z_win z_clip
  by_cases h1 : v < nI 0
  · rw [if_pos h1, if_pos h1]
  · rw [if_neg h1, if_neg h1]
    by_cases h2 : v ≤ nI k
    · rw [if_pos h2, if_pos h2, z_clip_v h1]
    · rw [if_neg h2, if_neg h2]
theorem z_bnd_n (v : Int32) {k : Nat} (hk : k < 2 ^ 31) : q_bnd v (nI k) = nI (z_clip v k) := by
  unfold q_bnd q_max q_min z_clip
  by_cases h1 : v < nI 0
  · have h2 : v < nI k := by
      rw [Int32.lt_iff_toInt_lt, nI_toInt (by decide)] at h1
      rw [Int32.lt_iff_toInt_lt, nI_toInt hk]
      omega
    have h3 : ¬ nI 0 < v := by
      rw [Int32.lt_iff_toInt_lt, nI_toInt (by decide)] at h1 ⊢
      omega
    simp only [h1, h2, h3, if_true, if_false]
  · rw [if_neg h1]
    by_cases h2 : v < nI k
    · have h3 : v ≤ nI k := by
        rw [Int32.lt_iff_toInt_lt] at h2
        rw [Int32.le_iff_toInt_le]
        omega
      simp only [h2, h3, if_true]
      rw [z_clip_v h1]
      by_cases h4 : nI 0 < v
      · rw [if_pos h4]
      · rw [if_neg h4]
        rw [Int32.lt_iff_toInt_lt, nI_toInt (by decide)] at h1 h4
        rw [← Int32.toInt_inj, nI_toInt (by decide)]
        omega
    · simp only [h2, if_false]
      have h4 : (if v ≤ nI k then v.toInt.toNat else k) = k := by
        by_cases h3 : v ≤ nI k
        · rw [if_pos h3]
          rw [Int32.lt_iff_toInt_lt, nI_toInt hk] at h2
          rw [Int32.le_iff_toInt_le, nI_toInt hk] at h3
          omega
        · rw [if_neg h3]
      rw [h4]
      by_cases h5 : nI 0 < nI k
      · rw [if_pos h5]
      · rw [if_neg h5]
        rw [Int32.lt_iff_toInt_lt, nI_toInt (by decide), nI_toInt hk] at h5
        have : k = 0 := by omega
        rw [this]
def z_top (p : Nat) : Nat := if p = 0 then 100 else 99
/-- what part p of the law asks of g as o on j -/
def z_ask (tx : Nat → Nat → List Nat) (s : ZS) (p g o j : Nat) : Nat := z_clip (z_ev (z_nm s g o j) (tx (s.1 2) p) (fun _ => 0) 0 0) (z_top p)
theorem z_ask_le (tx : Nat → Nat → List Nat) (s : ZS) (p g o j : Nat) : z_ask tx s p g o j ≤ 100 := by
  have h : z_top p ≤ 100 := by unfold z_top; split <;> omega
  exact Nat.le_trans (z_clip_le _ (by omega)) h
theorem q_up_f (m : q_M) {k k' : Nat} (i : Nat) (x : Int32) (h : k' ≠ k) : q_up m k i x k' = m k' := by
  funext i'
  exact q_up_k m i x h i'
/-- both: the state's bounds, sound texts, the law one of them -/
def IW (s : ZS) (tx : Nat → Nat → List Nat) (n : Nat) : Prop := BZ s ∧ TXW tx n ∧ s.1 2 < n ∧ n ≤ 6
section
variable {T : List Nat} {L d : Nat} {m : q_M} {K : Option Value → q_G → q_M → Prop}
theorem c_asksOf8 {tx : Nat → Nat → List Nat} {n p gu o j : Nat} {s : ZS} (hI : IMo s m) (hx : TXM tx n m) (hW : IW s tx n) (hp : p < 3) (hg : gu < s.1 0) (ho : o < s.1 0)
    (hK : ∀ m', (∀ k, k ≠ 53 → k ≠ 54 → m' k = m k) → K (some (.int (nI (z_ask tx s p gu o j)))) (GG T L) m') :
    q_C 141 (d + 2) [.ref 38, .int (nI p), .int (nI gu), .int (nI o), .int (nI j)] (GG T L) m K := by
  obtain ⟨hB, hw, hr, hn6⟩ := hW
  have h6 := hB.1
  have hb1 := hB.2.2.2 gu hg
  have hb2 := hB.2.2.2 o ho
  have hap : ∀ (d : Nat) (m' : q_M) (K : Option Value → q_G → q_M → Prop), m' 41 = m 41 → (q_C 140 (d + 1) [.ref 38, .int (nI gu), .int (nI o)] (GG T L) m' K ↔ K (some (.int (nI (z_ap (s.2.1 2 gu) (s.2.1 2 o))))) (GG T L) m') :=
    fun d m' K e => c_apartOf (by omega) (by omega) (by rw [e]; exact hI.ma gu hg) (by rw [e]; exact hI.ma o ho) hb1.2.2.1 hb2.2.2.1
  have f0 : (nI 0).toNatClampNeg = 0 := n_cl (by decide)
  have f1 : (nI 1).toNatClampNeg = 1 := n_cl (by decide)
  have f2 : (nI 2).toNatClampNeg = 2 := n_cl (by decide)
  have f3 : (nI 3).toNatClampNeg = 3 := n_cl (by decide)
  have f4 : (nI 4).toNatClampNeg = 4 := n_cl (by decide)
  have f5 : (nI 5).toNatClampNeg = 5 := n_cl (by decide)
  have hfin : ∀ m1 : q_M, (∀ k, k ≠ 53 → k ≠ 54 → m1 k = m k) → (∀ c, c < 6 → m1 54 c = z_nm s gu o j c) → q_R 141 96 (d + 2) [some (.ref 38), some (.int (nI p)), some (.int (nI gu)), some (.int (nI o)), some (.int (nI j))] [] (GG T L) m1 K := by
    intro m1 e1 e2
    simp only [u141_96, u141_97, u141_98, q_push_s, q_push_n, q_sm_0, q_sm_i, q_sm_r, q_sm_n, q_sm_l, q_c1_0, q_c1_i, q_c1_r, q_c1_n, Nat.zero_add, Nat.reduceAdd, Nat.reduceMul, Nat.reduceSub, Nat.reduceLeDiff, Nat.reduceLT, Nat.reduceEqDiff, true_and, and_true, not_false_eq_true, if_true, if_false, ite_true, ite_false, or_true, true_or, or_false, false_or, not_true_eq_false, io38, Nat.zero_le]
    refine c_says8 (nm := z_nm s gu o j) (r := s.1 2) (fun t ht => ?_) hw hr hn6 hp (by rw [e1 38 (by decide) (by decide)]; exact hI.lw) e2 (fun m' e3 => ?_)
    · rw [e1 44 (by decide) (by decide), e1 45 (by decide) (by decide)]; exact hx t ht
    · have hq := hK m' (fun k h3 h4 => (e3 k h3).trans (e1 k h3 h4))
      unfold z_ask z_top at hq
      by_cases h : p = 0
      · subst h
        simp only [u141_101, u141_102, u141_103, u141_106, u141_108, u141_111, u141_113, u141_116, q_push_s, q_push_n, q_sm_0, q_sm_i, q_sm_r, q_sm_n, q_sm_l, q_c1_0, q_c1_i, q_c1_r, q_c1_n, Nat.zero_add, Nat.reduceAdd, Nat.reduceMul, Nat.reduceSub, Nat.reduceLeDiff, Nat.reduceLT, Nat.reduceEqDiff, true_and, and_true, not_false_eq_true, if_true, if_false, ite_true, ite_false, or_true, true_or, or_false, false_or, not_true_eq_false, c_within, z_win_n, Nat.zero_le]
        rw [if_pos rfl] at hq
        exact hq
      · have h' : (nI p = nI 0) = False := eq_false (fun e => h ((nI_eq (by omega) (by decide)).mp e))
        simp only [u141_101, u141_102, u141_103, u141_106, u141_108, u141_111, u141_113, u141_116, q_push_s, q_push_n, q_sm_0, q_sm_i, q_sm_r, q_sm_n, q_sm_l, q_c1_0, q_c1_i, q_c1_r, q_c1_n, Nat.zero_add, Nat.reduceAdd, Nat.reduceMul, Nat.reduceSub, Nat.reduceLeDiff, Nat.reduceLT, Nat.reduceEqDiff, true_and, and_true, not_false_eq_true, if_true, if_false, ite_true, ite_false, or_true, true_or, or_false, false_or, not_true_eq_false, c_within, z_win_n, Nat.zero_le, h']
        rw [if_neg h] at hq
        exact hq
  simp only [u141_0, u141_1, u141_4, u141_5, u141_6, u141_9, u141_10, u141_11, u141_12, u141_13, u141_16, u141_17, u141_18, u141_19, u141_20, u141_23, u141_24, u141_25, u141_28, u141_29, u141_31, u141_32, u141_33, u141_36, u141_37, u141_38, u141_41, u141_42, u141_43, u141_46, u141_47, u141_48, u141_51, u141_53, u141_54, u141_55, u141_56, u141_57, u141_58, u141_60, u141_63, u141_65, u141_68, u141_69, u141_72, u141_74, u141_75, u141_76, u141_77, u141_78, u141_79, u141_80, u141_81, u141_84, u141_85, u141_86, u141_89, u141_90, u141_91, u141_92, u141_93, u141_94, u141_95, e141, q_push_s, q_push_n, q_sm_0, q_sm_i, q_sm_r, q_sm_n, q_sm_l, q_c1_0, q_c1_i, q_c1_r, q_c1_n, Nat.zero_add, Nat.reduceAdd, Nat.reduceMul, Nat.reduceSub, Nat.reduceLeDiff, Nat.reduceLT, Nat.reduceEqDiff, true_and, and_true, not_false_eq_true, if_true, if_false, ite_true, ite_false, or_true, true_or, or_false, false_or, not_true_eq_false, gf38_31, gf38_2, gf38_5, gf38_4, gf38_3, io38, n_mul, n_add, ia40 (i := gu) (by omega), ia42 (i := 6 * gu + o) (by omega), ia41 (i := 3 * gu + 2) (by omega), is54 (i := 0) (by decide), is54 (i := 1) (by decide), is54 (i := 2) (by decide), is54 (i := 3) (by decide), is54 (i := 4) (by decide), is54 (i := 5) (by decide), f0, f1, f2, f3, f4, f5, hap, q_up_f, ne_eq, hI.mo gu hg, hI.nt, hI.of (6 * gu + o) (by omega), hI.pu gu hg, Nat.zero_le]
  by_cases h : s.2.2 (6 * gu + o) ≤ nI 99
  · rw [if_pos h]
    refine hfin _ (fun k h1 h2 => by simp only [q_up_f, ne_eq, h2, not_false_eq_true]) (fun c hc => ?_)
    have hc' : c = 0 ∨ c = 1 ∨ c = 2 ∨ c = 3 ∨ c = 4 ∨ c = 5 := by omega
    rcases hc' with rfl | rfl | rfl | rfl | rfl | rfl <;> simp [q_up, z_nm, z_m99, h]
  · rw [if_neg h]
    refine hfin _ (fun k h1 h2 => by simp only [q_up_f, ne_eq, h2, not_false_eq_true]) (fun c hc => ?_)
    have hc' : c = 0 ∨ c = 1 ∨ c = 2 ∨ c = 3 ∨ c = 4 ∨ c = 5 := by omega
    rcases hc' with rfl | rfl | rfl | rfl | rfl | rfl <;> simp [q_up, z_nm, z_m99, h]
end
