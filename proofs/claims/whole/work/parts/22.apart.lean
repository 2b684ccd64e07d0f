/-! ===== how far two guests are apart ===== -/
def z_us (x : Int32) (k : Nat) : Int32 := (x.toUInt32 >>> ((nI k).toUInt32 &&& Int32.toUInt32 31)).toInt32
def z_bc1 (x : Int32) : Int32 := x - (z_us x 1 &&& nI 1431655765)
def z_bc2 (x : Int32) : Int32 := (x &&& nI 858993459) + (z_us x 2 &&& nI 858993459)
def z_bc3 (x : Int32) : Int32 := (x + z_us x 4) &&& nI 252645135
def z_bc4 (x : Int32) : Int32 := x + z_us x 8
def z_bc5 (x : Int32) : Int32 := (x + z_us x 16) &&& nI 63
def z_bc (x : Int32) : Int32 := z_bc5 (z_bc4 (z_bc3 (z_bc2 (z_bc1 x))))
def z_pop (v : Nat) : Nat := v % 2 + v / 2 % 2 + v / 4 % 2 + v / 8 % 2 + v / 16 % 2 + v / 32 % 2 + v / 64 % 2 + v / 128 % 2
theorem z_bc_n : ∀ v, v < 256 → z_bc (nI v) = nI (z_pop v) := by decide +kernel
section
variable {T : List Nat} {L d : Nat} {m : q_M} {g : q_G} {K : Option Value → q_G → q_M → Prop}
theorem c_bitCount (x : Int32) : q_C 201 d [.int x] g m K ↔ K (some (.int (z_bc x))) g m := by
  simp only [e201, u201_0, u201_1, u201_2, u201_3, u201_4, u201_7, u201_8, u201_9, u201_10, u201_11, u201_14, u201_15, u201_16, u201_17, u201_18, u201_21, u201_22, u201_23, u201_24, u201_25, u201_26, u201_27, u201_28, u201_29, u201_32, u201_33, u201_34, u201_35, u201_36, u201_38, u201_39, u201_40, u201_41, u201_42, u201_43, u201_45, u201_46, u201_47, u201_48, u201_49, u201_51, u201_52, q_push_s, q_push_n, q_sm_0, q_sm_i, q_sm_r, q_sm_n, q_sm_l, q_c1_0, q_c1_i, q_c1_r, q_c1_n, Nat.zero_add, Nat.reduceAdd, Nat.reduceMul, Nat.reduceSub, Nat.reduceLeDiff, Nat.reduceLT, Nat.reduceEqDiff, true_and, and_true, not_false_eq_true, if_true, if_false, ite_true, ite_false, or_true, true_or, or_false, false_or, not_true_eq_false]
  exact Iff.rfl
theorem c_bits {v : Nat} (h : v < 256) : q_C 201 d [.int (nI v)] g m K ↔ K (some (.int (nI (z_pop v)))) g m := by
  rw [c_bitCount, z_bc_n v h]
def z_ap1 (v w j : Nat) : Nat := if z_an v j = z_an w j then 0 else 1
def z_ap (v w : Nat) : Nat := z_ap1 v w 0 + z_ap1 v w 1 + z_ap1 v w 2 + z_ap1 v w 3
theorem z_ap1_le (v w j : Nat) : z_ap1 v w j ≤ 1 := by unfold z_ap1; split <;> omega
theorem z_ap_le (v w : Nat) : z_ap v w ≤ 4 := by
  have h0 := z_ap1_le v w 0
  have h1 := z_ap1_le v w 1
  have h2 := z_ap1_le v w 2
  have h3 := z_ap1_le v w 3
  unfold z_ap
  omega
theorem l_apartOf {a b v w c j : Nat} (ha : a < 6) (hb : b < 6) (hv : m 41 (3 * a) = nI v) (hw : m 41 (3 * b) = nI w) (hv2 : v < 256) (hw2 : w < 256) (hj : j < 4) :
    q_R 140 5 (d + 1) [some (.ref 38), some (.int (nI a)), some (.int (nI b)), some (.int (nI c)), some (.int (nI j))] [] (GG T L) m K ↔
    q_R 140 5 (d + 1) [some (.ref 38), some (.int (nI a)), some (.int (nI b)), some (.int (nI (c + z_ap1 v w j))), some (.int (nI (j + 1)))] [] (GG T L) m K := by
  have h1 := z_an_lt v j
  have h2 := z_an_lt w j
  have h3 : (nI j < nI 4) = True := eq_true (nI_lt hj (by decide))
  rw [u140_5]
  simp only [e140, u140_0, u140_1, u140_2, u140_3, u140_7, u140_8, u140_11, u140_12, u140_13, u140_16, u140_17, u140_18, u140_19, u140_20, u140_22, u140_25, u140_26, u140_29, u140_30, u140_31, u140_32, u140_33, u140_35, u140_38, u140_41, u140_42, u140_45, u140_46, u140_47, u140_48, u140_51, u140_54, u140_55, q_push_s, q_push_n, q_sm_0, q_sm_i, q_sm_r, q_sm_n, q_sm_l, q_c1_0, q_c1_i, q_c1_r, q_c1_n, Nat.zero_add, Nat.reduceAdd, Nat.reduceMul, Nat.reduceSub, Nat.reduceLeDiff, Nat.reduceLT, Nat.reduceEqDiff, true_and, and_true, not_false_eq_true, if_true, if_false, ite_true, ite_false, or_true, true_or, or_false, false_or, not_true_eq_false, h3, gf38_3, n_mul, ia41 (i := 3 * a) (by omega), ia41 (i := 3 * b) (by omega), hv, hw, c_answer hv2 hj, c_answer hw2 hj, Nat.zero_le, n_eq (i := z_an v j) (j := z_an w j) (by omega) (by omega), n_add]
  unfold z_ap1
  by_cases h : z_an v j = z_an w j
  · simp only [h, if_true]
  · simp only [h, if_false]
theorem c_apartOf {a b v w : Nat} (ha : a < 6) (hb : b < 6) (hv : m 41 (3 * a) = nI v) (hw : m 41 (3 * b) = nI w) (hv2 : v < 256) (hw2 : w < 256) : q_C 140 (d + 1) [.ref 38, .int (nI a), .int (nI b)] (GG T L) m K ↔ K (some (.int (nI (z_ap v w)))) (GG T L) m := by
  simp only [e140, u140_0, u140_1, u140_2, u140_3, q_push_s, q_push_n, q_sm_0, q_sm_i, q_sm_r, q_sm_n, q_sm_l, q_c1_0, q_c1_i, q_c1_r, q_c1_n, Nat.zero_add, Nat.reduceAdd, Nat.reduceMul, Nat.reduceSub, Nat.reduceLeDiff, Nat.reduceLT, Nat.reduceEqDiff, true_and, and_true, not_false_eq_true, if_true, if_false, ite_true, ite_false, or_true, true_or, or_false, false_or, not_true_eq_false]
  rw [l_apartOf ha hb hv hw hv2 hw2 (by decide), l_apartOf ha hb hv hw hv2 hw2 (by decide), l_apartOf ha hb hv hw hv2 hw2 (by decide), l_apartOf ha hb hv hw hv2 hw2 (by decide)]
  have h3 : (nI 4 < nI 4) = False := by decide +kernel
  simp only [e140, u140_0, u140_1, u140_2, u140_3, u140_5, u140_7, u140_8, u140_11, u140_12, u140_13, u140_16, u140_17, u140_18, u140_19, u140_20, u140_22, u140_25, u140_26, u140_29, u140_30, u140_31, u140_32, u140_33, u140_35, u140_38, u140_41, u140_42, u140_45, u140_46, u140_47, u140_48, u140_51, u140_54, u140_55, q_push_s, q_push_n, q_sm_0, q_sm_i, q_sm_r, q_sm_n, q_sm_l, q_c1_0, q_c1_i, q_c1_r, q_c1_n, Nat.zero_add, Nat.reduceAdd, Nat.reduceMul, Nat.reduceSub, Nat.reduceLeDiff, Nat.reduceLT, Nat.reduceEqDiff, true_and, and_true, not_false_eq_true, if_true, if_false, ite_true, ite_false, or_true, true_or, or_false, false_or, not_true_eq_false, h3]
  exact Iff.rfl
theorem z_xor (a b : Nat) : nI a ^^^ nI b = nI (a ^^^ b) := by
  apply Int32.toBitVec_inj.mp
  show BitVec.ofNat 32 a ^^^ BitVec.ofNat 32 b = BitVec.ofNat 32 (a ^^^ b)
  apply BitVec.eq_of_toNat_eq
  simp only [BitVec.toNat_xor, BitVec.toNat_ofNat]
  exact (Nat.xor_mod_two_pow (a := a) (b := b) (n := 32)).symm
def z_un (v w : Nat) : Nat := ((v ^^^ w) ||| ((v ^^^ w) / 2)) &&& 85
theorem z_un_n : ∀ u, u < 256 → (nI u ||| nI u >>> (nI 1 &&& 31)) &&& nI 85 = nI ((u ||| u / 2) &&& 85) := by decide +kernel
theorem z_un_lt : ∀ u, u < 256 → (u ||| u / 2) &&& 85 < 256 := by decide +kernel
theorem z_ap_n : ∀ v, v < 256 → ∀ w, w < 256 → z_pop (z_un v w) = z_ap v w := by decide +kernel
theorem c_apart {a b v w : Nat} (ha : a < 6) (hb : b < 6) (hv : m 6 a = nI v) (hw : m 6 b = nI w) (hv2 : v < 256) (hw2 : w < 256) : q_C 5 (d + 1) [.ref 3, .int (nI a), .int (nI b)] (GG T L) m K ↔ K (some (.int (nI (z_ap v w)))) (GG T L) m := by
  have hu : v ^^^ w < 256 := Nat.xor_lt_two_pow (n := 8) hv2 hw2
  simp only [e5, u5_0, u5_1, u5_4, u5_5, u5_6, u5_9, u5_10, u5_13, u5_14, u5_17, u5_18, u5_19, u5_22, u5_23, u5_26, u5_27, u5_28, u5_29, u5_32, u5_33, u5_34, u5_35, u5_38, u5_39, u5_40, u5_41, u5_42, u5_43, u5_44, u5_45, u5_46, u5_47, u5_49, u5_50, u5_53, q_push_s, q_push_n, q_sm_0, q_sm_i, q_sm_r, q_sm_n, q_sm_l, q_c1_0, q_c1_i, q_c1_r, q_c1_n, Nat.zero_add, Nat.reduceAdd, Nat.reduceMul, Nat.reduceSub, Nat.reduceLeDiff, Nat.reduceLT, Nat.reduceEqDiff, true_and, and_true, not_false_eq_true, if_true, if_false, ite_true, ite_false, or_true, true_or, or_false, false_or, not_true_eq_false, gf3_5, al6, n_lt0 (j := a) (by omega), n_lt0 (j := b) (by omega), n_lt (i := a) (j := 6) (by omega) (by decide), n_lt (i := b) (j := 6) (by omega) (by decide), ha, hb, ia6 ha, ia6 hb, hv, hw, z_xor, z_un_n _ hu, Nat.zero_le, c_bits (z_un_lt _ hu)]
  have e := z_ap_n v hv2 w hw2
  unfold z_un at e
  rw [e]
end
