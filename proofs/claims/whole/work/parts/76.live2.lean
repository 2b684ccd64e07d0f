/-! ===== live, put together ===== -/
section
variable {T : List Nat} {L : Nat} {s : ZS} {tx : Nat → Nat → List Nat} {n : Nat} {h : ZH} {m : q_M} {K : Option Value → q_G → q_M → Prop}
def FLc (m m' : q_M) : Prop := ∀ k, ¬ (13 ≤ k ∧ k < 15) → k ≠ 8 → k ≠ 9 → m' k = m k
def FLm (m m' : q_M) : Prop := (∀ k, k ≠ 38 → ¬ (53 ≤ k ∧ k < 55) → k ≠ 41 → k ≠ 42 → m' k = m k) ∧ ∀ f, f < 21 → m' 38 f = m 38 f
theorem FLc.trans {a b c : q_M} (h : FLc a b) (h' : FLc b c) : FLc a c := fun k h1 h2 h3 => (h' k h1 h2 h3).trans (h k h1 h2 h3)
theorem FLm.trans {a b c : q_M} (h : FLm a b) (h' : FLm b c) : FLm a c := ⟨fun k h1 h2 h3 h4 => (h'.1 k h1 h2 h3 h4).trans (h.1 k h1 h2 h3 h4), fun f hf => (h'.2 f hf).trans (h.2 f hf)⟩
theorem FC.lc {a b : q_M} (h : FC a b) : FLc a b := fun k h1 _ _ => h k h1
theorem FCp.lc {a b : q_M} (h : FCp 8 a b) : FLc a b := fun k h1 h2 _ => h k h1 h2
theorem FM.lm {a b : q_M} (h : FM a b) : FLm a b := ⟨fun k h1 h2 _ _ => h.1 k h1 h2, h.2⟩
theorem FMp.lm {a b : q_M} (h : FMp 41 a b) : FLm a b := ⟨fun k h1 h2 h3 _ => h.1 k h1 h2 h3, h.2⟩
theorem BZ.zof {g o : Nat} (hB : BZ s) (hg : g < s.1 0) (ho : o < s.1 0) : BZ (z_of s g o) := by
  have h6 := hB.1
  refine ⟨hB.1, ⟨hB.2.1.1, fun i hi hb => ?_⟩, hB.2.2.1, hB.2.2.2⟩
  have e1 : (z_of s g o).1 0 = s.1 0 := rfl
  rw [e1] at hb
  show (if i = 6 * g + o then s.2.2 i + nI 1 else s.2.2 i) = nI 0
  rw [if_neg (by omega)]
  exact hB.bo i hi hb
theorem CJ.of' {g o : Nat} (l : CJ T L s tx n h m) (hg : g < s.1 0) (ho : o < s.1 0) : CJ T L (z_of s g o) tx n h (q_up m 9 (6 * g + o) (s.2.2 (6 * g + o) + nI 1)) := by
  refine l.to (l.bz.zof hg ho) l.1.2.2.1 ⟨fun f hf => ?_, fun r hr g' hg => ?_, fun i hi => ?_⟩ (fun k h1 h2 => q_up_f _ _ _ (by omega))
  · rw [q_up_f _ _ _ (by decide)]; exact l.cl.1 f hf
  · rw [q_up_f _ _ _ (by omega)]; exact l.cl.2.1 r hr g' hg
  · show _ = if i = 6 * g + o then s.2.2 i + nI 1 else s.2.2 i
    by_cases q : i = 6 * g + o
    · rw [if_pos q, q]; exact q_up_eq _ _ _ _
    · rw [if_neg q, q_up_i _ _ q]; exact l.cl.2.2 i hi
theorem RJ.of' {g o : Nat} (l : RJ s tx n h m) (hg : g < s.1 0) (ho : o < s.1 0) : RJ (z_of s g o) tx n h (q_up m 42 (6 * g + o) (s.2.2 (6 * g + o) + nI 1)) := by
  refine l.to (l.bz.zof hg ho) l.1.2.2.1 ⟨⟨?_, ?_, ?_⟩, ?_, ?_, fun i hi => ?_⟩ (fun k h1 h2 h3 => q_up_f _ _ _ (by omega)) (by rw [q_up_f _ _ _ (by decide)])
  · rw [q_up_f _ _ _ (by decide)]; exact l.mo.n
  · rw [q_up_f _ _ _ (by decide)]; exact l.mo.nt
  · rw [q_up_f _ _ _ (by decide)]; exact l.mo.lw
  · rw [q_up_f _ _ _ (by decide), q_up_f _ _ _ (by decide)]; exact l.mo.2.1
  · rw [q_up_f _ _ _ (by decide)]; exact l.mo.2.2.1
  · show _ = if i = 6 * g + o then s.2.2 i + nI 1 else s.2.2 i
    by_cases q : i = 6 * g + o
    · rw [if_pos q, q]; exact q_up_eq _ _ _ _
    · rw [if_neg q, q_up_i _ _ q]; exact l.mo.of i hi
theorem c_behind {o d : Nat} (l : CJ T L s tx n h m) (ho : o < s.1 0) : q_C 6 d [.ref 3, .int (nI o)] (GG T L) m K ↔ K (some (.int (nI (z_bh s o)))) (GG T L) m := by
  have h6 := l.bz.1
  unfold z_bh
  by_cases q : o + 1 < s.1 0
  · rw [if_pos q]
    simp only [e6, u6_0, u6_1, u6_2, u6_3, u6_4, u6_7, u6_10, u6_11, u6_12, u6_13, u6_16, u6_17, e6, q_push_s, q_push_n, q_sm_0, q_sm_i, q_sm_r, q_sm_n, q_sm_l, q_c1_0, q_c1_i, q_c1_r, q_c1_n, Nat.zero_add, Nat.reduceAdd, Nat.reduceMul, Nat.reduceSub, Nat.reduceLeDiff, Nat.reduceLT, Nat.reduceEqDiff, true_and, and_true, not_false_eq_true, if_true, if_false, ite_true, ite_false, or_true, true_or, or_false, false_or, not_true_eq_false, gf3_0, l.cl.n, n_add, n_lt (i := o + 1) (j := s.1 0) (by omega) (by omega), q]
  · rw [if_neg q]
    simp only [e6, u6_0, u6_1, u6_2, u6_3, u6_4, u6_7, u6_10, u6_11, u6_12, u6_13, u6_16, u6_17, e6, q_push_s, q_push_n, q_sm_0, q_sm_i, q_sm_r, q_sm_n, q_sm_l, q_c1_0, q_c1_i, q_c1_r, q_c1_n, Nat.zero_add, Nat.reduceAdd, Nat.reduceMul, Nat.reduceSub, Nat.reduceLeDiff, Nat.reduceLT, Nat.reduceEqDiff, true_and, and_true, not_false_eq_true, if_true, if_false, ite_true, ite_false, or_true, true_or, or_false, false_or, not_true_eq_false, gf3_0, l.cl.n, n_add, n_lt (i := o + 1) (j := s.1 0) (by omega) (by omega), q]
/-- one guest's evening, truly -/
theorem s_live {i a : Nat} (l : CJ T L s tx n h m) (hi : i < s.1 0) (d : Nat) (x3 x4 : Option Value) (h3 : q_c1 x3 = true) (h4 : q_c1 x4 = true) (hK : ∀ m' x3 x4, q_c1 x3 = true → q_c1 x4 = true → FLc m m' → CJ T L (z_l1 tx i s) tx n h m' → q_R 73 19 (d + 6) [some (.ref 0), some (.int (nI (if z_kn tx s i (s.2.1 3 i) = (-1 : Int32) then a else a + 1))), some (.int (nI (i + 1))), x3, x4] [] (GG T L) m' K) :
    q_R 73 19 (d + 6) [some (.ref 0), some (.int (nI a)), some (.int (nI i)), x3, x4] [] (GG T L) m K := by
  have h6 := l.bz.1
  have ho := (l.bz.2.2.2 i hi).2.2.2.1
  have hbh := z_bh_lt ho
  have hpx : i * 6 + s.2.1 3 i < 36 := by omega
  have epx : i * 6 + s.2.1 3 i = 6 * i + s.2.1 3 i := by omega
  rw [u73_19]
  simp only [u73_20, u73_21, u73_24, u73_27, u73_30, u73_31, u73_34, u73_37, u73_38, u73_41, u73_42, u73_43, u73_46, u73_47, u73_48, q_push_s, q_push_n, q_sm_0, q_sm_i, q_sm_r, q_sm_n, q_sm_l, q_c1_0, q_c1_i, q_c1_r, q_c1_n, Nat.zero_add, Nat.reduceAdd, Nat.reduceMul, Nat.reduceSub, Nat.reduceLeDiff, Nat.reduceLT, Nat.reduceEqDiff, true_and, and_true, not_false_eq_true, if_true, if_false, ite_true, ite_false, or_true, true_or, or_false, false_or, not_true_eq_false, gf0_1, gf0_2, gf3_0, gf3_6, l.cl.n, n_lt (i := i) (j := s.1 0) (by omega) (by omega), hi, io2, c_at (j := i) sh7 (by decide) (by decide) (show i < 6 by omega), l.cl.pl i hi, Nat.zero_le, Nat.reduceLeDiff]
  refine l.knownOn (d := d) hi ho (fun m1 f1 l1 => ?_)
  have fin : ∀ m2 v4 b, FLc m m2 → CJ T L (z_l0 tx i s) tx n h m2 → b = (if z_kn tx s i (s.2.1 3 i) = (-1 : Int32) then a else a + 1) → q_R 73 92 (d + 6) [some (.ref 0), some (.int (nI b)), some (.int (nI i)), some (.int (nI (s.2.1 3 i))), some (.int v4)] [] (GG T L) m2 K := by
    intro m2 v4 b f2 l2 hb
    have e1 := z_l0_1 tx s i
    have e3 := z_l0_k tx s i 3
    have ho2 : s.2.1 3 i < (z_l0 tx i s).1 0 := by rw [e1]; exact ho
    have hi2 : i < (z_l0 tx i s).1 0 := by rw [e1]; exact hi
    have hbh2 : z_bh s (s.2.1 3 i) < (z_l0 tx i s).1 0 := by rw [e1]; exact hbh
    have ebh : z_bh (z_l0 tx i s) (s.2.1 3 i) = z_bh s (s.2.1 3 i) := by unfold z_bh; rw [e1]
    have cb := c_behind (d := d + 5) (K := K) l2 ho2
    simp only [u73_92, u73_93, u73_96, u73_97, u73_98, u73_101, u73_102, u73_105, u73_106, u73_109, u73_112, u73_113, u73_114, u73_117, u73_118, u73_119, u73_120, q_push_s, q_push_n, q_sm_0, q_sm_i, q_sm_r, q_sm_n, q_sm_l, q_c1_0, q_c1_i, q_c1_r, q_c1_n, Nat.zero_add, Nat.reduceAdd, Nat.reduceMul, Nat.reduceSub, Nat.reduceLeDiff, Nat.reduceLT, Nat.reduceEqDiff, true_and, and_true, not_false_eq_true, if_true, if_false, ite_true, ite_false, or_true, true_or, or_false, false_or, not_true_eq_false, gf0_1, gf0_2, io2, io3, c_behind l2 ho2, ebh, l2.law, Nat.zero_le, Nat.reduceLeDiff]
    refine l2.asking (d := d + 3) hi2 ho2 (fun m3 f3 l3 hn3 => ?_)
    simp only [u73_123, q_push_s, q_push_n, q_sm_0, q_sm_i, q_sm_r, q_sm_n, q_sm_l, q_c1_0, q_c1_i, q_c1_r, q_c1_n, Nat.zero_add, Nat.reduceAdd, Nat.reduceMul, Nat.reduceSub, Nat.reduceLeDiff, Nat.reduceLT, Nat.reduceEqDiff, true_and, and_true, not_false_eq_true, if_true, if_false, ite_true, ite_false, or_true, true_or, or_false, false_or, not_true_eq_false, l3.iop, Nat.zero_le, Nat.reduceLeDiff]
    refine l3.says (d := d + 3) (p := 2) (by decide) hn3 (fun m4 f4 l4 => ?_)
    simp only [u73_126, q_push_s, q_push_n, q_sm_0, q_sm_i, q_sm_r, q_sm_n, q_sm_l, q_c1_0, q_c1_i, q_c1_r, q_c1_n, Nat.zero_add, Nat.reduceAdd, Nat.reduceMul, Nat.reduceSub, Nat.reduceLeDiff, Nat.reduceLT, Nat.reduceEqDiff, true_and, and_true, not_false_eq_true, if_true, if_false, ite_true, ite_false, or_true, true_or, or_false, false_or, not_true_eq_false, io3, Nat.zero_le, Nat.reduceLeDiff]
    refine l4.pay (d := d + 4) ho2 hbh2 (z_ask_le _ _ _ _ _ _) (fun m5 f5 l5 => ?_)
    have lo := l5.of' (g := i) (o := s.2.1 3 i) (by rw [z_pay_1]; exact hi2) (by rw [z_pay_1]; exact ho2)
    have e9 : m5 9 (6 * i + s.2.1 3 i) = (z_pay (z_l0 tx i s) (s.2.1 3 i) (z_bh s (s.2.1 3 i)) (z_ask tx (z_l0 tx i s) 2 i (s.2.1 3 i) 0)).2.2 (6 * i + s.2.1 3 i) := l5.cl.2.2 _ (by omega)
    simp only [u73_129, u73_130, u73_133, u73_136, u73_137, u73_138, u73_141, u73_142, u73_145, u73_148, u73_149, u73_150, u73_153, u73_156, u73_157, u73_158, u73_161, u73_164, q_push_s, q_push_n, q_sm_0, q_sm_i, q_sm_r, q_sm_n, q_sm_l, q_c1_0, q_c1_i, q_c1_r, q_c1_n, Nat.zero_add, Nat.reduceAdd, Nat.reduceMul, Nat.reduceSub, Nat.reduceLeDiff, Nat.reduceLT, Nat.reduceEqDiff, true_and, and_true, not_false_eq_true, if_true, if_false, ite_true, ite_false, or_true, true_or, or_false, false_or, not_true_eq_false, gf0_2, gf3_8, c_place, epx, c_at (j := 6 * i + s.2.1 3 i) sh9 (by decide) (by decide) (show 6 * i + s.2.1 3 i < 36 by omega), e9, c_put (j := 6 * i + s.2.1 3 i) sh9 (by decide) (by decide) (show 6 * i + s.2.1 3 i < 36 by omega), n_add, Nat.zero_le, Nat.reduceLeDiff]
    rw [hb]
    exact hK _ _ _ (of_eq_true (q_c1_i _)) (of_eq_true (q_c1_i _)) ((((f2.trans f3.lc).trans f4.lc).trans f5.lc).trans (fun k _ _ h9 => q_up_f _ _ _ h9)) lo
  have el0 : z_l0 tx i s = if z_kn tx s i (s.2.1 3 i) = (-1 : Int32) then s else z_pay s i (s.2.1 3 i) (z_ask tx s 1 i (s.2.1 3 i) (z_kni tx s i (s.2.1 3 i))) := rfl
  rcases z_kn_is tx s i (s.2.1 3 i) with q | ⟨q1, q2, q3⟩
  · have e1 : ((-1 : Int32) < nI 0) = True := eq_true (by decide)
    rw [if_pos q] at el0
    rw [el0] at fin
    simp only [u73_51, u73_53, u73_55, q_push_s, q_push_n, q_sm_0, q_sm_i, q_sm_r, q_sm_n, q_sm_l, q_c1_0, q_c1_i, q_c1_r, q_c1_n, Nat.zero_add, Nat.reduceAdd, Nat.reduceMul, Nat.reduceSub, Nat.reduceLeDiff, Nat.reduceLT, Nat.reduceEqDiff, true_and, and_true, not_false_eq_true, if_true, if_false, ite_true, ite_false, or_true, true_or, or_false, false_or, not_true_eq_false, q, e1]
    exact fin m1 _ a f1.lc l1 (by rw [if_pos q])
  · have e1 := n_lt0 (j := z_kni tx s i (s.2.1 3 i)) (by omega)
    rw [if_neg q3] at el0
    rw [el0] at fin
    simp only [u73_51, u73_53, u73_55, u73_58, u73_61, u73_62, u73_65, u73_66, u73_67, u73_68, u73_71, u73_74, u73_75, u73_76, u73_79, u73_80, u73_81, u73_83, q_push_s, q_push_n, q_sm_0, q_sm_i, q_sm_r, q_sm_n, q_sm_l, q_c1_0, q_c1_i, q_c1_r, q_c1_n, Nat.zero_add, Nat.reduceAdd, Nat.reduceMul, Nat.reduceSub, Nat.reduceLeDiff, Nat.reduceLT, Nat.reduceEqDiff, true_and, and_true, not_false_eq_true, if_true, if_false, ite_true, ite_false, or_true, true_or, or_false, false_or, not_true_eq_false, q2, e1, n_add, gf0_1, gf0_2, io2, l1.law, Nat.zero_le, Nat.reduceLeDiff]
    refine l1.asking (d := d + 3) hi ho (fun m2 f2 l2 hn2 => ?_)
    simp only [u73_86, q_push_s, q_push_n, q_sm_0, q_sm_i, q_sm_r, q_sm_n, q_sm_l, q_c1_0, q_c1_i, q_c1_r, q_c1_n, Nat.zero_add, Nat.reduceAdd, Nat.reduceMul, Nat.reduceSub, Nat.reduceLeDiff, Nat.reduceLT, Nat.reduceEqDiff, true_and, and_true, not_false_eq_true, if_true, if_false, ite_true, ite_false, or_true, true_or, or_false, false_or, not_true_eq_false, l2.iop, Nat.zero_le, Nat.reduceLeDiff]
    refine l2.says (d := d + 3) (p := 1) (by decide) hn2 (fun m3 f3 l3 => ?_)
    simp only [u73_89, q_push_s, q_push_n, q_sm_0, q_sm_i, q_sm_r, q_sm_n, q_sm_l, q_c1_0, q_c1_i, q_c1_r, q_c1_n, Nat.zero_add, Nat.reduceAdd, Nat.reduceMul, Nat.reduceSub, Nat.reduceLeDiff, Nat.reduceLT, Nat.reduceEqDiff, true_and, and_true, not_false_eq_true, if_true, if_false, ite_true, ite_false, or_true, true_or, or_false, false_or, not_true_eq_false, io3, Nat.zero_le, Nat.reduceLeDiff]
    refine l3.pay (d := d + 4) hi ho (z_ask_le _ _ _ _ _ _) (fun m4 f4 l4 => ?_)
    exact fin m4 _ (a + 1) (((f1.lc.trans f2.lc).trans f3.lc).trans f4.lc) l4 (by rw [if_neg q3])
theorem s_live8 {i a : Nat} (l : RJ s tx n h m) (hi : i < s.1 0) (d : Nat) (x3 x4 : Option Value) (h3 : q_c1 x3 = true) (h4 : q_c1 x4 = true) (hK : ∀ m' x3 x4, q_c1 x3 = true → q_c1 x4 = true → FLm m m' → RJ (z_l1 tx i s) tx n h m' → q_R 158 16 (d + 6) [some (.ref 38), some (.int (nI (if z_kn tx s i (s.2.1 3 i) = (-1 : Int32) then a else a + 1))), some (.int (nI (i + 1))), x3, x4] [] (GG T L) m' K) :
    q_R 158 16 (d + 6) [some (.ref 38), some (.int (nI a)), some (.int (nI i)), x3, x4] [] (GG T L) m K := by
  have h6 := l.bz.1
  have ho := (l.bz.2.2.2 i hi).2.2.2.1
  have hbh := z_bh_lt ho
  have c42 : (nI (6 * i + s.2.1 3 i)).toNatClampNeg = 6 * i + s.2.1 3 i := n_cl (by omega)
  rw [u158_16]
  simp only [u158_17, u158_18, u158_21, u158_24, u158_25, u158_26, u158_29, u158_30, u158_31, u158_32, e150, u150_0, u150_1, u150_4, u150_5, u150_6, u150_7, u150_8, u150_9, u150_10, q_push_s, q_push_n, q_sm_0, q_sm_i, q_sm_r, q_sm_n, q_sm_l, q_c1_0, q_c1_i, q_c1_r, q_c1_n, Nat.zero_add, Nat.reduceAdd, Nat.reduceMul, Nat.reduceSub, Nat.reduceLeDiff, Nat.reduceLT, Nat.reduceEqDiff, true_and, and_true, not_false_eq_true, if_true, if_false, ite_true, ite_false, or_true, true_or, or_false, false_or, not_true_eq_false, gf38_0, gf38_3, l.mo.n, n_lt (i := i) (j := s.1 0) (by omega) (by omega), hi, io38, n_mul, n_add, ia41 (i := 3 * i + 1) (by omega), l.mo.pl i hi, Nat.zero_le, Nat.reduceLeDiff]
  refine l.knownOf (d := d) hi (fun m1 f1 l1 => ?_)
  have fin : ∀ m2 v4 b, FLm m m2 → RJ (z_l0 tx i s) tx n h m2 → b = (if z_kn tx s i (s.2.1 3 i) = (-1 : Int32) then a else a + 1) → q_R 158 61 (d + 6) [some (.ref 38), some (.int (nI b)), some (.int (nI i)), some (.int (nI (s.2.1 3 i))), some (.int v4)] [] (GG T L) m2 K := by
    intro m2 v4 b f2 l2 hb
    have e1 := z_l0_1 tx s i
    have ho2 : s.2.1 3 i < (z_l0 tx i s).1 0 := by rw [e1]; exact ho
    have hi2 : i < (z_l0 tx i s).1 0 := by rw [e1]; exact hi
    have hbh2 : z_bh s (s.2.1 3 i) < (z_l0 tx i s).1 0 := by rw [e1]; exact hbh
    have en : m2 38 0 = nI (s.1 0) := by rw [l2.mo.n, e1]
    have ez : (nI (s.1 0) = 0) = False := n_ne0 (by omega) (by omega)
    have hdv := n_div (a := s.2.1 3 i + 1) (d := s.1 0) (by omega) (by omega) (by omega)
    have hrm := n_rem (a := s.2.1 3 i + 1) (d := s.1 0) (by omega) (by omega) (by omega)
    have hrm2 : nI (s.2.1 3 i + 1) - nI ((s.2.1 3 i + 1) / s.1 0 * s.1 0) = nI ((s.2.1 3 i + 1) % s.1 0) := by rw [← n_mul, hrm]
    have ebh : (s.2.1 3 i + 1) % s.1 0 = z_bh s (s.2.1 3 i) := by
      unfold z_bh
      by_cases q : s.2.1 3 i + 1 < s.1 0
      · rw [if_pos q, Nat.mod_eq_of_lt q]
      · have e : s.2.1 3 i + 1 = s.1 0 := by omega
        rw [if_neg q, e, Nat.mod_self]
    simp only [u158_61, u158_62, u158_63, u158_64, u158_65, u158_66, u158_67, u158_70, u158_71, u158_73, u158_76, u158_77, u158_78, u158_79, u158_80, u158_81, u158_82, q_push_s, q_push_n, q_sm_0, q_sm_i, q_sm_r, q_sm_n, q_sm_l, q_c1_0, q_c1_i, q_c1_r, q_c1_n, Nat.zero_add, Nat.reduceAdd, Nat.reduceMul, Nat.reduceSub, Nat.reduceLeDiff, Nat.reduceLT, Nat.reduceEqDiff, true_and, and_true, not_false_eq_true, if_true, if_false, ite_true, ite_false, or_true, true_or, or_false, false_or, not_true_eq_false, gf38_0, en, c_within, z_wn (s.1 0) (by omega) (by omega), n_add, n_mul, ez, hdv, hrm, hrm2, ebh, io38, Nat.zero_le, Nat.reduceLeDiff]
    refine l2.asksOf (d := d + 3) (p := 2) (by decide) hi2 ho2 (fun m3 f3 l3 => ?_)
    simp only [u158_85, q_push_s, q_push_n, q_sm_0, q_sm_i, q_sm_r, q_sm_n, q_sm_l, q_c1_0, q_c1_i, q_c1_r, q_c1_n, Nat.zero_add, Nat.reduceAdd, Nat.reduceMul, Nat.reduceSub, Nat.reduceLeDiff, Nat.reduceLT, Nat.reduceEqDiff, true_and, and_true, not_false_eq_true, if_true, if_false, ite_true, ite_false, or_true, true_or, or_false, false_or, not_true_eq_false, io38, Nat.zero_le, Nat.reduceLeDiff]
    refine l3.pay (d := d + 5) ho2 hbh2 (z_ask_le _ _ _ _ _ _) (fun m5 f5 l5 => ?_)
    have lo := l5.of' (g := i) (o := s.2.1 3 i) (by rw [z_pay_1]; exact hi2) (by rw [z_pay_1]; exact ho2)
    have e9 : m5 42 (6 * i + s.2.1 3 i) = (z_pay (z_l0 tx i s) (s.2.1 3 i) (z_bh s (s.2.1 3 i)) (z_ask tx (z_l0 tx i s) 2 i (s.2.1 3 i) 0)).2.2 (6 * i + s.2.1 3 i) := l5.mo.of _ (by omega)
    simp only [u158_88, u158_89, u158_92, u158_94, u158_95, u158_96, u158_97, u158_98, u158_99, u158_100, u158_101, u158_102, u158_103, u158_106, q_push_s, q_push_n, q_sm_0, q_sm_i, q_sm_r, q_sm_n, q_sm_l, q_c1_0, q_c1_i, q_c1_r, q_c1_n, Nat.zero_add, Nat.reduceAdd, Nat.reduceMul, Nat.reduceSub, Nat.reduceLeDiff, Nat.reduceLT, Nat.reduceEqDiff, true_and, and_true, not_false_eq_true, if_true, if_false, ite_true, ite_false, or_true, true_or, or_false, false_or, not_true_eq_false, gf38_4, n_mul, n_add, ia42 (i := 6 * i + s.2.1 3 i) (by omega), is42 (i := 6 * i + s.2.1 3 i) (by omega), c42, e9]
    rw [hb]
    exact hK _ _ _ (of_eq_true (q_c1_i _)) (of_eq_true (q_c1_i _)) (((f2.trans f3.fm.lm).trans f5.lm).trans ⟨fun k _ _ _ h9 => q_up_f _ _ _ h9, fun f _ => by rw [q_up_f _ _ _ (by decide)]⟩) lo
  have el0 : z_l0 tx i s = if z_kn tx s i (s.2.1 3 i) = (-1 : Int32) then s else z_pay s i (s.2.1 3 i) (z_ask tx s 1 i (s.2.1 3 i) (z_kni tx s i (s.2.1 3 i))) := rfl
  rcases z_kn_is tx s i (s.2.1 3 i) with q | ⟨q1, q2, q3⟩
  · rw [if_pos q] at el0
    rw [el0] at fin
    simp only [u158_35, u158_37, u158_39, u158_40, q_push_s, q_push_n, q_sm_0, q_sm_i, q_sm_r, q_sm_n, q_sm_l, q_c1_0, q_c1_i, q_c1_r, q_c1_n, Nat.zero_add, Nat.reduceAdd, Nat.reduceMul, Nat.reduceSub, Nat.reduceLeDiff, Nat.reduceLT, Nat.reduceEqDiff, true_and, and_true, not_false_eq_true, if_true, if_false, ite_true, ite_false, or_true, true_or, or_false, false_or, not_true_eq_false, q, eq_self]
    exact fin m1 _ a f1.fm.lm l1 (by rw [if_pos q])
  · have e1 := (i_nm (j := z_kni tx s i (s.2.1 3 i)) (by omega)).2.1
    rw [if_neg q3] at el0
    rw [el0] at fin
    simp only [u158_35, u158_37, u158_39, u158_40, u158_43, u158_46, u158_47, u158_48, u158_49, u158_50, u158_51, u158_52, u158_53, u158_55, q_push_s, q_push_n, q_sm_0, q_sm_i, q_sm_r, q_sm_n, q_sm_l, q_c1_0, q_c1_i, q_c1_r, q_c1_n, Nat.zero_add, Nat.reduceAdd, Nat.reduceMul, Nat.reduceSub, Nat.reduceLeDiff, Nat.reduceLT, Nat.reduceEqDiff, true_and, and_true, not_false_eq_true, if_true, if_false, ite_true, ite_false, or_true, true_or, or_false, false_or, not_true_eq_false, q2, e1, n_add, io38, Nat.zero_le, Nat.reduceLeDiff]
    refine l1.asksOf (d := d + 3) (p := 1) (by decide) hi ho (fun m2 f2 l2 => ?_)
    simp only [u158_58, q_push_s, q_push_n, q_sm_0, q_sm_i, q_sm_r, q_sm_n, q_sm_l, q_c1_0, q_c1_i, q_c1_r, q_c1_n, Nat.zero_add, Nat.reduceAdd, Nat.reduceMul, Nat.reduceSub, Nat.reduceLeDiff, Nat.reduceLT, Nat.reduceEqDiff, true_and, and_true, not_false_eq_true, if_true, if_false, ite_true, ite_false, or_true, true_or, or_false, false_or, not_true_eq_false, io38, Nat.zero_le, Nat.reduceLeDiff]
    refine l2.pay (d := d + 5) hi ho (z_ask_le _ _ _ _ _ _) (fun m4 f4 l4 => ?_)
    exact fin m4 _ (a + 1) ((f1.fm.lm.trans f2.fm.lm).trans f4.lm) l4 (by rw [if_neg q3])
theorem l_live (d : Nat) : ∀ c i s a m x3 x4, q_c1 x3 = true → q_c1 x4 = true → i + c = s.1 0 → CJ T L s tx n h m → (∀ m' x3 x4, FLc m m' → CJ T L (z_lv tx c i (s, a)).1 tx n h m' → q_R 73 167 (d + 6) [some (.ref 0), some (.int (nI (z_lv tx c i (s, a)).2)), some (.int (nI (s.1 0))), x3, x4] [] (GG T L) m' K) →
    q_R 73 19 (d + 6) [some (.ref 0), some (.int (nI a)), some (.int (nI i)), x3, x4] [] (GG T L) m K
  | 0, i, s, a, m, x3, x4, h3, h4, hi, l, hK => by
    have h6 := l.bz.1
    have e : i = s.1 0 := by omega
    have e2 : ¬ i < s.1 0 := by omega
    simp only [u73_19, u73_20, u73_21, u73_24, u73_27, q_push_s, q_push_n, q_sm_0, q_sm_i, q_sm_r, q_sm_n, q_sm_l, q_c1_0, q_c1_i, q_c1_r, q_c1_n, Nat.zero_add, Nat.reduceAdd, Nat.reduceMul, Nat.reduceSub, Nat.reduceLeDiff, Nat.reduceLT, Nat.reduceEqDiff, true_and, and_true, not_false_eq_true, if_true, if_false, ite_true, ite_false, or_true, true_or, or_false, false_or, not_true_eq_false, gf0_2, gf3_0, l.cl.n, n_lt (i := i) (j := s.1 0) (by omega) (by omega), e2]
    have := hK m x3 x4 (fun _ _ _ _ => rfl) l
    rw [← e] at this
    exact this
  | c + 1, i, s, a, m, x3, x4, h3, h4, hi, l, hK => by
    refine s_live l (by omega) d x3 x4 h3 h4 (fun m1 y3 y4 g3 g4 f1 l1 => ?_)
    have e1 : (z_l1 tx i s).1 0 = s.1 0 := by rw [z_l1_1]
    refine l_live d c (i + 1) (z_l1 tx i s) _ m1 y3 y4 g3 g4 (by rw [e1]; omega) l1 (fun m' x3 x4 f' l' => ?_)
    rw [e1]
    exact hK m' x3 x4 (f1.trans f') l'
theorem l_live8 (d : Nat) : ∀ c i s a m x3 x4, q_c1 x3 = true → q_c1 x4 = true → i + c = s.1 0 → RJ s tx n h m → (∀ m' x3 x4, FLm m m' → RJ (z_lv tx c i (s, a)).1 tx n h m' → q_R 158 109 (d + 6) [some (.ref 38), some (.int (nI (z_lv tx c i (s, a)).2)), some (.int (nI (s.1 0))), x3, x4] [] (GG T L) m' K) →
    q_R 158 16 (d + 6) [some (.ref 38), some (.int (nI a)), some (.int (nI i)), x3, x4] [] (GG T L) m K
  | 0, i, s, a, m, x3, x4, h3, h4, hi, l, hK => by
    have h6 := l.bz.1
    have e : i = s.1 0 := by omega
    have e2 : ¬ i < s.1 0 := by omega
    simp only [u158_16, u158_17, u158_18, u158_21, q_push_s, q_push_n, q_sm_0, q_sm_i, q_sm_r, q_sm_n, q_sm_l, q_c1_0, q_c1_i, q_c1_r, q_c1_n, Nat.zero_add, Nat.reduceAdd, Nat.reduceMul, Nat.reduceSub, Nat.reduceLeDiff, Nat.reduceLT, Nat.reduceEqDiff, true_and, and_true, not_false_eq_true, if_true, if_false, ite_true, ite_false, or_true, true_or, or_false, false_or, not_true_eq_false, gf38_0, l.mo.n, n_lt (i := i) (j := s.1 0) (by omega) (by omega), e2]
    have := hK m x3 x4 ⟨fun _ _ _ _ _ => rfl, fun _ _ => rfl⟩ l
    rw [← e] at this
    exact this
  | c + 1, i, s, a, m, x3, x4, h3, h4, hi, l, hK => by
    refine s_live8 l (by omega) d x3 x4 h3 h4 (fun m1 y3 y4 g3 g4 f1 l1 => ?_)
    have e1 : (z_l1 tx i s).1 0 = s.1 0 := by rw [z_l1_1]
    refine l_live8 d c (i + 1) (z_l1 tx i s) _ m1 y3 y4 g3 g4 (by rw [e1]; omega) l1 (fun m' x3 x4 f' l' => ?_)
    rw [e1]
    exact hK m' x3 x4 (f1.trans f') l'
end
theorem z_lv_1 (tx : Nat → Nat → List Nat) : ∀ c i (a : ZS × Nat), (z_lv tx c i a).1.1 = a.1.1 ∧ (∀ r g, r ≠ 4 → (z_lv tx c i a).1.2.1 r g = a.1.2.1 r g)
  | 0, _, _ => ⟨rfl, fun _ _ _ => rfl⟩
  | c + 1, i, a => by
    obtain ⟨h1, h2⟩ := z_lv_1 tx c (i + 1) (z_l1 tx i a.1, if z_kn tx a.1 i (a.1.2.1 3 i) = (-1 : Int32) then a.2 else a.2 + 1)
    exact ⟨h1.trans (z_l1_1 tx a.1 i), fun r g h => (h2 r g h).trans (z_l1_k tx a.1 i r g h)⟩
def z_nt (s : ZS) : ZS := (fun f => if f = 1 then s.1 1 + 1 else s.1 f, s.2.1, s.2.2)
section
variable {T : List Nat} {L d : Nat} {xs : Nat → Int32} {s : ZS} {tx : Nat → Nat → List Nat} {n : Nat} {tp : Nat → Nat} {z : Nat} {h : ZH} {wd : Nat → Int32} {m m1 m2 : q_M} {K : Option Value → Option Value → q_G → q_M → Prop}
theorem p_live (l : LJ T L xs s tx n tp z h wd m) (hK : ∀ r s' m', LJ T L xs s' tx n tp z h wd m' → K (some (.int r)) (some (.int r)) (GG T L) m') :
    q_C 73 (d + 7) [.ref 0] (GG T L) m (fun v g m => q_C 158 (d + 7) [.ref 38] g m (fun v' g m => K v v' g m)) := by
  have h6 := l.bz.1
  have hn := l.bz.2.1.1
  have e1 := n_lt (i := s.1 1) (j := 99) (by omega) (by decide)
  have e2 := n_eq (i := s.1 1) (j := 99) (by omega) (by decide)
  by_cases q : s.1 1 < 99
  · have q2 : ¬ s.1 1 = 99 := by omega
    simp only [u73_0, u73_1, u73_4, u73_7, u73_9, u73_12, u73_14, u73_15, u73_16, u73_17, u73_18, e73, q_push_s, q_push_n, q_sm_0, q_sm_i, q_sm_r, q_sm_n, q_sm_l, q_c1_0, q_c1_i, q_c1_r, q_c1_n, Nat.zero_add, Nat.reduceAdd, Nat.reduceMul, Nat.reduceSub, Nat.reduceLeDiff, Nat.reduceLT, Nat.reduceEqDiff, true_and, and_true, not_false_eq_true, if_true, if_false, ite_true, ite_false, or_true, true_or, or_false, false_or, not_true_eq_false, gf0_2, gf3_1, l.cl.nt, e1, q]
    refine l_live (d + 1) (s.1 0) 0 s 0 m _ _ (of_eq_true q_c1_0) (of_eq_true q_c1_0) (by omega) l.cj (fun m1 x3 x4 f1 l1 => ?_)
    have hz := z_lv_1 tx (s.1 0) 0 (s, 0)
    generalize hS : z_lv tx (s.1 0) 0 (s, 0) = A at hz l1 ⊢
    have hz1 : A.1.1 = s.1 := hz.1
    have hz2 : ∀ r g, r ≠ 4 → A.1.2.1 r g = s.2.1 r g := hz.2
    have ent : A.1.1 1 = s.1 1 := by rw [hz1]
    simp only [u73_167, u73_168, u73_171, u73_171r, u73_172, u73_175, u73_176, u73_177, u73_180, u73_181, q_push_s, q_push_n, q_sm_0, q_sm_i, q_sm_r, q_sm_n, q_sm_l, q_c1_0, q_c1_i, q_c1_r, q_c1_n, Nat.zero_add, Nat.reduceAdd, Nat.reduceMul, Nat.reduceSub, Nat.reduceLeDiff, Nat.reduceLT, Nat.reduceEqDiff, true_and, and_true, not_false_eq_true, if_true, if_false, ite_true, ite_false, or_true, true_or, or_false, false_or, not_true_eq_false, gf0_2, gf3_1, pf3_1, l1.cl.nt, ent, n_add]
    have fc : ∀ k, ¬ (13 ≤ k ∧ k < 15) → k ≠ 8 → k ≠ 9 → k ≠ 3 → q_up m1 3 1 (nI (s.1 1 + 1)) k = m k := fun k h1 h2 h3 h4 => by rw [q_up_f _ _ _ h4]; exact f1 k h1 h2 h3
    have lr1 : RJ s tx n h (q_up m1 3 1 (nI (s.1 1 + 1))) := ⟨l.iw, l.mo.fr (by rw [fc 38 (by decide) (by decide) (by decide) (by decide)]) (by rw [fc 38 (by decide) (by decide) (by decide) (by decide)]) (by rw [fc 38 (by decide) (by decide) (by decide) (by decide)]) (fun k h1 h2 => fc k (by omega) (by omega) (by omega) (by omega)), l.tm.fr (fc 44 (by decide) (by decide) (by decide) (by decide)) (fc 45 (by decide) (by decide) (by decide) (by decide)), l.rj.2.2.2.1.fr (fun k h1 h2 => fc k (by omega) (by omega) (by omega) (by omega)), by rw [fc 38 (by decide) (by decide) (by decide) (by decide)]; exact l.nn.2⟩
    simp only [u158_0, u158_1, u158_4, u158_6, u158_9, u158_11, u158_12, u158_13, u158_14, u158_15, e158, q_push_s, q_push_n, q_sm_0, q_sm_i, q_sm_r, q_sm_n, q_sm_l, q_c1_0, q_c1_i, q_c1_r, q_c1_n, Nat.zero_add, Nat.reduceAdd, Nat.reduceMul, Nat.reduceSub, Nat.reduceLeDiff, Nat.reduceLT, Nat.reduceEqDiff, true_and, and_true, not_false_eq_true, if_true, if_false, ite_true, ite_false, or_true, true_or, or_false, false_or, not_true_eq_false, gf38_5, lr1.mo.nt, e2, q2]
    refine l_live8 (d + 1) (s.1 0) 0 s 0 _ _ _ (of_eq_true q_c1_0) (of_eq_true q_c1_0) (by omega) lr1 (fun m2 y3 y4 f2 l2 => ?_)
    rw [hS] at l2 ⊢
    simp only [u158_109, u158_110, u158_110r, u158_111, u158_114, u158_115, u158_116, u158_119, u158_120, q_push_s, q_push_n, q_sm_0, q_sm_i, q_sm_r, q_sm_n, q_sm_l, q_c1_0, q_c1_i, q_c1_r, q_c1_n, Nat.zero_add, Nat.reduceAdd, Nat.reduceMul, Nat.reduceSub, Nat.reduceLeDiff, Nat.reduceLT, Nat.reduceEqDiff, true_and, and_true, not_false_eq_true, if_true, if_false, ite_true, ite_false, or_true, true_or, or_false, false_or, not_true_eq_false, gf38_5, pf38_5, l2.mo.nt, ent, n_add]
    have hk2 : ∀ k, ¬ (13 ≤ k ∧ k < 15) → ¬ (53 ≤ k ∧ k < 55) → k ≠ 8 → k ≠ 9 → k ≠ 3 → k ≠ 41 → k ≠ 42 → k ≠ 38 → q_up m2 38 5 (nI (s.1 1 + 1)) k = m k := fun k a1 a2 a3 a4 a5 a6 a7 a8 => by rw [q_up_f _ _ _ a8, f2.1 k a8 a2 a6 a7]; exact fc k a1 a3 a4 a5
    have hC : ICl 3 (z_nt A.1) (q_up m2 38 5 (nI (s.1 1 + 1))) := by
      have hm2 : ∀ k, 3 ≤ k → k < 10 → q_up m2 38 5 (nI (s.1 1 + 1)) k = q_up m1 3 1 (nI (s.1 1 + 1)) k := fun k a1 a2 => by rw [q_up_f _ _ _ (by omega), f2.1 k (by omega) (by omega) (by omega) (by omega)]
      refine ⟨fun f hf => ?_, fun r hr g hg => ?_, fun i hi => ?_⟩
      · show _ = nI (if f = 1 then A.1.1 1 + 1 else A.1.1 f)
        rw [hm2 3 (by decide) (by decide)]
        by_cases q3 : f = 1
        · rw [if_pos q3, q3, q_up_eq, ent]
        · rw [if_neg q3, q_up_i _ _ q3]; exact l1.cl.1 f hf
      · rw [hm2 (3 + 1 + r) (by omega) (by omega), q_up_f _ _ _ (by omega)]; exact l1.cl.2.1 r hr g hg
      · rw [hm2 9 (by decide) (by decide), q_up_f _ _ _ (by decide)]; exact l1.cl.2.2 i hi
    have hM : IMo (z_nt A.1) (q_up m2 38 5 (nI (s.1 1 + 1))) := by
      refine ⟨⟨?_, ?_, ?_⟩, ?_, ?_, ?_⟩
      · rw [q_up_i _ _ (by decide)]; exact l2.mo.n
      · rw [q_up_eq, ← ent]; rfl
      · rw [q_up_i _ _ (by decide)]; exact l2.mo.lw
      · rw [q_up_f _ _ _ (by decide), q_up_f _ _ _ (by decide)]; exact l2.mo.2.1
      · rw [q_up_f _ _ _ (by decide)]; exact l2.mo.2.2.1
      · rw [q_up_f _ _ _ (by decide)]; exact l2.mo.2.2.2
    have hB : BZ (z_nt A.1) := ⟨l2.bz.1, ⟨by show A.1.1 1 + 1 ≤ 99; omega, l2.bz.bo⟩, l2.bz.2.2.1, l2.bz.2.2.2⟩
    have hlj : LJ T L xs (z_nt A.1) tx n tp z h wd (q_up m2 38 5 (nI (s.1 1 + 1))) := by
      refine l.st ⟨fun k a1 a2 a3 a4 a5 => ?_, ?_, fun f a1 a2 a3 a4 => ?_⟩ hB (by show A.1.1 2 < n; rw [hz1]; exact l.iw.2.2.1) hC hM (by show s.1 0 ≤ A.1.1 0; rw [hz1]; exact Nat.le_refl _) (fun g hg => ⟨hz2 0 g (by decide), hz2 1 g (by decide)⟩)
      · unfold z_scr at a1
        exact hk2 k (by omega) (by omega) (by omega) (by omega) (by omega) (by omega) (by omega) a5
      · rw [hk2 26 (by decide) (by decide) (by decide) (by decide) (by decide) (by decide) (by decide) (by decide)]
      · rw [q_up_i _ _ a3, f2.2 f a1, fc 38 (by decide) (by decide) (by decide) (by decide)]
    exact hK _ _ _ hlj
  · have q2 : s.1 1 = 99 := by omega
    simp only [u73_0, u73_1, u73_4, u73_7, u73_9, u73_12, u73_14, e73, u158_0, u158_1, u158_4, u158_6, u158_9, u158_11, e158, q_push_s, q_push_n, q_sm_0, q_sm_i, q_sm_r, q_sm_n, q_sm_l, q_c1_0, q_c1_i, q_c1_r, q_c1_n, Nat.zero_add, Nat.reduceAdd, Nat.reduceMul, Nat.reduceSub, Nat.reduceLeDiff, Nat.reduceLT, Nat.reduceEqDiff, true_and, and_true, not_false_eq_true, if_true, if_false, ite_true, ite_false, or_true, true_or, or_false, false_or, not_true_eq_false, gf0_2, gf3_1, gf38_5, l.cl.nt, l.mo.nt, e1, e2, q, q2, eq_self]
    exact hK _ _ _ l
end
