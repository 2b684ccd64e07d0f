/-! ===== laws ===== -/
theorem z_lw_lw (s : ZS) (x t : Nat) : z_lw (z_lw s x) t = z_lw s t := by
  unfold z_lw
  refine Prod.ext ?_ rfl
  funext f
  show (if f = 2 then t else if f = 2 then x else s.1 f) = (if f = 2 then t else s.1 f)
  by_cases q : f = 2
  · rw [if_pos q, if_pos q]
  · rw [if_neg q, if_neg q, if_neg q]
theorem z_lw_id (s : ZS) : z_lw s (s.1 2) = s := by
  unfold z_lw
  refine Prod.ext ?_ rfl
  funext f
  show (if f = 2 then s.1 2 else s.1 f) = s.1 f
  by_cases q : f = 2
  · rw [if_pos q, q]
  · rw [if_neg q]
section
variable {T : List Nat} {L : Nat} {s : ZS} {tx : Nat → Nat → List Nat} {n : Nat} {h : ZH} {m m' : q_M} {K : Option Value → q_G → q_M → Prop}
theorem CJ.lw {x t : Nat} (l : CJ T L (z_lw s x) tx n h m) (ht : t < n) : CJ T L (z_lw s t) tx n h (q_up m 3 2 (nI t)) := by
  have hn := l.1.2.2.2
  have hC := l.cl.lwTo (m' := q_up m 3 2 (nI t)) (t := t) (fun k h1 h2 => q_up_f _ _ _ (by omega)) (q_up_eq _ _ _ _) (fun f hf => q_up_i _ _ (by omega) _)
  have hB := l.bz.lwTo (t := t) (by omega)
  rw [z_lw_lw] at hC hB
  exact l.to hB ht hC (fun k h1 h2 => q_up_f _ _ _ (by omega))
theorem RJ.lw {x t : Nat} (l : RJ (z_lw s x) tx n h m) (ht : t < n) : RJ (z_lw s t) tx n h (q_up m 38 11 (nI t)) := by
  have hn := l.1.2.2.2
  have hB := l.bz.lwTo (t := t) (by omega)
  rw [z_lw_lw] at hB
  refine l.to hB ht ⟨⟨?_, ?_, ?_⟩, ?_, ?_, ?_⟩ (fun k h1 h2 h3 => q_up_f _ _ _ h1) (q_up_i _ _ (by decide) _)
  · rw [q_up_i _ _ (by decide)]; exact l.mo.n
  · rw [q_up_i _ _ (by decide)]; exact l.mo.nt
  · exact q_up_eq _ _ _ _
  · rw [q_up_f _ _ _ (by decide), q_up_f _ _ _ (by decide)]; exact l.mo.2.1
  · rw [q_up_f _ _ _ (by decide)]; exact l.mo.2.2.1
  · rw [q_up_f _ _ _ (by decide)]; exact l.mo.2.2.2
def z_ull (tx : Nat → Nat → List Nat) (s : ZS) (h : ZH) (k g t : Nat) : Bool := z_ul0 tx (z_lw s t) h k g
theorem z_ullT {tx : Nat → Nat → List Nat} {s : ZS} {h : ZH} {k g t : Nat} : z_ull tx s h k g t = true ↔ z_ul tx (z_lw s t) h k g = (-1 : Int32) := decide_eq_true_iff
/-- the law alone may be another -/
def FCl (m m' : q_M) : Prop := (∀ k, ¬ (13 ≤ k ∧ k < 15) → k ≠ 3 → m' k = m k) ∧ ∀ f, f ≠ 2 → m' 3 f = m 3 f
def FMl (m m' : q_M) : Prop := (∀ k, k ≠ 38 → ¬ (53 ≤ k ∧ k < 55) → m' k = m k) ∧ ∀ f, f < 21 → f ≠ 11 → m' 38 f = m 38 f
theorem FCl.trans {a b c : q_M} (h : FCl a b) (h' : FCl b c) : FCl a c := ⟨fun k h1 h2 => (h'.1 k h1 h2).trans (h.1 k h1 h2), fun f hf => (h'.2 f hf).trans (h.2 f hf)⟩
theorem FMl.trans {a b c : q_M} (h : FMl a b) (h' : FMl b c) : FMl a c := ⟨fun k h1 h2 => (h'.1 k h1 h2).trans (h.1 k h1 h2), fun f h1 h2 => (h'.2 f h1 h2).trans (h.2 f h1 h2)⟩
theorem FC.l {a b : q_M} (h : FC a b) : FCl a b := ⟨fun k hk _ => h k hk, fun f _ => by rw [h 3 (by decide)]⟩
theorem FM.l {a b : q_M} (h : FM a b) : FMl a b := ⟨h.1, fun f hf _ => h.2 f hf⟩
theorem FCl.up (v : Int32) (m : q_M) : FCl m (q_up m 3 2 v) := ⟨fun k _ hp => q_up_f _ _ _ hp, fun f hf => q_up_i _ _ hf _⟩
theorem FMl.up (v : Int32) (m : q_M) : FMl m (q_up m 38 11 v) := ⟨fun k h1 _ => q_up_f _ _ _ h1, fun f _ hf => q_up_i _ _ hf _⟩
theorem l_laws {k gu : Nat} (hk : k < 4) (hgd : z_good s h k) (hg : gu < s.1 0) (x3 : Option Value) (x4 : Int32) (d : Nat) : ∀ c v m b x, v + c = n → CJ T L (z_lw s x) tx n h m → (∀ m' x', FCl m m' → CJ T L (z_lw s x') tx n h m' → q_R 87 87 (d + 6) [some (.ref 0), some (.int (nI k)), some (.int (nI gu)), x3, some (.int x4), some (.int (z_bt (z_ull tx s h k gu) c v b)), some (.int (nI n))] [] (GG T L) m' K) →
    q_R 87 41 (d + 6) [some (.ref 0), some (.int (nI k)), some (.int (nI gu)), x3, some (.int x4), some (.int b), some (.int (nI v))] [] (GG T L) m K
  | 0, v, m, b, x, hc, l, hK => by
    have hn := l.1.2.2.2
    have hv : v = n := by omega
    subst hv
    simp only [u87_41, u87_43, u87_44, u87_47, u87_50, q_push_s, q_push_n, q_sm_0, q_sm_i, q_sm_r, q_sm_n, q_sm_l, q_c1_0, q_c1_i, q_c1_r, q_c1_n, Nat.zero_add, Nat.reduceAdd, Nat.reduceMul, Nat.reduceSub, Nat.reduceLeDiff, Nat.reduceLT, Nat.reduceEqDiff, true_and, and_true, not_false_eq_true, if_true, if_false, ite_true, ite_false, or_true, true_or, or_false, false_or, not_true_eq_false, gf0_1, gf2_3, l.2.2.2.2.2.2, n_lt (i := v) (j := v) (by omega) (by omega), Nat.lt_irrefl]
    exact hK m x ⟨fun _ _ _ => rfl, fun _ _ => rfl⟩ l
  | c + 1, v, m, b, x, hc, l, hK => by
    have hn := l.1.2.2.2
    have hlt : v < n := by omega
    have l2 := l.lw hlt
    rw [u87_41]
    simp only [u87_43, u87_44, u87_47, u87_50, u87_53, u87_54, u87_57, u87_59, u87_62, u87_63, u87_64, u87_65, q_push_s, q_push_n, q_sm_0, q_sm_i, q_sm_r, q_sm_n, q_sm_l, q_c1_0, q_c1_i, q_c1_r, q_c1_n, Nat.zero_add, Nat.reduceAdd, Nat.reduceMul, Nat.reduceSub, Nat.reduceLeDiff, Nat.reduceLT, Nat.reduceEqDiff, true_and, and_true, not_false_eq_true, if_true, if_false, ite_true, ite_false, or_true, true_or, or_false, false_or, not_true_eq_false, gf0_1, gf0_2, gf2_3, pf3_2, l.2.2.2.2.2.2, n_lt (i := v) (j := n) (by omega) (by omega), hlt, io0, Nat.zero_le, Nat.reduceLeDiff]
    refine l2.fo hk (z_good_s (s' := z_lw s v) rfl hgd) hg (fun m1 f1 l1 => ?_)
    have ft := (FCl.up (nI v) m).trans f1.l
    simp only [u87_68, u87_69, u87_72, u87_74, u87_75, u87_77, u87_78, u87_79, u87_81, u87_84, q_push_s, q_push_n, q_sm_0, q_sm_i, q_sm_r, q_sm_n, q_sm_l, q_c1_0, q_c1_i, q_c1_r, q_c1_n, Nat.zero_add, Nat.reduceAdd, Nat.reduceMul, Nat.reduceSub, Nat.reduceLeDiff, Nat.reduceLT, Nat.reduceEqDiff, true_and, and_true, not_false_eq_true, if_true, if_false, ite_true, ite_false, or_true, true_or, or_false, false_or, not_true_eq_false, n_add]
    unfold z_bt at hK
    by_cases q : z_ul tx (z_lw s v) h k gu = (-1 : Int32)
    · rw [if_pos (z_ullT.mpr q)] at hK
      rw [if_pos q]
      exact l_laws hk hgd hg x3 x4 d c (v + 1) m1 _ v (by omega) l1 (fun m' x' f' l' => hK m' x' (ft.trans f') l')
    · rw [if_neg (fun e => q (z_ullT.mp e))] at hK
      rw [if_neg q]
      exact l_laws hk hgd hg x3 x4 d c (v + 1) m1 _ v (by omega) l1 (fun m' x' f' l' => hK m' x' (ft.trans f') l')
theorem l_laws8 {k gu : Nat} (hk : k < 4) (hgd : z_good s h k) (hg : gu < s.1 0) (x3 : Option Value) (x4 : Int32) (d : Nat) : ∀ c v m b x, v + c = n → RJ (z_lw s x) tx n h m → (∀ m' x', FMl m m' → RJ (z_lw s x') tx n h m' → q_R 184 69 (d + 6) [some (.ref 38), some (.int (nI k)), some (.int (nI gu)), x3, some (.int x4), some (.int (z_bt (z_ull tx s h k gu) c v b)), some (.int (nI n))] [] (GG T L) m' K) →
    q_R 184 25 (d + 6) [some (.ref 38), some (.int (nI k)), some (.int (nI gu)), x3, some (.int x4), some (.int b), some (.int (nI v))] [] (GG T L) m K
  | 0, v, m, b, x, hc, l, hK => by
    have hn := l.1.2.2.2
    have hv : v = n := by omega
    subst hv
    simp only [u184_25, u184_27, u184_28, u184_31, q_push_s, q_push_n, q_sm_0, q_sm_i, q_sm_r, q_sm_n, q_sm_l, q_c1_0, q_c1_i, q_c1_r, q_c1_n, Nat.zero_add, Nat.reduceAdd, Nat.reduceMul, Nat.reduceSub, Nat.reduceLeDiff, Nat.reduceLT, Nat.reduceEqDiff, true_and, and_true, not_false_eq_true, if_true, if_false, ite_true, ite_false, or_true, true_or, or_false, false_or, not_true_eq_false, gf38_10, l.2.2.2.2, n_lt (i := v) (j := v) (by omega) (by omega), Nat.lt_irrefl]
    exact hK m x ⟨fun _ _ _ => rfl, fun _ _ _ => rfl⟩ l
  | c + 1, v, m, b, x, hc, l, hK => by
    have hn := l.1.2.2.2
    have hlt : v < n := by omega
    have l2 := l.lw hlt
    rw [u184_25]
    simp only [u184_27, u184_28, u184_31, u184_34, u184_35, u184_37, u184_40, u184_42, u184_43, u184_44, u184_45, q_push_s, q_push_n, q_sm_0, q_sm_i, q_sm_r, q_sm_n, q_sm_l, q_c1_0, q_c1_i, q_c1_r, q_c1_n, Nat.zero_add, Nat.reduceAdd, Nat.reduceMul, Nat.reduceSub, Nat.reduceLeDiff, Nat.reduceLT, Nat.reduceEqDiff, true_and, and_true, not_false_eq_true, if_true, if_false, ite_true, ite_false, or_true, true_or, or_false, false_or, not_true_eq_false, gf38_10, pf38_11, l.2.2.2.2, n_lt (i := v) (j := n) (by omega) (by omega), hlt, io38, Nat.zero_le, Nat.reduceLeDiff]
    refine l2.ul hk (z_good_s (s' := z_lw s v) rfl hgd) hg (fun m1 f1 l1 => ?_)
    have ft := (FMl.up (nI v) m).trans f1.l
    simp only [u184_48, u184_49, u184_52, u184_53, u184_55, u184_56, u184_59, u184_60, u184_61, u184_63, u184_66, q_push_s, q_push_n, q_sm_0, q_sm_i, q_sm_r, q_sm_n, q_sm_l, q_c1_0, q_c1_i, q_c1_r, q_c1_n, Nat.zero_add, Nat.reduceAdd, Nat.reduceMul, Nat.reduceSub, Nat.reduceLeDiff, Nat.reduceLT, Nat.reduceEqDiff, true_and, and_true, not_false_eq_true, if_true, if_false, ite_true, ite_false, or_true, true_or, or_false, false_or, not_true_eq_false, n_add, n_or0]
    unfold z_bt at hK
    by_cases q : z_ul tx (z_lw s v) h k gu = (-1 : Int32)
    · rw [if_pos (z_ullT.mpr q)] at hK
      rw [if_pos q]
      exact l_laws8 hk hgd hg x3 x4 d c (v + 1) m1 _ v (by omega) l1 (fun m' x' f' l' => hK m' x' (ft.trans f') l')
    · rw [if_neg (fun e => q (z_ullT.mp e))] at hK
      rw [if_neg q]
      exact l_laws8 hk hgd hg x3 x4 d c (v + 1) m1 _ v (by omega) l1 (fun m' x' f' l' => hK m' x' (ft.trans f') l')
end
section
variable {T : List Nat} {L d : Nat} {xs : Nat → Int32} {s : ZS} {tx : Nat → Nat → List Nat} {n : Nat} {tp : Nat → Nat} {z : Nat} {h : ZH} {wd : Nat → Int32} {m m1 m2 : q_M} {K : Option Value → Option Value → q_G → q_M → Prop}
theorem LJ.bcl (l : LJ T L xs s tx n tp z h wd m) (f : FCl m m1) (lc : CJ T L s tx n h m1) : LJ T L xs s tx n tp z h wd m1 :=
  l.st (FS.of (fun k h1 h2 h3 => f.1 k (fun q => h1 (Or.inl ⟨q.1, by omega⟩)) (by omega))) l.bz l.iw.2.2.1 lc.cl (l.mo.fr (by rw [f.1 38 (by decide) (by decide)]) (by rw [f.1 38 (by decide) (by decide)]) (by rw [f.1 38 (by decide) (by decide)]) (fun k h1 h2 => f.1 k (by omega) (by omega))) (Nat.le_refl _) (fun g _ => ⟨rfl, rfl⟩)
theorem LJ.bml (l : LJ T L xs s tx n tp z h wd m) (f : FMl m m1) (lr : RJ s tx n h m1) : LJ T L xs s tx n tp z h wd m1 :=
  l.st ⟨fun k h1 h2 h3 h4 h5 => f.1 k h5 (fun q => h1 (Or.inr (Or.inr ⟨by omega, by omega⟩))), by rw [f.1 26 (by decide) (by decide)], fun f' hf _ _ h11 => f.2 f' hf h11⟩ l.bz l.iw.2.2.1 (l.cl.fr (fun k h1 h2 => f.1 k (by omega) (by omega))) lr.mo (Nat.le_refl _) (fun g _ => ⟨rfl, rfl⟩)
theorem p_laws (l : LJ T L xs s tx n tp z h wd m) (a b : Int32) (hK : ∀ r m', LJ T L xs s tx n tp z h wd m' → K (some (.int r)) (some (.int r)) (GG T L) m') :
    q_C 87 (d + 6) [.ref 0, .int a, .int b] (GG T L) m (fun v g m => q_C 184 (d + 6) [.ref 38, .int a, .int b] g m (fun v' g m => K v v' g m)) := by
  have lc := l.cj
  have lr := l.rj
  have h6 := l.bz.1
  have hlw := l.iw.2.2.1
  by_cases hr : z_rfv s h a = nI 0
  · by_cases hb : z_is b (s.1 0)
    · obtain ⟨k, hk, rfl, hgd⟩ := z_rfv_0 hr
      obtain ⟨gu, hg, rfl⟩ := z_is_n hb
      have l0 : CJ T L (z_lw s (s.1 2)) tx n h m := by rw [z_lw_id]; exact lc
      simp only [u87_0, u87_1, u87_2, u87_5, u87_6, u87_7, u87_10, u87_11, u87_12, u87_13, u87_16, u87_17, u87_20, u87_23, u87_25, u87_26, u87_27, u87_30, u87_33, u87_35, u87_36, u87_38, u87_39, e87, q_push_s, q_push_n, q_sm_0, q_sm_i, q_sm_r, q_sm_n, q_sm_l, q_c1_0, q_c1_i, q_c1_r, q_c1_n, Nat.zero_add, Nat.reduceAdd, Nat.reduceMul, Nat.reduceSub, Nat.reduceLeDiff, Nat.reduceLT, Nat.reduceEqDiff, true_and, and_true, not_false_eq_true, if_true, if_false, ite_true, ite_false, or_true, true_or, or_false, false_or, not_true_eq_false, gf0_2, gf3_2, io0, io3, lc.refusal, hr, lc.has, hb, z_b_z, l.cl.lw, Nat.zero_le, Nat.reduceLeDiff]
      refine l_laws hk hgd hg _ _ d n 0 m _ _ (by omega) l0 (fun m1 x' f1 l1 => ?_)
      simp only [u87_87, u87_88, u87_91, u87_93, u87_96, u87_98, q_push_s, q_push_n, q_sm_0, q_sm_i, q_sm_r, q_sm_n, q_sm_l, q_c1_0, q_c1_i, q_c1_r, q_c1_n, Nat.zero_add, Nat.reduceAdd, Nat.reduceMul, Nat.reduceSub, Nat.reduceLeDiff, Nat.reduceLT, Nat.reduceEqDiff, true_and, and_true, not_false_eq_true, if_true, if_false, ite_true, ite_false, or_true, true_or, or_false, false_or, not_true_eq_false, gf0_2, pf3_2]
      have l2 := l1.lw hlw
      rw [z_lw_id] at l2
      have lj2 := l.bcl (f1.trans (FCl.up (nI (s.1 2)) m1)) l2
      have lr2 := lj2.rj
      simp only [u184_0, u184_1, u184_2, u184_3, u184_6, u184_7, u184_8, u184_11, u184_12, u184_13, u184_14, u184_17, u184_19, u184_20, u184_22, u184_23, e184, q_push_s, q_push_n, q_sm_0, q_sm_i, q_sm_r, q_sm_n, q_sm_l, q_c1_0, q_c1_i, q_c1_r, q_c1_n, Nat.zero_add, Nat.reduceAdd, Nat.reduceMul, Nat.reduceSub, Nat.reduceLeDiff, Nat.reduceLT, Nat.reduceEqDiff, true_and, and_true, not_false_eq_true, if_true, if_false, ite_true, ite_false, or_true, true_or, or_false, false_or, not_true_eq_false, io38, lr2.toldWrong, hr, hb, z_pick_t, gf38_11, lj2.mo.lw, Nat.zero_le, Nat.reduceLeDiff]
      have l02 : RJ (z_lw s (s.1 2)) tx n h (q_up m1 3 2 (nI (s.1 2))) := by rw [z_lw_id]; exact lr2
      refine l_laws8 hk hgd hg _ _ d n 0 _ _ _ (by omega) l02 (fun m3 x' f3 l3 => ?_)
      simp only [u184_69, u184_70, u184_72, u184_75, u184_77, q_push_s, q_push_n, q_sm_0, q_sm_i, q_sm_r, q_sm_n, q_sm_l, q_c1_0, q_c1_i, q_c1_r, q_c1_n, Nat.zero_add, Nat.reduceAdd, Nat.reduceMul, Nat.reduceSub, Nat.reduceLeDiff, Nat.reduceLT, Nat.reduceEqDiff, true_and, and_true, not_false_eq_true, if_true, if_false, ite_true, ite_false, or_true, true_or, or_false, false_or, not_true_eq_false, pf38_11]
      have l4 := l3.lw hlw
      rw [z_lw_id] at l4
      exact hK _ _ (lj2.bml (f3.trans (FMl.up _ m3)) l4)
    · have e5 : ((-5 : Int32) = nI 0) = False := eq_false (by decide)
      simp only [u87_0, u87_1, u87_2, u87_5, u87_6, u87_7, u87_10, u87_11, u87_12, u87_13, u87_16, u87_17, u87_20, u87_23, u87_25, e87, u184_0, u184_1, u184_2, u184_3, u184_6, u184_7, u184_8, u184_11, u184_12, e184, q_push_s, q_push_n, q_sm_0, q_sm_i, q_sm_r, q_sm_n, q_sm_l, q_c1_0, q_c1_i, q_c1_r, q_c1_n, Nat.zero_add, Nat.reduceAdd, Nat.reduceMul, Nat.reduceSub, Nat.reduceLeDiff, Nat.reduceLT, Nat.reduceEqDiff, true_and, and_true, not_false_eq_true, if_true, if_false, ite_true, ite_false, or_true, true_or, or_false, false_or, not_true_eq_false, gf0_2, io0, io3, io38, lc.refusal, lr.toldWrong, hr, z_pick_f, e5, lc.has, hb, z_b_z, Nat.zero_le, Nat.reduceLeDiff]
      exact hK _ _ l
  · simp only [u87_0, u87_1, u87_2, u87_5, u87_6, u87_7, u87_10, u87_11, e87, u184_0, u184_1, u184_2, u184_3, u184_6, u184_7, u184_8, u184_11, u184_12, e184, q_push_s, q_push_n, q_sm_0, q_sm_i, q_sm_r, q_sm_n, q_sm_l, q_c1_0, q_c1_i, q_c1_r, q_c1_n, Nat.zero_add, Nat.reduceAdd, Nat.reduceMul, Nat.reduceSub, Nat.reduceLeDiff, Nat.reduceLT, Nat.reduceEqDiff, true_and, and_true, not_false_eq_true, if_true, if_false, ite_true, ite_false, or_true, true_or, or_false, false_or, not_true_eq_false, io0, io38, lc.refusal, lr.toldWrong, hr, Nat.zero_le, Nat.reduceLeDiff]
    exact hK _ _ l
end
