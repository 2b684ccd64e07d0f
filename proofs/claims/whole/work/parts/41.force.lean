/-! ===== force ===== -/
section
variable {T : List Nat} {L : Nat} {xs : Nat → Int32} {s : ZS} {tx : Nat → Nat → List Nat} {n : Nat} {tp : Nat → Nat} {z : Nat} {h : ZH} {wd : Nat → Int32} {m : q_M}
/-- the state with another law -/
def z_lw (s : ZS) (t : Nat) : ZS := (fun f => if f = 2 then t else s.1 f, s.2.1, s.2.2)
theorem BZ.lwTo {s : ZS} (hB : BZ s) {t : Nat} (ht : t < 6) : BZ (z_lw s t) := ⟨hB.1, hB.2.1, ht, hB.2.2.2⟩
theorem ICl.lwTo {m' : q_M} {t : Nat} (hC : ICl 3 s m) (h1 : ∀ k, 3 < k → k < 10 → m' k = m k) (h2 : m' 3 2 = nI t) (h3 : ∀ f, f < 2 → m' 3 f = m 3 f) : ICl 3 (z_lw s t) m' := by
  refine ⟨fun f hf => ?_, fun r hr g hg => ?_, fun i hi => ?_⟩
  · by_cases q : f = 2
    · subst q; exact h2
    · rw [h3 f (by omega), hC.1 f hf]
      show nI (s.1 f) = nI (if f = 2 then t else s.1 f)
      rw [if_neg q]
  · rw [h1 (3 + 1 + r) (by omega) (by omega)]; exact hC.2.1 r hr g hg
  · rw [h1 9 (by omega) (by omega)]; exact hC.2.2 i hi
theorem LJ.lwTo (l : LJ T L xs s tx n tp z h wd m) {t : Nat} (ht : t < n) : LJ T L xs (z_lw s t) tx n tp z h wd (q_up (q_up m 3 2 (nI t)) 38 11 (nI t)) := by
  have hn := l.iw.2.2.2
  have fk : ∀ k, k ≠ 3 → k ≠ 38 → q_up (q_up m 3 2 (nI t)) 38 11 (nI t) k = m k := fun k h1 h2 => by rw [q_up_f _ _ _ h2, q_up_f _ _ _ h1]
  have f38 : ∀ f, f ≠ 11 → q_up (q_up m 3 2 (nI t)) 38 11 (nI t) 38 f = m 38 f := fun f hf => by rw [q_up_i _ _ hf, q_up_f _ _ _ (by decide)]
  refine ⟨⟨⟨l.bz.lwTo (by omega), l.iw.2.1, ht, hn⟩, l.1.2⟩, ⟨?_, ?_⟩, ⟨l.tc.fr hn (fun k hk => fk k (by omega) (by omega)), l.tm.fr (fk 44 (by decide) (by decide)) (fk 45 (by decide) (by decide))⟩, ⟨by rw [fk 2 (by decide) (by decide)]; exact l.nn.1, by rw [f38 10 (by decide)]; exact l.nn.2⟩, ?_, ?_, ?_, fun k hk => by rw [fk k (by omega) (by omega)]; exact l.xm k hk, fun i hi => by rw [fk 51 (by decide) (by decide)]; exact l.wds i hi⟩
  · refine l.cl.lwTo (fun k h1 h2 => fk k (by omega) (by omega)) ?_ (fun f hf => ?_)
    · rw [q_up_f _ _ _ (by decide), q_up_eq]
    · rw [q_up_f _ _ _ (by decide), q_up_i _ _ (by omega)]
  · refine ⟨⟨?_, ?_, ?_⟩, ?_, ?_, ?_⟩
    · rw [f38 0 (by decide)]; exact l.mo.n
    · rw [f38 5 (by decide)]; exact l.mo.nt
    · exact q_up_eq _ _ _ _
    · rw [fk 39 (by decide) (by decide), fk 40 (by decide) (by decide)]; exact l.mo.2.1
    · rw [fk 41 (by decide) (by decide)]; exact l.mo.2.2.1
    · rw [fk 42 (by decide) (by decide)]; exact l.mo.2.2.2
  · obtain ⟨t1, t2, t3, t4⟩ := l.tpe
    exact ⟨t1, by rw [fk 26 (by decide) (by decide)]; exact t2, by rw [f38 7 (by decide)]; exact t3, fun i hi => by rw [fk 27 (by decide) (by decide), fk 43 (by decide) (by decide)]; exact t4 i hi⟩
  · have hi := l.im
    unfold IIm at hi ⊢
    rw [fk 0 (by decide) (by decide), f38 12 (by decide), f38 13 (by decide), f38 14 (by decide), f38 15 (by decide), fk 46 (by decide) (by decide)]
    rcases hi with hi | ⟨s', i1, i2, i3, i4, i5, i6, i7, i8⟩
    · exact Or.inl hi
    · exact Or.inr ⟨s', i1, i2, i3, i4, i5, i6, i7.fr2 (fun k h1 h2 => fk k (by omega) (by omega)), i8⟩
  · intro k hk
    rw [fk (30 + 2 * k) (by omega) (by omega), fk 47 (by decide) (by decide), fk 48 (by decide) (by decide), fk (31 + 2 * k) (by omega) (by omega), fk 49 (by decide) (by decide)]
    exact l.sh k hk
theorem p_force {d : Nat} {K : Option Value → Option Value → q_G → q_M → Prop} (l : LJ T L xs s tx n tp z h wd m) (a : Int32) (hK : ∀ r s' m', LJ T L xs s' tx n tp z h wd m' → K (some (.int r)) (some (.int r)) (GG T L) m') :
    q_C 63 (d + 2) [.ref 0, .int a] (GG T L) m (fun v g m => q_C 139 (d + 2) [.ref 38, .int a] g m (fun v' g m => K v v' g m)) := by
  have hn := l.iw.2.2.2
  by_cases ha : z_is a n
  · obtain ⟨t, ht, rfl⟩ := z_is_n ha
    have hp : (¬ nI t < nI 0 ∧ nI t ≤ nI n - nI 1) = True := by rw [z_is_pre (by omega)]; exact eq_true ha
    have hp2 : (nI t ≤ nI n - nI 1) = True := eq_true (of_eq_true hp).2
    simp only [e63, u63_0, u63_1, u63_4, u63_5, u63_6, u63_9, u63_12, u63_15, u63_17, u63_18, u63_19, u63_22, u63_25, u63_26, u63_27, u63_30, u63_31, u63_34, u63_35, e139, u139_0, u139_1, u139_2, u139_3, u139_6, u139_7, u139_8, u139_11, u139_14, u139_16, u139_17, u139_18, u139_21, u139_22, u139_23, u139_24, u139_27, u139_28, q_push_s, q_push_n, q_sm_0, q_sm_i, q_sm_r, q_sm_n, q_sm_l, q_c1_0, q_c1_i, q_c1_r, q_c1_n, Nat.zero_add, Nat.reduceAdd, Nat.reduceMul, Nat.reduceSub, Nat.reduceLeDiff, Nat.reduceLT, Nat.reduceEqDiff, true_and, and_true, not_false_eq_true, if_true, if_false, ite_true, ite_false, or_true, true_or, or_false, false_or, not_true_eq_false, gf0_1, gf0_2, gf2_3, gf3_2, pf3_2, gf38_10, gf38_11, pf38_11, q_up_f, ne_eq, n_lt0 (j := t) (by omega), n_lt (i := t) (j := n) (by omega) (by omega), ht, l.nn.1, l.nn.2, c_in, hp2, z_b_z, l.cl.lw, l.mo.lw, Nat.zero_le]
    exact hK _ _ _ (l.lwTo ht)
  · have hp : (¬ a < nI 0 ∧ a ≤ nI n - nI 1) = False := by rw [z_is_pre (by omega)]; exact eq_false ha
    have hq := z_is_in (v := a) (n := n) (by omega)
    by_cases q : a < nI 0
    · simp only [e63, u63_0, u63_1, u63_4, u63_5, u63_6, u63_9, u63_12, u63_15, u63_17, u63_18, u63_19, u63_22, u63_25, u63_26, u63_27, u63_30, u63_31, u63_34, u63_35, e139, u139_0, u139_1, u139_2, u139_3, u139_6, u139_7, u139_8, u139_11, u139_14, u139_16, u139_17, u139_18, u139_21, u139_22, u139_23, u139_24, u139_27, u139_28, q_push_s, q_push_n, q_sm_0, q_sm_i, q_sm_r, q_sm_n, q_sm_l, q_c1_0, q_c1_i, q_c1_r, q_c1_n, Nat.zero_add, Nat.reduceAdd, Nat.reduceMul, Nat.reduceSub, Nat.reduceLeDiff, Nat.reduceLT, Nat.reduceEqDiff, true_and, and_true, not_false_eq_true, if_true, if_false, ite_true, ite_false, or_true, true_or, or_false, false_or, not_true_eq_false, gf38_10, l.nn.2, c_in, hp, z_b_z, q, Nat.zero_le]
      exact hK _ _ _ l
    · have q2 : (a < nI n) = False := eq_false (fun e => ha (by rw [← hq]; exact ⟨q, e⟩))
      have hp2 : (a ≤ nI n - nI 1) = False := eq_false (fun e => of_eq_false hp ⟨q, e⟩)
      simp only [e63, u63_0, u63_1, u63_4, u63_5, u63_6, u63_9, u63_12, u63_15, u63_17, u63_18, u63_19, u63_22, u63_25, u63_26, u63_27, u63_30, u63_31, u63_34, u63_35, e139, u139_0, u139_1, u139_2, u139_3, u139_6, u139_7, u139_8, u139_11, u139_14, u139_16, u139_17, u139_18, u139_21, u139_22, u139_23, u139_24, u139_27, u139_28, q_push_s, q_push_n, q_sm_0, q_sm_i, q_sm_r, q_sm_n, q_sm_l, q_c1_0, q_c1_i, q_c1_r, q_c1_n, Nat.zero_add, Nat.reduceAdd, Nat.reduceMul, Nat.reduceSub, Nat.reduceLeDiff, Nat.reduceLT, Nat.reduceEqDiff, true_and, and_true, not_false_eq_true, if_true, if_false, ite_true, ite_false, or_true, true_or, or_false, false_or, not_true_eq_false, gf0_1, gf2_3, gf38_10, l.nn.1, l.nn.2, c_in, hp2, z_b_z, q, q2, Nat.zero_le]
      exact hK _ _ _ l
end
