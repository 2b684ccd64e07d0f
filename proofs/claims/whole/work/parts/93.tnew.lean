/-! ===== a text more: both sides ===== -/
section
variable {T : List Nat} {L d : Nat} {xs : Nat → Int32} {s : ZS} {tx : Nat → Nat → List Nat} {n : Nat} {tp : Nat → Nat} {z : Nat} {h : ZH} {wd : Nat → Int32} {m m' : q_M} {c0 c1 c2 : List Nat} {S : Nat → Int32}
theorem y_tx_n {t : Nat} (ht : t ≠ n) : y_tx tx n c0 c1 c2 t = tx t := by
  funext p
  unfold y_tx
  rw [if_neg ht]
theorem y_off0 : z_off (y_tx tx n c0 c1 c2 n) 0 = 0 := rfl
theorem y_txn0 : y_tx tx n c0 c1 c2 n 0 = c0 := by unfold y_tx; rw [if_pos rfl, if_pos rfl]
theorem y_txn1 : y_tx tx n c0 c1 c2 n 1 = c1 := by unfold y_tx; rw [if_pos rfl, if_neg (by decide), if_pos rfl]
theorem y_txn2 : y_tx tx n c0 c1 c2 n 2 = c2 := by unfold y_tx; rw [if_pos rfl, if_neg (by decide), if_neg (by decide)]
theorem y_off1 : z_off (y_tx tx n c0 c1 c2 n) 1 = c0.length := by
  show z_off (y_tx tx n c0 c1 c2 n) 0 + (y_tx tx n c0 c1 c2 n 0).length = _
  rw [y_off0, y_txn0, Nat.zero_add]
theorem y_off2 : z_off (y_tx tx n c0 c1 c2 n) 2 = c0.length + c1.length := by
  show z_off (y_tx tx n c0 c1 c2 n) 1 + (y_tx tx n c0 c1 c2 n 1).length = _
  rw [y_off1, y_txn1]
theorem y_off3 : z_off (y_tx tx n c0 c1 c2 n) 3 = c0.length + c1.length + c2.length := by
  show z_off (y_tx tx n c0 c1 c2 n) 2 + (y_tx tx n c0 c1 c2 n 2).length = _
  rw [y_off2, y_txn2]
theorem LJ.tnew (l : LJ T L xs s tx n tp z h wd m) (hn : n ≤ 5) (f1 : ∀ k, k ≠ 2 → k ≠ 26 → k ≠ 28 → k ≠ 38 → k ≠ 44 → k ≠ 45 → k ≠ 52 → k ≠ 58 + 2 * T.length → k ≠ 58 + 2 * T.length + 1 → m' k = m k) (f38 : ∀ f, f < 21 → f ≠ 7 → f ≠ 10 → m' 38 f = m 38 f) (h44 : ∀ i, i < 200 * n → m' 44 i = m 44 i) (h45 : ∀ i, i < 4 * n → m' 45 i = m 45 i) (e26 : m' 26 1 = nI 0) (e7 : m' 38 7 = nI 0) (e10 : m' 38 10 = nI (n + 1)) (e23 : m' 2 3 = nI (n + 1))
    (r0 : z_rp c0 0 1) (r1 : z_rp c1 0 1) (r2 : z_rp c2 0 1) (hl : c0.length + c1.length + c2.length ≤ 157)
    (x45 : m' 45 (4 * n) = nI 0 ∧ m' 45 (4 * n + 1) = nI c0.length ∧ m' 45 (4 * n + 2) = nI (c0 ++ c1).length ∧ m' 45 (4 * n + 3) = nI (c0 ++ c1 ++ c2).length) (xcd : y_cd n (c0 ++ c1 ++ c2) m')
    (xS : ∀ x, x < c0.length + c1.length + c2.length + 3 → m' (58 + 2 * T.length + 1) x = S x) (xP1 : m' (58 + 2 * T.length) 1 = nI (c0.length + 1)) (xP2 : m' (58 + 2 * T.length) 2 = nI (c0.length + c1.length + 2))
    (S0 : ∀ i (hi : i < c0.length), S i = z_cc c0[i]) (E0 : S c0.length = (-20 : Int32)) (S1 : ∀ i (hi : i < c1.length), S (c0.length + 1 + i) = z_cc c1[i]) (E1 : S (c0.length + 1 + c1.length) = (-20 : Int32)) (S2 : ∀ i (hi : i < c2.length), S (c0.length + 1 + c1.length + 1 + i) = z_cc c2[i]) (E2 : S (c0.length + 1 + c1.length + 1 + c2.length) = (-20 : Int32)) :
    LJ (T ++ [c0.length + c1.length + c2.length + 3]) L xs s (y_tx tx n c0 c1 c2) (n + 1) tp 0 h wd m' := by
  have hT := l.t
  have fk : ∀ k, k ≠ 2 ∧ k ≠ 26 ∧ k ≠ 28 ∧ k ≠ 38 ∧ k ≠ 44 ∧ k ≠ 45 ∧ k ≠ 52 ∧ k ≠ 58 + 2 * T.length ∧ k ≠ 58 + 2 * T.length + 1 → m' k = m k := fun k hk => f1 k hk.1 hk.2.1 hk.2.2.1 hk.2.2.2.1 hk.2.2.2.2.1 hk.2.2.2.2.2.1 hk.2.2.2.2.2.2.1 hk.2.2.2.2.2.2.2.1 hk.2.2.2.2.2.2.2.2
  have hx3 := l.tm.fr3 (m' := m') l.iw.2.1 h44 h45
  have hpln : z_pl n = 58 + 2 * T.length := by unfold z_pl; rw [if_neg (by omega)]; omega
  have hpsn : z_ps n = 58 + 2 * T.length + 1 := by unfold z_ps; rw [if_neg (by omega)]; omega
  have p3 : ∀ p, p < 3 → p = 0 ∨ p = 1 ∨ p = 2 := fun p hp => by omega
  refine ⟨⟨⟨l.bz, fun t ht => ?_, by have := l.iw.2.2.1; omega, by omega⟩, by rw [List.length_append]; show T.length + 1 + 1 = _; omega, fun x hx => ?_⟩, ⟨l.cl.fr (fun k h1 h2 => fk k (by omega)), l.mo.fr (f38 0 (by decide) (by decide) (by decide)) (f38 5 (by decide) (by decide) (by decide)) (f38 11 (by decide) (by decide) (by decide)) (fun k h1 h2 => fk k (by omega))⟩, ⟨fun t ht => ?_, fun t ht => ?_⟩, ⟨e23, e10⟩, ⟨by decide, e26, e7, fun i hi => absurd hi (Nat.not_lt_zero i)⟩, ?_, ?_, fun k hk => (fk k (by omega)).trans (l.xm k hk), fun i hi => by rw [fk 51 (by omega)]; exact l.wds i hi⟩
  · by_cases q : t = n
    · subst q
      rw [y_off3]
      refine ⟨hl, fun p hp => ?_⟩
      rcases p3 p hp with rfl | rfl | rfl
      · rw [y_txn0]; exact r0
      · rw [y_txn1]; exact r1
      · rw [y_txn2]; exact r2
    · rw [y_tx_n q]; exact l.iw.2.1 t (by omega)
  · rw [List.mem_append] at hx
    rcases hx with hx | hx
    · exact l.1.2.2 x hx
    · rw [List.mem_singleton] at hx; omega
  · by_cases q : t = n
    · subst q
      rw [hpln, hpsn, y_off1, y_off2, y_off3]
      refine ⟨?_, ?_, xP1, xP2, fun p hp => ?_⟩
      · rw [← g3_up]
        show va_up (y_g3 T L _).1 12 _ _ = _
        rw [va_up_n _ _ (by omega)]
        exact g3_P1
      · rw [← g3_up]
        show va_up (y_g3 T L _).1 12 _ _ = _
        rw [va_up_n _ _ (by omega)]
        exact g3_P
      · rcases p3 p hp with rfl | rfl | rfl
        · rw [y_off0, y_off1, y_txn0]
          refine ⟨by rw [xS _ (by omega)]; exact E0, fun i hi => ?_⟩
          rw [xS _ (by omega), show 0 + 0 + i = i by omega]
          exact S0 i hi
        · rw [y_off1, y_off2, y_txn1]
          refine ⟨by rw [xS _ (by omega), show c0.length + c1.length + 1 = c0.length + 1 + c1.length by omega]; exact E1, fun i hi => ?_⟩
          rw [xS _ (by omega)]
          exact S1 i hi
        · rw [y_off2, y_off3, y_txn2]
          refine ⟨by rw [xS _ (by omega), show c0.length + c1.length + c2.length + 2 = c0.length + 1 + c1.length + 1 + c2.length by omega]; exact E2, fun i hi => ?_⟩
          rw [xS _ (by omega), show c0.length + c1.length + 2 + i = c0.length + 1 + c1.length + 1 + i by omega]
          exact S2 i hi
    · obtain ⟨t1, t2, t3, t4, t5⟩ := l.tc t (by omega)
      have b1 : z_pl t ≠ 12 ∧ z_pl t ≠ 58 + 2 * T.length ∧ z_pl t ≠ 58 + 2 * T.length + 1 ∧ z_pl t ≠ 2 ∧ z_pl t ≠ 26 ∧ z_pl t ≠ 28 ∧ z_pl t ≠ 38 ∧ z_pl t ≠ 44 ∧ z_pl t ≠ 45 ∧ z_pl t ≠ 52 := by unfold z_pl; split <;> omega
      have b2 : z_ps t ≠ 12 ∧ z_ps t ≠ 58 + 2 * T.length ∧ z_ps t ≠ 58 + 2 * T.length + 1 ∧ z_ps t ≠ 2 ∧ z_ps t ≠ 26 ∧ z_ps t ≠ 28 ∧ z_ps t ≠ 38 ∧ z_ps t ≠ 44 ∧ z_ps t ≠ 45 ∧ z_ps t ≠ 52 := by unfold z_ps; split <;> omega
      rw [y_tx_n q, gg_app b2.1 b2.2.1 b2.2.2.1, gg_app b1.1 b1.2.1 b1.2.2.1, fk (z_pl t) (by omega), fk (z_ps t) (by omega)]
      exact ⟨t1, t2, t3, t4, t5⟩
  · by_cases q : t = n
    · subst q
      refine ⟨fun p hp => ?_, fun p hp i hi => ?_⟩
      · have p4 : p = 0 ∨ p = 1 ∨ p = 2 ∨ p = 3 := by omega
        rcases p4 with rfl | rfl | rfl | rfl
        · exact x45.1
        · rw [y_off1]; exact x45.2.1
        · rw [y_off2, x45.2.2.1, List.length_append]
        · rw [y_off3, x45.2.2.2, List.length_append, List.length_append]
      · have key : ∀ j (hj : j < (c0 ++ c1 ++ c2).length) v, (c0 ++ c1 ++ c2)[j]? = some v → m' 44 (200 * t + j) = nI v := fun j hj v hv => by
          rw [xcd j hj]
          rw [List.getElem?_eq_getElem hj] at hv
          rw [Option.some.inj hv]
        rcases p3 p hp with rfl | rfl | rfl
        · have hi' : i < c0.length := by rw [y_txn0] at hi; exact hi
          rw [y_off0, Nat.zero_add]
          refine key i (by simp only [List.length_append]; omega) _ ?_
          rw [List.getElem?_append_left (by simp only [List.length_append]; omega), List.getElem?_append_left hi', List.getElem?_eq_getElem hi']
          congr 1
          simp only [y_txn0]
        · have hi' : i < c1.length := by rw [y_txn1] at hi; exact hi
          rw [y_off1]
          refine key _ (by simp only [List.length_append]; omega) _ ?_
          rw [List.getElem?_append_left (by simp only [List.length_append]; omega), List.getElem?_append_right (by omega), Nat.add_sub_cancel_left, List.getElem?_eq_getElem hi']
          congr 1
          simp only [y_txn1]
        · have hi' : i < c2.length := by rw [y_txn2] at hi; exact hi
          rw [y_off2]
          refine key _ (by simp only [List.length_append]; omega) _ ?_
          rw [List.getElem?_append_right (by simp only [List.length_append]; omega), show c0.length + c1.length + i - (c0 ++ c1).length = i by simp only [List.length_append]; omega, List.getElem?_eq_getElem hi']
          congr 1
          simp only [y_txn2]
    · obtain ⟨t1, t2⟩ := hx3 t (by omega)
      rw [y_tx_n q]
      exact ⟨t1, t2⟩
  · exact IIm.n1 (l.im.fr (Nat.le_refl _) (fun g _ => ⟨rfl, rfl⟩) (by rw [fk 0 (by omega)]) (fun f h1 h2 => f38 f (by omega) (by omega) (by omega)) (fun p h1 h2 => fk p (by omega)) (fk 46 (by omega)))
  · exact l.sh.fr (fun p h1 h2 => fk p (by omega)) (fk 47 (by omega)) (fk 48 (by omega)) (fk 49 (by omega))
end
