/-! ===== the law's loop ===== -/
section
variable {T : List Nat} {L : Nat} {xs : Nat → Int32} {s : ZS} {tx : Nat → Nat → List Nat} {n : Nat} {tp : Nat → Nat} {z : Nat} {h : ZH} {wd : Nat → Int32} {m : q_M} {i : Nat} {K : Option Value → q_G → q_M → Prop}
theorem y_sm1 (v : Option Value) : q_sm (q_push v []) ≤ 8 := by
  match v with
  | none => exact Nat.zero_le 8
  | some w =>
    show q_sm (w :: []) ≤ 8
    cases w <;> first | exact (by decide) | (simp [q_sm])
theorem y_sh905 (hT : T.length ≤ 5) : (GG T L).1 905 = .inl L := (sh900 hT (by decide)).trans (if_pos rfl)
theorem y_bridge {jc jm : Nat} {ac am : List Value} {P : Option Value → Option Value → q_G → q_M → Prop} {Q : Option Value → q_G → q_M → Prop} (l : LJ T L xs s tx n tp z h wd m)
    (hp : q_C jc 99 ac (GG T L) m (fun v g m => q_C jm 99 am g m (fun v' g m => P v v' g m)))
    (hk : ∀ v g' m', g'.1 905 = .inl L → (∀ j, m' 905 j = xs j) → q_io 8 g' 38 → q_C jm 99 am g' m' (fun v' g m => P v v' g m) → Q v g' m') : q_C jc 99 ac (GG T L) m Q := by
  have hT := l.t
  have hn := l.iw.2.2.2
  have h38 : y_kc 38 8 (GG T L) := ⟨by show 38 < 58 + 2 * T.length; omega, io38.mpr trivial⟩
  refine q_C_mono (y_kc_C h38 hp) (fun v g' m' ⟨h1, h2, h3⟩ => hk v g' m' ?_ (fun j => ?_) h3.2 h1)
  · rw [(h2 905 (by decide)).2]; exact y_sh905 (by omega)
  · rw [(h2 905 (by decide)).1, l.xm 905 (by decide)]; rfl
/-- what the next turn starts from -/
def y_nx (L : Nat) (xs : Nat → Int32) (wd : Nat → Int32) (i : Nat) (K : Option Value → q_G → q_M → Prop) : Prop := ∀ T s tx n tp z h m, LJ T L xs s tx n tp z h wd m → q_R 215 1532 100 [some (.ref 905), some (.ref 0), some (.ref 38), some (.int (nI i))] [] (GG T L) m K
theorem t_count (l : LJ T L xs s tx n tp z h wd m) (hi : i + 7 ≤ L) (hL : L ≤ 4000) (hN : y_nx L xs wd i K) : q_R 215 208 100 [some (.ref 905), some (.ref 0), some (.ref 38), some (.int (nI i))] [] (GG T L) m K := by
  have h905 : (GG T L).1 905 = .inl L := y_sh905 (by have := l.t; have := l.iw.2.2.2; omega)
  have hx : ∀ j, m 905 j = xs j := fun j => by rw [l.xm 905 (by decide)]; rfl
  simp only [u215_208, u215_208n, u215_209, u215_209n, u215_210, u215_211, u215_212, u215_213, u215_214, q_push_s, q_push_n, q_sm_0, q_sm_i, q_sm_r, q_sm_n, q_sm_l, q_c1_0, q_c1_i, q_c1_r, q_c1_n, Nat.zero_add, Nat.reduceAdd, Nat.reduceMul, Nat.reduceSub, Nat.reduceLeDiff, Nat.reduceLT, Nat.reduceEqDiff, true_and, and_true, not_false_eq_true, if_true, if_false, ite_true, ite_false, or_true, true_or, or_false, false_or, not_true_eq_false, n_add, ia_g h905 (by decide) (show L < 2 ^ 31 by omega) (show i + 1 < L by omega), hx, io0]
  refine y_bridge l (p_count (d := 99) l _ (K := fun v v' g m => q_R 215 226 100 [some (.ref 905), some (.ref 0), some (.ref 38), some (.int (nI i))] (q_push v' (q_push v [])) g m K) (fun r m' l' => ?_)) (fun v g' m' g9 x9 g38 hC => ?_)
  · simp only [u215_226, q_push_s, q_push_n, q_sm_0, q_sm_i, q_sm_r, q_sm_n, q_sm_l, q_c1_0, q_c1_i, q_c1_r, q_c1_n, Nat.zero_add, Nat.reduceAdd, Nat.reduceMul, Nat.reduceSub, Nat.reduceLeDiff, Nat.reduceLT, Nat.reduceEqDiff, true_and, and_true, not_false_eq_true, if_true, if_false, ite_true, ite_false, or_true, true_or, or_false, false_or, not_true_eq_false]
    exact hN _ _ _ _ _ _ _ _ l'
  · simp only [u215_217, u215_217n, u215_218, u215_218n, u215_219, u215_220, u215_221, u215_222, u215_223, n_add, ia_g g9 (by decide) (show L < 2 ^ 31 by omega) (show i + 1 < L by omega), x9]
    exact ⟨y_sm1 v, g38, hC⟩
end
