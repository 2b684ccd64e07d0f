/-! ===== a text more: the shapes ===== -/
theorem q_S58 (T T' : List Nat) (L : Nat) (k : Nat) (hk : k < 58) (h12 : k ≠ 12) : q_S T L k = q_S T' L k := by
  match k, hk, h12 with
  | 0, _, _ => rfl
  | 1, _, _ => rfl
  | 2, _, _ => rfl
  | 3, _, _ => rfl
  | 4, _, _ => rfl
  | 5, _, _ => rfl
  | 6, _, _ => rfl
  | 7, _, _ => rfl
  | 8, _, _ => rfl
  | 9, _, _ => rfl
  | 10, _, _ => rfl
  | 11, _, _ => rfl
  | 12, _, h => exact absurd rfl h
  | 13, _, _ => rfl
  | 14, _, _ => rfl
  | 15, _, _ => rfl
  | 16, _, _ => rfl
  | 17, _, _ => rfl
  | 18, _, _ => rfl
  | 19, _, _ => rfl
  | 20, _, _ => rfl
  | 21, _, _ => rfl
  | 22, _, _ => rfl
  | 23, _, _ => rfl
  | 24, _, _ => rfl
  | 25, _, _ => rfl
  | 26, _, _ => rfl
  | 27, _, _ => rfl
  | 28, _, _ => rfl
  | 29, _, _ => rfl
  | 30, _, _ => rfl
  | 31, _, _ => rfl
  | 32, _, _ => rfl
  | 33, _, _ => rfl
  | 34, _, _ => rfl
  | 35, _, _ => rfl
  | 36, _, _ => rfl
  | 37, _, _ => rfl
  | 38, _, _ => rfl
  | 39, _, _ => rfl
  | 40, _, _ => rfl
  | 41, _, _ => rfl
  | 42, _, _ => rfl
  | 43, _, _ => rfl
  | 44, _, _ => rfl
  | 45, _, _ => rfl
  | 46, _, _ => rfl
  | 47, _, _ => rfl
  | 48, _, _ => rfl
  | 49, _, _ => rfl
  | 50, _, _ => rfl
  | 51, _, _ => rfl
  | 52, _, _ => rfl
  | 53, _, _ => rfl
  | 54, _, _ => rfl
  | 55, _, _ => rfl
  | 56, _, _ => rfl
  | 57, _, _ => rfl
  | k + 58, h, _ => exact absurd h (by omega)
def y_g1 (T : List Nat) (L : Nat) : q_G := q_new (GG T L) (.inr (.inr (6, q_fields 6))) (q_fields 6).length
def y_g3 (T : List Nat) (L N : Nat) : q_G := q_sh (q_new (y_g1 T L) (.inl N) N) (58 + 2 * T.length) (.inr (.inr (6, [some (.ref (58 + 2 * T.length + 1)), none, none])))
theorem va_up_e {α : Type} (f : Nat → α) (k : Nat) (z : α) : va_up f k z k = z := by simp [va_up]
theorem va_up_n {α : Type} (f : Nat → α) {k i : Nat} (z : α) (h : i ≠ k) : va_up f k z i = f i := by simp [va_up, h]
section
variable {T : List Nat} {L N : Nat}
theorem g1_n {k : Nat} (h : k ≠ 58 + 2 * T.length) : (y_g1 T L).1 k = (GG T L).1 k := va_up_n _ _ h
theorem g1_P : (y_g1 T L).1 (58 + 2 * T.length) = .inr (.inr (6, q_fields 6)) := va_up_e _ _ _
theorem g1_2 : (y_g1 T L).2.1 = 58 + 2 * T.length + 1 := rfl
theorem g3_P : (y_g3 T L N).1 (58 + 2 * T.length) = .inr (.inr (6, [some (.ref (58 + 2 * T.length + 1)), none, none])) := va_up_e _ _ _
theorem g3_P1 : (y_g3 T L N).1 (58 + 2 * T.length + 1) = .inl N := by
  show va_up (va_up (y_g1 T L).1 (58 + 2 * T.length + 1) (.inl N)) _ _ _ = _
  rw [va_up_n _ _ (by omega), va_up_e]
theorem g3_n {k : Nat} (h : k ≠ 58 + 2 * T.length) (h1 : k ≠ 58 + 2 * T.length + 1) : (y_g3 T L N).1 k = (GG T L).1 k := by
  show va_up (va_up (y_g1 T L).1 (58 + 2 * T.length + 1) (.inl N)) _ _ _ = _
  rw [va_up_n _ _ h, va_up_n _ _ h1, g1_n h]
theorem q_tf_up : va_up (q_tf T.length) (T.length + 1) (some (58 + 2 * T.length)) = q_tf (T ++ [N]).length := by
  funext i
  rw [List.length_append]
  by_cases q : i = T.length + 1
  · subst q
    rw [va_up_e]
    unfold q_tf
    rw [if_neg (by omega), if_pos (by simp)]
    congr 1
    omega
  · rw [va_up_n _ _ q]
    unfold q_tf
    by_cases q0 : i = 0
    · rw [if_pos q0, if_pos q0]
    · rw [if_neg q0, if_neg q0]
      by_cases q1 : i ≤ T.length
      · rw [if_pos q1, if_pos (by simp only [List.length_cons, List.length_nil]; omega)]
      · rw [if_neg q1, if_neg (by simp only [List.length_cons, List.length_nil]; omega)]
theorem q_S_hi {k : Nat} (h : 58 ≤ k) : q_S T L k = if k < 58 + 2 * T.length then (if k % 2 = 0 then .inr (.inr (6, [some (.ref (k + 1)), none, none])) else .inl (T.getD ((k - 59) / 2) 0)) else q_xs L k := by
  unfold q_S
  split <;> first | omega | rfl
theorem g3_up : q_sh (y_g3 T L N) 12 (.inr (.inl (6, 6, va_up (q_tf T.length) (T.length + 1) (some (58 + 2 * T.length))))) = GG (T ++ [N]) L := by
  rw [q_tf_up (N := N)]
  have h1 : va_up (y_g3 T L N).1 12 (.inr (.inl (6, 6, q_tf (T ++ [N]).length))) = q_S (T ++ [N]) L := by
    funext k
    have hl : (T ++ [N]).length = T.length + 1 := by rw [List.length_append]; rfl
    by_cases q12 : k = 12
    · subst q12
      rw [va_up_e]
      rfl
    · rw [va_up_n _ _ q12]
      by_cases qP : k = 58 + 2 * T.length
      · rw [qP, g3_P, q_S_hi (by omega), if_pos (by omega), if_pos (by omega)]
      · by_cases qP1 : k = 58 + 2 * T.length + 1
        · rw [qP1, g3_P1, q_S_hi (by omega), if_pos (by omega), if_neg (by omega), show (58 + 2 * T.length + 1 - 59) / 2 = T.length by omega]
          simp
        · rw [g3_n qP qP1]
          show q_S T L k = _
          by_cases q58 : k < 58
          · exact q_S58 _ _ _ _ q58 q12
          · rw [q_S_hi (by omega), q_S_hi (by omega)]
            by_cases q : k < 58 + 2 * T.length
            · rw [if_pos q, if_pos (show k < 58 + 2 * (T ++ [N]).length by omega)]
              by_cases q2 : k % 2 = 0
              · rw [if_pos q2, if_pos q2]
              · rw [if_neg q2, if_neg q2]
                congr 1
                simp only [List.getD_eq_getElem?_getD]
                rw [List.getElem?_append_left (by omega)]
            · rw [if_neg q, if_neg (by omega)]
  have h2 : (y_g3 T L N).2 = (GG (T ++ [N]) L).2 := by
    show (58 + 2 * T.length + 1 + 1, 3121 + 3 * T.length + T.sum + 3 + N) = (58 + 2 * (T ++ [N]).length, 3121 + 3 * (T ++ [N]).length + (T ++ [N]).sum)
    rw [List.length_append, List.sum_append]
    simp only [List.length_cons, List.length_nil, List.sum_cons, List.sum_nil]
    congr 1 <;> omega
  exact Prod.ext h1 h2
end
