/-! ===== shapes while the constructors run: a list of what stands from a place on ===== -/
def q_B (f : Nat → q_Sh) (o : Nat) (t : List q_Sh) (L c : Nat) : q_G := (fun k => if k < o then f k else (t[k - o]?).getD (q_xs L k), o + t.length, c)
def q_ZM (a b : Nat) (m : q_M) : q_M := fun k i => if a ≤ k ∧ k < b then 0 else m k i
section
variable {f : Nat → q_Sh} {o L c k n : Nat} {t : List q_Sh} {z : q_Sh} {m : q_M}
theorem B_1 : (q_B f o t L c).1 k = if k < o then f k else (t[k - o]?).getD (q_xs L k) := rfl
theorem B_n : (q_B f o t L c).2.1 = o + t.length := rfl
theorem B_new : q_new (q_B f o t L c) z n = q_B f o (t ++ [z]) L (c + n) := by
  have h1 : (q_new (q_B f o t L c) z n).1 = (q_B f o (t ++ [z]) L (c + n)).1 := by
    funext k
    show va_up (q_B f o t L c).1 (o + t.length) z k = _
    by_cases q : k = o + t.length
    · rw [q, va_up_e, B_1, if_neg (by omega), show o + t.length - o = t.length by omega, List.getElem?_concat_length]
      rfl
    · rw [va_up_n _ _ q, B_1, B_1]
      by_cases q2 : k < o
      · rw [if_pos q2, if_pos q2]
      · rw [if_neg q2, if_neg q2]
        by_cases q3 : k - o < t.length
        · rw [List.getElem?_append_left q3]
        · rw [List.getElem?_eq_none (by omega), List.getElem?_eq_none (by rw [List.length_append]; simp only [List.length_cons, List.length_nil]; omega)]
  refine Prod.ext h1 ?_
  show (o + t.length + 1, c + n) = (o + (t ++ [z]).length, c + n)
  rw [List.length_append]
  rfl
theorem B_sh (h1 : o ≤ k) (h2 : k - o < t.length) : q_sh (q_B f o t L c) k z = q_B f o (t.set (k - o) z) L c := by
  have h1 : (q_sh (q_B f o t L c) k z).1 = (q_B f o (t.set (k - o) z) L c).1 := by
    funext j
    show va_up (q_B f o t L c).1 k z j = _
    by_cases q : j = k
    · rw [q, va_up_e, B_1, if_neg (by omega), List.getElem?_set_self h2]
      rfl
    · rw [va_up_n _ _ q, B_1, B_1]
      by_cases q2 : j < o
      · rw [if_pos q2, if_pos q2]
      · rw [if_neg q2, if_neg q2, List.getElem?_set_ne (by omega)]
  refine Prod.ext h1 ?_
  show (o + t.length, c) = (o + (t.set (k - o) z).length, c)
  rw [List.length_set]
theorem ZM_z {a b : Nat} (h : a ≤ b) : q_zero (q_ZM a b m) b = q_ZM a (b + 1) m := by
  funext k i
  show (if k = b then 0 else if a ≤ k ∧ k < b then 0 else m k i) = if a ≤ k ∧ k < b + 1 then 0 else m k i
  by_cases q : k = b
  · rw [if_pos q, if_pos (by omega)]
  · rw [if_neg q]
    by_cases q2 : a ≤ k ∧ k < b
    · rw [if_pos q2, if_pos (by omega)]
    · rw [if_neg q2, if_neg (by omega)]
theorem ZM_u {a b k f : Nat} (h1 : a ≤ k) (h2 : k < b) : q_up (q_ZM a b m) k f (nI 0) = q_ZM a b m := by
  funext k' i
  show (if k' = k ∧ i = f then nI 0 else if a ≤ k' ∧ k' < b then 0 else m k' i) = if a ≤ k' ∧ k' < b then 0 else m k' i
  by_cases q : k' = k ∧ i = f
  · rw [if_pos q, if_pos (by omega)]
    exact nI_0
  · rw [if_neg q]
theorem ZC {a b k f : Nat} {v : Int32} (h : k < a) : q_up (q_ZM a b m) k f v = q_ZM a b (q_up m k f v) := by
  funext k' i
  show (if k' = k ∧ i = f then v else if a ≤ k' ∧ k' < b then 0 else m k' i) = if a ≤ k' ∧ k' < b then 0 else if k' = k ∧ i = f then v else m k' i
  by_cases q : k' = k ∧ i = f
  · rw [if_pos q, if_pos q, if_neg (by omega)]
  · rw [if_neg q, if_neg q]
theorem n_ng (h : n < 2 ^ 31) : (nI n < 0) = False := eq_false (nI_pos h)
theorem qf_0 : q_fields 0 = [none, none, none, none, none, none, some .null] := rfl
theorem qf_1 : q_fields 1 = [none, none, none, some .null, some .null, some .null, some .null, some .null, some .null] := rfl
theorem qf_2 : q_fields 2 = [some .null, some .null, some .null, some .null, some .null, some .null] := rfl
theorem qf_3 : q_fields 3 = [some .null, none, some .null, none, none, none, none, none] := rfl
theorem qf_4 : q_fields 4 = [none, none, some .null] := rfl
theorem qf_5 : q_fields 5 = [some .null, some .null, some .null, none, some .null] := rfl
theorem qf_6 : q_fields 6 = [some .null, none, none] := rfl
theorem qf_7 : q_fields 7 = [some .null, some .null, some .null, some .null, none, some .null, some .null] := rfl
end
