section
variable {d : Nat} {st : List Value} {g : q_G} {m : q_M} {K : Option Value → q_G → q_M → Prop}
theorem c_max (x y : Int32) : q_C 202 d [.int x, .int y] g m K ↔ K (some (.int (if x < y then y else x))) g m := by
  simp only [e202, u202_0, u202_1, u202_2, u202_5, u202_6, u202_9, u202_10]
  by_cases h : x < y
  · simp only [h, if_true]
  · simp only [h, if_false]
theorem c_min (x y : Int32) : q_C 203 d [.int x, .int y] g m K ↔ K (some (.int (if x ≤ y then x else y))) g m := by
  simp only [e203, u203_0, u203_1, u203_2, u203_5, u203_6, u203_9, u203_10]
  by_cases h : x ≤ y
  · simp only [h, if_true]
  · simp only [h, if_false]
def q_bnd (v n : Int32) : Int32 := if 0 < (if n ≤ v then n else v) then (if n ≤ v then n else v) else 0
theorem c_bounded (v n : Int32) : q_C 103 (d + 1) [.int v, .int n] g m K ↔ K (some (.int (q_bnd v n))) g m := by
  simp only [e103, u103_0, u103_1, u103_2, u103_3, u103_6, u103_9, c_max, c_min, q_push, q_sm, Nat.zero_add, Nat.reduceLeDiff, true_and, Nat.reduceAdd]
  rfl
end
