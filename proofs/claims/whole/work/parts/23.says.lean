/-! ===== what a text says: its codes, each number ahead of what is made of it ===== -/
def z_u (s : Nat → Int32) (k : Nat) (v : Int32) : Nat → Int32 := fun i => if i = k then v else s i
def z_pv (nm : Nat → Int32) (c : Nat) : Int32 := if c < 11 then nm c else nI (c - 100000)
def z_two (c : Nat) (a b : Int32) : Int32 :=
  if c = 11 then (if a = nI 0 then (if b = nI 0 then nI 0 else nI 1) else nI 1)
  else if c = 12 then (if a = nI 0 then nI 0 else if b = nI 0 then nI 0 else nI 1)
  else if c = 14 then (if a < b then nI 1 else nI 0)
  else if c = 15 then (if a = b then nI 1 else nI 0)
  else if c = 16 then a + b else if c = 17 then a - b else a * b
def z_ev (nm : Nat → Int32) : List Nat → (Nat → Int32) → Nat → (Nat → Int32)
  | [], s, _ => s
  | c :: l, s, n => if c < 11 ∨ 100000 ≤ c then z_ev nm l (z_u s n (z_pv nm c)) (n + 1)
    else if c = 13 then z_ev nm l (z_u s (n - 1) (if s (n - 1) = nI 0 then nI 1 else nI 0)) n
    else if c = 19 then z_ev nm l (z_u s (n - 1) (-s (n - 1))) n
    else z_ev nm l (z_u s (n - 2) (z_two c (s (n - 2)) (s (n - 1)))) (n - 1)
/-- from n numbers that wait to so many; never more than 40 -/
def z_rp : List Nat → Nat → Nat → Prop
  | [], a, b => a = b
  | c :: l, a, b => if c < 6 ∨ (100000 ≤ c ∧ c < 110000) then a < 40 ∧ z_rp l (a + 1) b
    else if c = 13 ∨ c = 19 then 1 ≤ a ∧ z_rp l a b
    else (c = 11 ∨ c = 12 ∨ c = 14 ∨ c = 15 ∨ c = 16 ∨ c = 17 ∨ c = 18) ∧ 2 ≤ a ∧ z_rp l (a - 1) b
def z_cc (c : Nat) : Int32 := if 100000 ≤ c then nI (c - 100000) else if c < 6 then -(nI (c + 1)) else
  if c = 19 then (-10 : Int32) else if c = 13 then (-11 : Int32) else if c = 16 then (-12 : Int32) else if c = 17 then (-13 : Int32) else
  if c = 18 then (-14 : Int32) else if c = 14 then (-15 : Int32) else if c = 15 then (-16 : Int32) else if c = 12 then (-17 : Int32) else (-18 : Int32)
section
variable {T : List Nat} {L d : Nat} {m : q_M} {g : q_G} {K : Option Value → q_G → q_M → Prop}
theorem c_two {c : Nat} (hc : c = 11 ∨ c = 12 ∨ c = 14 ∨ c = 15 ∨ c = 16 ∨ c = 17 ∨ c = 18) (a b : Int32) : q_C 137 d [.int (nI c), .int a, .int b] g m K ↔ K (some (.int (z_two c a b))) g m := by
  have e11 : (nI 11).toInt = 11 := by decide +kernel
  have e12 : (nI 12).toInt = 12 := by decide +kernel
  have e14 : (nI 14).toInt = 14 := by decide +kernel
  have e15 : (nI 15).toInt = 15 := by decide +kernel
  have e16 : (nI 16).toInt = 16 := by decide +kernel
  have e17 : (nI 17).toInt = 17 := by decide +kernel
  have e18 : (nI 18).toInt = 18 := by decide +kernel
  rcases hc with rfl | rfl | rfl | rfl | rfl | rfl | rfl <;> simp only [e137, u137_0, u137_1, u137_44, u137_45, u137_48, u137_49, u137_52, u137_53, u137_56, u137_57, u137_58, u137_59, u137_62, u137_63, u137_66, u137_67, u137_70, u137_71, u137_72, u137_73, u137_74, u137_77, u137_78, u137_81, u137_82, u137_83, u137_84, u137_85, u137_88, u137_89, u137_92, u137_93, u137_94, u137_95, u137_96, u137_97, u137_98, u137_99, u137_100, u137_101, u137_102, u137_103, u137_104, u137_105, q_push_s, q_push_n, q_sm_0, q_sm_i, q_sm_r, q_sm_n, q_sm_l, q_c1_0, q_c1_i, q_c1_r, q_c1_n, Nat.zero_add, Nat.reduceAdd, Nat.reduceMul, Nat.reduceSub, Nat.reduceLeDiff, Nat.reduceLT, Nat.reduceEqDiff, true_and, and_true, not_false_eq_true, if_true, if_false, ite_true, ite_false, or_true, true_or, or_false, false_or, not_true_eq_false, e11, e12, e14, e15, e16, e17, e18, z_two, Int.reduceEq]
  · by_cases h : a = nI 0 <;> by_cases h2 : b = nI 0 <;> simp only [h, h2, if_true, if_false]
  · by_cases h : a = nI 0 <;> by_cases h2 : b = nI 0 <;> simp only [h, h2, if_true, if_false]
  · by_cases h : a < b <;> simp only [h, if_true, if_false]
  · by_cases h : a = b <;> simp only [h, if_true, if_false]
theorem c_ofBoth {c : Nat} (hc : c = 11 ∨ c = 12 ∨ c = 14 ∨ c = 15 ∨ c = 16 ∨ c = 17 ∨ c = 18) (a b : Int32) : q_C 58 d [.int (z_cc c), .int a, .int b] g m K ↔ K (some (.int (z_two c a b))) g m := by
  have e11 : (z_cc 11).toInt = -18 := by decide +kernel
  have e12 : (z_cc 12).toInt = -17 := by decide +kernel
  have e14 : (z_cc 14).toInt = -15 := by decide +kernel
  have e15 : (z_cc 15).toInt = -16 := by decide +kernel
  have e16 : (z_cc 16).toInt = -12 := by decide +kernel
  have e17 : (z_cc 17).toInt = -13 := by decide +kernel
  have e18 : (z_cc 18).toInt = -14 := by decide +kernel
  rcases hc with rfl | rfl | rfl | rfl | rfl | rfl | rfl <;> simp only [e58, u58_0, u58_1, u58_44, u58_45, u58_46, u58_47, u58_48, u58_49, u58_50, u58_51, u58_52, u58_53, u58_54, u58_55, u58_56, u58_57, u58_58, u58_61, u58_62, u58_65, u58_66, u58_67, u58_68, u58_69, u58_72, u58_73, u58_76, u58_77, u58_78, u58_79, u58_82, u58_83, u58_86, u58_87, u58_90, u58_91, u58_92, u58_93, u58_96, u58_97, u58_100, u58_101, u58_104, u58_105, u58_106, u58_107, q_push_s, q_push_n, q_sm_0, q_sm_i, q_sm_r, q_sm_n, q_sm_l, q_c1_0, q_c1_i, q_c1_r, q_c1_n, Nat.zero_add, Nat.reduceAdd, Nat.reduceMul, Nat.reduceSub, Nat.reduceLeDiff, Nat.reduceLT, Nat.reduceEqDiff, true_and, and_true, not_false_eq_true, if_true, if_false, ite_true, ite_false, or_true, true_or, or_false, false_or, not_true_eq_false, e11, e12, e14, e15, e16, e17, e18, z_two, Int.reduceEq, Int.reduceNeg]
  · by_cases h : a = nI 0 <;> by_cases h2 : b = nI 0 <;> simp only [h, h2, if_true, if_false]
  · by_cases h : a = nI 0 <;> by_cases h2 : b = nI 0 <;> simp only [h, h2, if_true, if_false]
  · by_cases h : a < b <;> simp only [h, if_true, if_false]
  · by_cases h : a = b <;> simp only [h, if_true, if_false]
end
