/-! ===== the cells: 0..37 the class's, 38..57 the reference's, two for each text behind them ===== -/
def q_tf (n i : Nat) : Option Nat := if i = 0 then some 10 else if i ≤ n then some (56 + 2 * i) else none
def q_sf (i : Nat) : Option Nat := if i < 4 then some (30 + 2 * i) else none
def q_S (T : List Nat) (L : Nat) (k : Nat) : q_Sh := match k with
  | 0 => .inr (.inr (7, [some (.ref 1), some (.ref 2), some (.ref 3), some (.ref 19), none, some (.ref 26), some (.ref 29)]))
  | 1 => .inr (.inr (2, [some (.ref 2), some (.ref 3), some (.ref 15), some (.ref 16), some (.ref 17), some (.ref 18)]))
  | 2 => .inr (.inr (5, [some (.ref 3), some (.ref 10), some (.ref 12), none, some (.ref 13)]))
  | 3 => .inr (.inr (1, [none, none, none, some (.ref 4), some (.ref 5), some (.ref 6), some (.ref 7), some (.ref 8), some (.ref 9)]))
  | 4 => .inl 6
  | 5 => .inl 6
  | 6 => .inl 6
  | 7 => .inl 6
  | 8 => .inl 6
  | 9 => .inl 36
  | 10 => .inr (.inr (6, [some (.ref 11), none, none]))
  | 11 => .inl 10
  | 12 => .inr (.inl (6, 6, q_tf T.length))
  | 13 => .inr (.inr (0, [none, none, none, none, none, none, some (.ref 14)]))
  | 14 => .inl 40
  | 15 => .inl 36
  | 16 => .inl 64
  | 17 => .inl 6
  | 18 => .inl 6
  | 19 => .inr (.inr (1, [none, none, none, some (.ref 20), some (.ref 21), some (.ref 22), some (.ref 23), some (.ref 24), some (.ref 25)]))
  | 20 => .inl 6
  | 21 => .inl 6
  | 22 => .inl 6
  | 23 => .inl 6
  | 24 => .inl 6
  | 25 => .inl 36
  | 26 => .inr (.inr (3, [some (.ref 27), none, some (.ref 28), none, none, none, none, none]))
  | 27 => .inl 160
  | 28 => .inl 160
  | 29 => .inr (.inl (4, 4, q_sf))
  | 30 => .inr (.inr (4, [none, none, some (.ref 31)]))
  | 31 => .inl 40
  | 32 => .inr (.inr (4, [none, none, some (.ref 33)]))
  | 33 => .inl 40
  | 34 => .inr (.inr (4, [none, none, some (.ref 35)]))
  | 35 => .inl 40
  | 36 => .inr (.inr (4, [none, none, some (.ref 37)]))
  | 37 => .inl 40
  | 38 => .inr (.inr (8, [none, some (.ref 39), some (.ref 40), some (.ref 41), some (.ref 42), none, some (.ref 43), none, some (.ref 44), some (.ref 45), none, none, none, none, none, none, some (.ref 46), some (.ref 47), some (.ref 48), some (.ref 49), some (.ref 50), none, none, none, none, some (.ref 51), some (.ref 52), none, none, none, some (.ref 53), some (.ref 54), none, none, some (.ref 55), some (.ref 56), none, some (.ref 57)]))
  | 39 => .inl 6
  | 40 => .inl 6
  | 41 => .inl 18
  | 42 => .inl 36
  | 43 => .inl 160
  | 44 => .inl 1200
  | 45 => .inl 24
  | 46 => .inl 54
  | 47 => .inl 4
  | 48 => .inl 4
  | 49 => .inl 160
  | 50 => .inl 41
  | 51 => .inl 96
  | 52 => .inl 200
  | 53 => .inl 200
  | 54 => .inl 6
  | 55 => .inl 6
  | 56 => .inl 6
  | 57 => .inl 6
  | k => if k < 58 + 2 * T.length then (if k % 2 = 0 then .inr (.inr (6, [some (.ref (k + 1)), none, none])) else .inl (T.getD ((k - 59) / 2) 0)) else q_xs L k
def GG (T : List Nat) (L : Nat) : q_G := (q_S T L, 58 + 2 * T.length, 3121 + 3 * T.length + T.sum)
section QP
variable {T : List Nat} {L d j x : Nat} {m : q_M} {K : Option Value → q_G → q_M → Prop} {v : Int32}
theorem gf0_0 {F : Value → Prop} : q_gf 7 0 (GG T L) m 0 F ↔ F (.ref 1) := ⟨fun h => h.2, fun h => ⟨rfl, h⟩⟩
theorem gf0_1 {F : Value → Prop} : q_gf 7 1 (GG T L) m 0 F ↔ F (.ref 2) := ⟨fun h => h.2, fun h => ⟨rfl, h⟩⟩
theorem gf0_2 {F : Value → Prop} : q_gf 7 2 (GG T L) m 0 F ↔ F (.ref 3) := ⟨fun h => h.2, fun h => ⟨rfl, h⟩⟩
theorem gf0_3 {F : Value → Prop} : q_gf 7 3 (GG T L) m 0 F ↔ F (.ref 19) := ⟨fun h => h.2, fun h => ⟨rfl, h⟩⟩
theorem gf0_4 {F : Value → Prop} : q_gf 7 4 (GG T L) m 0 F ↔ F (.int (m 0 4)) := ⟨fun h => h.2, fun h => ⟨rfl, h⟩⟩
theorem pf0_4 {F : q_G → q_M → Prop} : q_pf 7 4 false (GG T L) m 0 (.int v) F ↔ F (GG T L) (q_up m 0 4 v) := ⟨fun h => h.2.2.2, fun h => ⟨rfl, by decide, fun z => (by cases z), h⟩⟩
theorem pfz0_4 {F : q_G → q_M → Prop} : q_pf 7 4 true (GG T L) m 0 (.int v) F ↔ ((v = 0 ∨ v = 1) ∧ F (GG T L) (q_up m 0 4 v)) := ⟨fun h => ⟨h.2.2.1 rfl, h.2.2.2⟩, fun h => ⟨rfl, by decide, fun _ => h.1, h.2⟩⟩
theorem gf0_5 {F : Value → Prop} : q_gf 7 5 (GG T L) m 0 F ↔ F (.ref 26) := ⟨fun h => h.2, fun h => ⟨rfl, h⟩⟩
theorem gf0_6 {F : Value → Prop} : q_gf 7 6 (GG T L) m 0 F ↔ F (.ref 29) := ⟨fun h => h.2, fun h => ⟨rfl, h⟩⟩
theorem io0 : q_io 7 (GG T L) 0 ↔ True := ⟨fun _ => trivial, fun _ => rfl⟩
theorem gf1_0 {F : Value → Prop} : q_gf 2 0 (GG T L) m 1 F ↔ F (.ref 2) := ⟨fun h => h.2, fun h => ⟨rfl, h⟩⟩
theorem gf1_1 {F : Value → Prop} : q_gf 2 1 (GG T L) m 1 F ↔ F (.ref 3) := ⟨fun h => h.2, fun h => ⟨rfl, h⟩⟩
theorem gf1_2 {F : Value → Prop} : q_gf 2 2 (GG T L) m 1 F ↔ F (.ref 15) := ⟨fun h => h.2, fun h => ⟨rfl, h⟩⟩
theorem gf1_3 {F : Value → Prop} : q_gf 2 3 (GG T L) m 1 F ↔ F (.ref 16) := ⟨fun h => h.2, fun h => ⟨rfl, h⟩⟩
theorem gf1_4 {F : Value → Prop} : q_gf 2 4 (GG T L) m 1 F ↔ F (.ref 17) := ⟨fun h => h.2, fun h => ⟨rfl, h⟩⟩
theorem gf1_5 {F : Value → Prop} : q_gf 2 5 (GG T L) m 1 F ↔ F (.ref 18) := ⟨fun h => h.2, fun h => ⟨rfl, h⟩⟩
theorem io1 : q_io 2 (GG T L) 1 ↔ True := ⟨fun _ => trivial, fun _ => rfl⟩
theorem gf2_0 {F : Value → Prop} : q_gf 5 0 (GG T L) m 2 F ↔ F (.ref 3) := ⟨fun h => h.2, fun h => ⟨rfl, h⟩⟩
theorem gf2_1 {F : Value → Prop} : q_gf 5 1 (GG T L) m 2 F ↔ F (.ref 10) := ⟨fun h => h.2, fun h => ⟨rfl, h⟩⟩
theorem gf2_2 {F : Value → Prop} : q_gf 5 2 (GG T L) m 2 F ↔ F (.ref 12) := ⟨fun h => h.2, fun h => ⟨rfl, h⟩⟩
theorem gf2_3 {F : Value → Prop} : q_gf 5 3 (GG T L) m 2 F ↔ F (.int (m 2 3)) := ⟨fun h => h.2, fun h => ⟨rfl, h⟩⟩
theorem pf2_3 {F : q_G → q_M → Prop} : q_pf 5 3 false (GG T L) m 2 (.int v) F ↔ F (GG T L) (q_up m 2 3 v) := ⟨fun h => h.2.2.2, fun h => ⟨rfl, by decide, fun z => (by cases z), h⟩⟩
theorem gf2_4 {F : Value → Prop} : q_gf 5 4 (GG T L) m 2 F ↔ F (.ref 13) := ⟨fun h => h.2, fun h => ⟨rfl, h⟩⟩
theorem io2 : q_io 5 (GG T L) 2 ↔ True := ⟨fun _ => trivial, fun _ => rfl⟩
theorem gf3_0 {F : Value → Prop} : q_gf 1 0 (GG T L) m 3 F ↔ F (.int (m 3 0)) := ⟨fun h => h.2, fun h => ⟨rfl, h⟩⟩
theorem pf3_0 {F : q_G → q_M → Prop} : q_pf 1 0 false (GG T L) m 3 (.int v) F ↔ F (GG T L) (q_up m 3 0 v) := ⟨fun h => h.2.2.2, fun h => ⟨rfl, by decide, fun z => (by cases z), h⟩⟩
theorem gf3_1 {F : Value → Prop} : q_gf 1 1 (GG T L) m 3 F ↔ F (.int (m 3 1)) := ⟨fun h => h.2, fun h => ⟨rfl, h⟩⟩
theorem pf3_1 {F : q_G → q_M → Prop} : q_pf 1 1 false (GG T L) m 3 (.int v) F ↔ F (GG T L) (q_up m 3 1 v) := ⟨fun h => h.2.2.2, fun h => ⟨rfl, by decide, fun z => (by cases z), h⟩⟩
theorem gf3_2 {F : Value → Prop} : q_gf 1 2 (GG T L) m 3 F ↔ F (.int (m 3 2)) := ⟨fun h => h.2, fun h => ⟨rfl, h⟩⟩
theorem pf3_2 {F : q_G → q_M → Prop} : q_pf 1 2 false (GG T L) m 3 (.int v) F ↔ F (GG T L) (q_up m 3 2 v) := ⟨fun h => h.2.2.2, fun h => ⟨rfl, by decide, fun z => (by cases z), h⟩⟩
theorem gf3_3 {F : Value → Prop} : q_gf 1 3 (GG T L) m 3 F ↔ F (.ref 4) := ⟨fun h => h.2, fun h => ⟨rfl, h⟩⟩
theorem gf3_4 {F : Value → Prop} : q_gf 1 4 (GG T L) m 3 F ↔ F (.ref 5) := ⟨fun h => h.2, fun h => ⟨rfl, h⟩⟩
theorem gf3_5 {F : Value → Prop} : q_gf 1 5 (GG T L) m 3 F ↔ F (.ref 6) := ⟨fun h => h.2, fun h => ⟨rfl, h⟩⟩
theorem gf3_6 {F : Value → Prop} : q_gf 1 6 (GG T L) m 3 F ↔ F (.ref 7) := ⟨fun h => h.2, fun h => ⟨rfl, h⟩⟩
theorem gf3_7 {F : Value → Prop} : q_gf 1 7 (GG T L) m 3 F ↔ F (.ref 8) := ⟨fun h => h.2, fun h => ⟨rfl, h⟩⟩
theorem gf3_8 {F : Value → Prop} : q_gf 1 8 (GG T L) m 3 F ↔ F (.ref 9) := ⟨fun h => h.2, fun h => ⟨rfl, h⟩⟩
theorem io3 : q_io 1 (GG T L) 3 ↔ True := ⟨fun _ => trivial, fun _ => rfl⟩
theorem gf10_0 {F : Value → Prop} : q_gf 6 0 (GG T L) m 10 F ↔ F (.ref 11) := ⟨fun h => h.2, fun h => ⟨rfl, h⟩⟩
theorem gf10_1 {F : Value → Prop} : q_gf 6 1 (GG T L) m 10 F ↔ F (.int (m 10 1)) := ⟨fun h => h.2, fun h => ⟨rfl, h⟩⟩
theorem pf10_1 {F : q_G → q_M → Prop} : q_pf 6 1 false (GG T L) m 10 (.int v) F ↔ F (GG T L) (q_up m 10 1 v) := ⟨fun h => h.2.2.2, fun h => ⟨rfl, by decide, fun z => (by cases z), h⟩⟩
theorem gf10_2 {F : Value → Prop} : q_gf 6 2 (GG T L) m 10 F ↔ F (.int (m 10 2)) := ⟨fun h => h.2, fun h => ⟨rfl, h⟩⟩
theorem pf10_2 {F : q_G → q_M → Prop} : q_pf 6 2 false (GG T L) m 10 (.int v) F ↔ F (GG T L) (q_up m 10 2 v) := ⟨fun h => h.2.2.2, fun h => ⟨rfl, by decide, fun z => (by cases z), h⟩⟩
theorem io10 : q_io 6 (GG T L) 10 ↔ True := ⟨fun _ => trivial, fun _ => rfl⟩
theorem gf13_0 {F : Value → Prop} : q_gf 0 0 (GG T L) m 13 F ↔ F (.int (m 13 0)) := ⟨fun h => h.2, fun h => ⟨rfl, h⟩⟩
theorem pf13_0 {F : q_G → q_M → Prop} : q_pf 0 0 false (GG T L) m 13 (.int v) F ↔ F (GG T L) (q_up m 13 0 v) := ⟨fun h => h.2.2.2, fun h => ⟨rfl, by decide, fun z => (by cases z), h⟩⟩
theorem gf13_1 {F : Value → Prop} : q_gf 0 1 (GG T L) m 13 F ↔ F (.int (m 13 1)) := ⟨fun h => h.2, fun h => ⟨rfl, h⟩⟩
theorem pf13_1 {F : q_G → q_M → Prop} : q_pf 0 1 false (GG T L) m 13 (.int v) F ↔ F (GG T L) (q_up m 13 1 v) := ⟨fun h => h.2.2.2, fun h => ⟨rfl, by decide, fun z => (by cases z), h⟩⟩
theorem gf13_2 {F : Value → Prop} : q_gf 0 2 (GG T L) m 13 F ↔ F (.int (m 13 2)) := ⟨fun h => h.2, fun h => ⟨rfl, h⟩⟩
theorem pf13_2 {F : q_G → q_M → Prop} : q_pf 0 2 false (GG T L) m 13 (.int v) F ↔ F (GG T L) (q_up m 13 2 v) := ⟨fun h => h.2.2.2, fun h => ⟨rfl, by decide, fun z => (by cases z), h⟩⟩
theorem gf13_3 {F : Value → Prop} : q_gf 0 3 (GG T L) m 13 F ↔ F (.int (m 13 3)) := ⟨fun h => h.2, fun h => ⟨rfl, h⟩⟩
theorem pf13_3 {F : q_G → q_M → Prop} : q_pf 0 3 false (GG T L) m 13 (.int v) F ↔ F (GG T L) (q_up m 13 3 v) := ⟨fun h => h.2.2.2, fun h => ⟨rfl, by decide, fun z => (by cases z), h⟩⟩
theorem gf13_4 {F : Value → Prop} : q_gf 0 4 (GG T L) m 13 F ↔ F (.int (m 13 4)) := ⟨fun h => h.2, fun h => ⟨rfl, h⟩⟩
theorem pf13_4 {F : q_G → q_M → Prop} : q_pf 0 4 false (GG T L) m 13 (.int v) F ↔ F (GG T L) (q_up m 13 4 v) := ⟨fun h => h.2.2.2, fun h => ⟨rfl, by decide, fun z => (by cases z), h⟩⟩
theorem gf13_5 {F : Value → Prop} : q_gf 0 5 (GG T L) m 13 F ↔ F (.int (m 13 5)) := ⟨fun h => h.2, fun h => ⟨rfl, h⟩⟩
theorem pf13_5 {F : q_G → q_M → Prop} : q_pf 0 5 false (GG T L) m 13 (.int v) F ↔ F (GG T L) (q_up m 13 5 v) := ⟨fun h => h.2.2.2, fun h => ⟨rfl, by decide, fun z => (by cases z), h⟩⟩
theorem gf13_6 {F : Value → Prop} : q_gf 0 6 (GG T L) m 13 F ↔ F (.ref 14) := ⟨fun h => h.2, fun h => ⟨rfl, h⟩⟩
theorem io13 : q_io 0 (GG T L) 13 ↔ True := ⟨fun _ => trivial, fun _ => rfl⟩
theorem gf19_0 {F : Value → Prop} : q_gf 1 0 (GG T L) m 19 F ↔ F (.int (m 19 0)) := ⟨fun h => h.2, fun h => ⟨rfl, h⟩⟩
theorem pf19_0 {F : q_G → q_M → Prop} : q_pf 1 0 false (GG T L) m 19 (.int v) F ↔ F (GG T L) (q_up m 19 0 v) := ⟨fun h => h.2.2.2, fun h => ⟨rfl, by decide, fun z => (by cases z), h⟩⟩
theorem gf19_1 {F : Value → Prop} : q_gf 1 1 (GG T L) m 19 F ↔ F (.int (m 19 1)) := ⟨fun h => h.2, fun h => ⟨rfl, h⟩⟩
theorem pf19_1 {F : q_G → q_M → Prop} : q_pf 1 1 false (GG T L) m 19 (.int v) F ↔ F (GG T L) (q_up m 19 1 v) := ⟨fun h => h.2.2.2, fun h => ⟨rfl, by decide, fun z => (by cases z), h⟩⟩
theorem gf19_2 {F : Value → Prop} : q_gf 1 2 (GG T L) m 19 F ↔ F (.int (m 19 2)) := ⟨fun h => h.2, fun h => ⟨rfl, h⟩⟩
theorem pf19_2 {F : q_G → q_M → Prop} : q_pf 1 2 false (GG T L) m 19 (.int v) F ↔ F (GG T L) (q_up m 19 2 v) := ⟨fun h => h.2.2.2, fun h => ⟨rfl, by decide, fun z => (by cases z), h⟩⟩
theorem gf19_3 {F : Value → Prop} : q_gf 1 3 (GG T L) m 19 F ↔ F (.ref 20) := ⟨fun h => h.2, fun h => ⟨rfl, h⟩⟩
theorem gf19_4 {F : Value → Prop} : q_gf 1 4 (GG T L) m 19 F ↔ F (.ref 21) := ⟨fun h => h.2, fun h => ⟨rfl, h⟩⟩
theorem gf19_5 {F : Value → Prop} : q_gf 1 5 (GG T L) m 19 F ↔ F (.ref 22) := ⟨fun h => h.2, fun h => ⟨rfl, h⟩⟩
theorem gf19_6 {F : Value → Prop} : q_gf 1 6 (GG T L) m 19 F ↔ F (.ref 23) := ⟨fun h => h.2, fun h => ⟨rfl, h⟩⟩
theorem gf19_7 {F : Value → Prop} : q_gf 1 7 (GG T L) m 19 F ↔ F (.ref 24) := ⟨fun h => h.2, fun h => ⟨rfl, h⟩⟩
theorem gf19_8 {F : Value → Prop} : q_gf 1 8 (GG T L) m 19 F ↔ F (.ref 25) := ⟨fun h => h.2, fun h => ⟨rfl, h⟩⟩
theorem io19 : q_io 1 (GG T L) 19 ↔ True := ⟨fun _ => trivial, fun _ => rfl⟩
theorem gf26_0 {F : Value → Prop} : q_gf 3 0 (GG T L) m 26 F ↔ F (.ref 27) := ⟨fun h => h.2, fun h => ⟨rfl, h⟩⟩
theorem gf26_1 {F : Value → Prop} : q_gf 3 1 (GG T L) m 26 F ↔ F (.int (m 26 1)) := ⟨fun h => h.2, fun h => ⟨rfl, h⟩⟩
theorem pf26_1 {F : q_G → q_M → Prop} : q_pf 3 1 false (GG T L) m 26 (.int v) F ↔ F (GG T L) (q_up m 26 1 v) := ⟨fun h => h.2.2.2, fun h => ⟨rfl, by decide, fun z => (by cases z), h⟩⟩
theorem gf26_2 {F : Value → Prop} : q_gf 3 2 (GG T L) m 26 F ↔ F (.ref 28) := ⟨fun h => h.2, fun h => ⟨rfl, h⟩⟩
theorem gf26_3 {F : Value → Prop} : q_gf 3 3 (GG T L) m 26 F ↔ F (.int (m 26 3)) := ⟨fun h => h.2, fun h => ⟨rfl, h⟩⟩
theorem pf26_3 {F : q_G → q_M → Prop} : q_pf 3 3 false (GG T L) m 26 (.int v) F ↔ F (GG T L) (q_up m 26 3 v) := ⟨fun h => h.2.2.2, fun h => ⟨rfl, by decide, fun z => (by cases z), h⟩⟩
theorem gf26_4 {F : Value → Prop} : q_gf 3 4 (GG T L) m 26 F ↔ F (.int (m 26 4)) := ⟨fun h => h.2, fun h => ⟨rfl, h⟩⟩
theorem pf26_4 {F : q_G → q_M → Prop} : q_pf 3 4 false (GG T L) m 26 (.int v) F ↔ F (GG T L) (q_up m 26 4 v) := ⟨fun h => h.2.2.2, fun h => ⟨rfl, by decide, fun z => (by cases z), h⟩⟩
theorem gf26_5 {F : Value → Prop} : q_gf 3 5 (GG T L) m 26 F ↔ F (.int (m 26 5)) := ⟨fun h => h.2, fun h => ⟨rfl, h⟩⟩
theorem pf26_5 {F : q_G → q_M → Prop} : q_pf 3 5 false (GG T L) m 26 (.int v) F ↔ F (GG T L) (q_up m 26 5 v) := ⟨fun h => h.2.2.2, fun h => ⟨rfl, by decide, fun z => (by cases z), h⟩⟩
theorem gf26_6 {F : Value → Prop} : q_gf 3 6 (GG T L) m 26 F ↔ F (.int (m 26 6)) := ⟨fun h => h.2, fun h => ⟨rfl, h⟩⟩
theorem pf26_6 {F : q_G → q_M → Prop} : q_pf 3 6 false (GG T L) m 26 (.int v) F ↔ F (GG T L) (q_up m 26 6 v) := ⟨fun h => h.2.2.2, fun h => ⟨rfl, by decide, fun z => (by cases z), h⟩⟩
theorem gf26_7 {F : Value → Prop} : q_gf 3 7 (GG T L) m 26 F ↔ F (.int (m 26 7)) := ⟨fun h => h.2, fun h => ⟨rfl, h⟩⟩
theorem pf26_7 {F : q_G → q_M → Prop} : q_pf 3 7 false (GG T L) m 26 (.int v) F ↔ F (GG T L) (q_up m 26 7 v) := ⟨fun h => h.2.2.2, fun h => ⟨rfl, by decide, fun z => (by cases z), h⟩⟩
theorem io26 : q_io 3 (GG T L) 26 ↔ True := ⟨fun _ => trivial, fun _ => rfl⟩
theorem gf30_0 {F : Value → Prop} : q_gf 4 0 (GG T L) m 30 F ↔ F (.int (m 30 0)) := ⟨fun h => h.2, fun h => ⟨rfl, h⟩⟩
theorem pf30_0 {F : q_G → q_M → Prop} : q_pf 4 0 false (GG T L) m 30 (.int v) F ↔ F (GG T L) (q_up m 30 0 v) := ⟨fun h => h.2.2.2, fun h => ⟨rfl, by decide, fun z => (by cases z), h⟩⟩
theorem gf30_1 {F : Value → Prop} : q_gf 4 1 (GG T L) m 30 F ↔ F (.int (m 30 1)) := ⟨fun h => h.2, fun h => ⟨rfl, h⟩⟩
theorem pf30_1 {F : q_G → q_M → Prop} : q_pf 4 1 false (GG T L) m 30 (.int v) F ↔ F (GG T L) (q_up m 30 1 v) := ⟨fun h => h.2.2.2, fun h => ⟨rfl, by decide, fun z => (by cases z), h⟩⟩
theorem gf30_2 {F : Value → Prop} : q_gf 4 2 (GG T L) m 30 F ↔ F (.ref 31) := ⟨fun h => h.2, fun h => ⟨rfl, h⟩⟩
theorem io30 : q_io 4 (GG T L) 30 ↔ True := ⟨fun _ => trivial, fun _ => rfl⟩
theorem gf32_0 {F : Value → Prop} : q_gf 4 0 (GG T L) m 32 F ↔ F (.int (m 32 0)) := ⟨fun h => h.2, fun h => ⟨rfl, h⟩⟩
theorem pf32_0 {F : q_G → q_M → Prop} : q_pf 4 0 false (GG T L) m 32 (.int v) F ↔ F (GG T L) (q_up m 32 0 v) := ⟨fun h => h.2.2.2, fun h => ⟨rfl, by decide, fun z => (by cases z), h⟩⟩
theorem gf32_1 {F : Value → Prop} : q_gf 4 1 (GG T L) m 32 F ↔ F (.int (m 32 1)) := ⟨fun h => h.2, fun h => ⟨rfl, h⟩⟩
theorem pf32_1 {F : q_G → q_M → Prop} : q_pf 4 1 false (GG T L) m 32 (.int v) F ↔ F (GG T L) (q_up m 32 1 v) := ⟨fun h => h.2.2.2, fun h => ⟨rfl, by decide, fun z => (by cases z), h⟩⟩
theorem gf32_2 {F : Value → Prop} : q_gf 4 2 (GG T L) m 32 F ↔ F (.ref 33) := ⟨fun h => h.2, fun h => ⟨rfl, h⟩⟩
theorem io32 : q_io 4 (GG T L) 32 ↔ True := ⟨fun _ => trivial, fun _ => rfl⟩
theorem gf34_0 {F : Value → Prop} : q_gf 4 0 (GG T L) m 34 F ↔ F (.int (m 34 0)) := ⟨fun h => h.2, fun h => ⟨rfl, h⟩⟩
theorem pf34_0 {F : q_G → q_M → Prop} : q_pf 4 0 false (GG T L) m 34 (.int v) F ↔ F (GG T L) (q_up m 34 0 v) := ⟨fun h => h.2.2.2, fun h => ⟨rfl, by decide, fun z => (by cases z), h⟩⟩
theorem gf34_1 {F : Value → Prop} : q_gf 4 1 (GG T L) m 34 F ↔ F (.int (m 34 1)) := ⟨fun h => h.2, fun h => ⟨rfl, h⟩⟩
theorem pf34_1 {F : q_G → q_M → Prop} : q_pf 4 1 false (GG T L) m 34 (.int v) F ↔ F (GG T L) (q_up m 34 1 v) := ⟨fun h => h.2.2.2, fun h => ⟨rfl, by decide, fun z => (by cases z), h⟩⟩
theorem gf34_2 {F : Value → Prop} : q_gf 4 2 (GG T L) m 34 F ↔ F (.ref 35) := ⟨fun h => h.2, fun h => ⟨rfl, h⟩⟩
theorem io34 : q_io 4 (GG T L) 34 ↔ True := ⟨fun _ => trivial, fun _ => rfl⟩
theorem gf36_0 {F : Value → Prop} : q_gf 4 0 (GG T L) m 36 F ↔ F (.int (m 36 0)) := ⟨fun h => h.2, fun h => ⟨rfl, h⟩⟩
theorem pf36_0 {F : q_G → q_M → Prop} : q_pf 4 0 false (GG T L) m 36 (.int v) F ↔ F (GG T L) (q_up m 36 0 v) := ⟨fun h => h.2.2.2, fun h => ⟨rfl, by decide, fun z => (by cases z), h⟩⟩
theorem gf36_1 {F : Value → Prop} : q_gf 4 1 (GG T L) m 36 F ↔ F (.int (m 36 1)) := ⟨fun h => h.2, fun h => ⟨rfl, h⟩⟩
theorem pf36_1 {F : q_G → q_M → Prop} : q_pf 4 1 false (GG T L) m 36 (.int v) F ↔ F (GG T L) (q_up m 36 1 v) := ⟨fun h => h.2.2.2, fun h => ⟨rfl, by decide, fun z => (by cases z), h⟩⟩
theorem gf36_2 {F : Value → Prop} : q_gf 4 2 (GG T L) m 36 F ↔ F (.ref 37) := ⟨fun h => h.2, fun h => ⟨rfl, h⟩⟩
theorem io36 : q_io 4 (GG T L) 36 ↔ True := ⟨fun _ => trivial, fun _ => rfl⟩
theorem gf38_0 {F : Value → Prop} : q_gf 8 0 (GG T L) m 38 F ↔ F (.int (m 38 0)) := ⟨fun h => h.2, fun h => ⟨rfl, h⟩⟩
theorem pf38_0 {F : q_G → q_M → Prop} : q_pf 8 0 false (GG T L) m 38 (.int v) F ↔ F (GG T L) (q_up m 38 0 v) := ⟨fun h => h.2.2.2, fun h => ⟨rfl, by decide, fun z => (by cases z), h⟩⟩
theorem gf38_1 {F : Value → Prop} : q_gf 8 1 (GG T L) m 38 F ↔ F (.ref 39) := ⟨fun h => h.2, fun h => ⟨rfl, h⟩⟩
theorem gf38_2 {F : Value → Prop} : q_gf 8 2 (GG T L) m 38 F ↔ F (.ref 40) := ⟨fun h => h.2, fun h => ⟨rfl, h⟩⟩
theorem gf38_3 {F : Value → Prop} : q_gf 8 3 (GG T L) m 38 F ↔ F (.ref 41) := ⟨fun h => h.2, fun h => ⟨rfl, h⟩⟩
theorem gf38_4 {F : Value → Prop} : q_gf 8 4 (GG T L) m 38 F ↔ F (.ref 42) := ⟨fun h => h.2, fun h => ⟨rfl, h⟩⟩
theorem gf38_5 {F : Value → Prop} : q_gf 8 5 (GG T L) m 38 F ↔ F (.int (m 38 5)) := ⟨fun h => h.2, fun h => ⟨rfl, h⟩⟩
theorem pf38_5 {F : q_G → q_M → Prop} : q_pf 8 5 false (GG T L) m 38 (.int v) F ↔ F (GG T L) (q_up m 38 5 v) := ⟨fun h => h.2.2.2, fun h => ⟨rfl, by decide, fun z => (by cases z), h⟩⟩
theorem gf38_6 {F : Value → Prop} : q_gf 8 6 (GG T L) m 38 F ↔ F (.ref 43) := ⟨fun h => h.2, fun h => ⟨rfl, h⟩⟩
theorem gf38_7 {F : Value → Prop} : q_gf 8 7 (GG T L) m 38 F ↔ F (.int (m 38 7)) := ⟨fun h => h.2, fun h => ⟨rfl, h⟩⟩
theorem pf38_7 {F : q_G → q_M → Prop} : q_pf 8 7 false (GG T L) m 38 (.int v) F ↔ F (GG T L) (q_up m 38 7 v) := ⟨fun h => h.2.2.2, fun h => ⟨rfl, by decide, fun z => (by cases z), h⟩⟩
theorem gf38_8 {F : Value → Prop} : q_gf 8 8 (GG T L) m 38 F ↔ F (.ref 44) := ⟨fun h => h.2, fun h => ⟨rfl, h⟩⟩
theorem gf38_9 {F : Value → Prop} : q_gf 8 9 (GG T L) m 38 F ↔ F (.ref 45) := ⟨fun h => h.2, fun h => ⟨rfl, h⟩⟩
theorem gf38_10 {F : Value → Prop} : q_gf 8 10 (GG T L) m 38 F ↔ F (.int (m 38 10)) := ⟨fun h => h.2, fun h => ⟨rfl, h⟩⟩
theorem pf38_10 {F : q_G → q_M → Prop} : q_pf 8 10 false (GG T L) m 38 (.int v) F ↔ F (GG T L) (q_up m 38 10 v) := ⟨fun h => h.2.2.2, fun h => ⟨rfl, by decide, fun z => (by cases z), h⟩⟩
theorem gf38_11 {F : Value → Prop} : q_gf 8 11 (GG T L) m 38 F ↔ F (.int (m 38 11)) := ⟨fun h => h.2, fun h => ⟨rfl, h⟩⟩
theorem pf38_11 {F : q_G → q_M → Prop} : q_pf 8 11 false (GG T L) m 38 (.int v) F ↔ F (GG T L) (q_up m 38 11 v) := ⟨fun h => h.2.2.2, fun h => ⟨rfl, by decide, fun z => (by cases z), h⟩⟩
theorem gf38_12 {F : Value → Prop} : q_gf 8 12 (GG T L) m 38 F ↔ F (.int (m 38 12)) := ⟨fun h => h.2, fun h => ⟨rfl, h⟩⟩
theorem pf38_12 {F : q_G → q_M → Prop} : q_pf 8 12 false (GG T L) m 38 (.int v) F ↔ F (GG T L) (q_up m 38 12 v) := ⟨fun h => h.2.2.2, fun h => ⟨rfl, by decide, fun z => (by cases z), h⟩⟩
theorem pfz38_12 {F : q_G → q_M → Prop} : q_pf 8 12 true (GG T L) m 38 (.int v) F ↔ ((v = 0 ∨ v = 1) ∧ F (GG T L) (q_up m 38 12 v)) := ⟨fun h => ⟨h.2.2.1 rfl, h.2.2.2⟩, fun h => ⟨rfl, by decide, fun _ => h.1, h.2⟩⟩
theorem gf38_13 {F : Value → Prop} : q_gf 8 13 (GG T L) m 38 F ↔ F (.int (m 38 13)) := ⟨fun h => h.2, fun h => ⟨rfl, h⟩⟩
theorem pf38_13 {F : q_G → q_M → Prop} : q_pf 8 13 false (GG T L) m 38 (.int v) F ↔ F (GG T L) (q_up m 38 13 v) := ⟨fun h => h.2.2.2, fun h => ⟨rfl, by decide, fun z => (by cases z), h⟩⟩
theorem gf38_14 {F : Value → Prop} : q_gf 8 14 (GG T L) m 38 F ↔ F (.int (m 38 14)) := ⟨fun h => h.2, fun h => ⟨rfl, h⟩⟩
theorem pf38_14 {F : q_G → q_M → Prop} : q_pf 8 14 false (GG T L) m 38 (.int v) F ↔ F (GG T L) (q_up m 38 14 v) := ⟨fun h => h.2.2.2, fun h => ⟨rfl, by decide, fun z => (by cases z), h⟩⟩
theorem gf38_15 {F : Value → Prop} : q_gf 8 15 (GG T L) m 38 F ↔ F (.int (m 38 15)) := ⟨fun h => h.2, fun h => ⟨rfl, h⟩⟩
theorem pf38_15 {F : q_G → q_M → Prop} : q_pf 8 15 false (GG T L) m 38 (.int v) F ↔ F (GG T L) (q_up m 38 15 v) := ⟨fun h => h.2.2.2, fun h => ⟨rfl, by decide, fun z => (by cases z), h⟩⟩
theorem gf38_16 {F : Value → Prop} : q_gf 8 16 (GG T L) m 38 F ↔ F (.ref 46) := ⟨fun h => h.2, fun h => ⟨rfl, h⟩⟩
theorem gf38_17 {F : Value → Prop} : q_gf 8 17 (GG T L) m 38 F ↔ F (.ref 47) := ⟨fun h => h.2, fun h => ⟨rfl, h⟩⟩
theorem gf38_18 {F : Value → Prop} : q_gf 8 18 (GG T L) m 38 F ↔ F (.ref 48) := ⟨fun h => h.2, fun h => ⟨rfl, h⟩⟩
theorem gf38_19 {F : Value → Prop} : q_gf 8 19 (GG T L) m 38 F ↔ F (.ref 49) := ⟨fun h => h.2, fun h => ⟨rfl, h⟩⟩
theorem gf38_20 {F : Value → Prop} : q_gf 8 20 (GG T L) m 38 F ↔ F (.ref 50) := ⟨fun h => h.2, fun h => ⟨rfl, h⟩⟩
theorem gf38_21 {F : Value → Prop} : q_gf 8 21 (GG T L) m 38 F ↔ F (.int (m 38 21)) := ⟨fun h => h.2, fun h => ⟨rfl, h⟩⟩
theorem pf38_21 {F : q_G → q_M → Prop} : q_pf 8 21 false (GG T L) m 38 (.int v) F ↔ F (GG T L) (q_up m 38 21 v) := ⟨fun h => h.2.2.2, fun h => ⟨rfl, by decide, fun z => (by cases z), h⟩⟩
theorem gf38_22 {F : Value → Prop} : q_gf 8 22 (GG T L) m 38 F ↔ F (.int (m 38 22)) := ⟨fun h => h.2, fun h => ⟨rfl, h⟩⟩
theorem pf38_22 {F : q_G → q_M → Prop} : q_pf 8 22 false (GG T L) m 38 (.int v) F ↔ F (GG T L) (q_up m 38 22 v) := ⟨fun h => h.2.2.2, fun h => ⟨rfl, by decide, fun z => (by cases z), h⟩⟩
theorem gf38_23 {F : Value → Prop} : q_gf 8 23 (GG T L) m 38 F ↔ F (.int (m 38 23)) := ⟨fun h => h.2, fun h => ⟨rfl, h⟩⟩
theorem pf38_23 {F : q_G → q_M → Prop} : q_pf 8 23 false (GG T L) m 38 (.int v) F ↔ F (GG T L) (q_up m 38 23 v) := ⟨fun h => h.2.2.2, fun h => ⟨rfl, by decide, fun z => (by cases z), h⟩⟩
theorem gf38_24 {F : Value → Prop} : q_gf 8 24 (GG T L) m 38 F ↔ F (.int (m 38 24)) := ⟨fun h => h.2, fun h => ⟨rfl, h⟩⟩
theorem pf38_24 {F : q_G → q_M → Prop} : q_pf 8 24 false (GG T L) m 38 (.int v) F ↔ F (GG T L) (q_up m 38 24 v) := ⟨fun h => h.2.2.2, fun h => ⟨rfl, by decide, fun z => (by cases z), h⟩⟩
theorem gf38_25 {F : Value → Prop} : q_gf 8 25 (GG T L) m 38 F ↔ F (.ref 51) := ⟨fun h => h.2, fun h => ⟨rfl, h⟩⟩
theorem gf38_26 {F : Value → Prop} : q_gf 8 26 (GG T L) m 38 F ↔ F (.ref 52) := ⟨fun h => h.2, fun h => ⟨rfl, h⟩⟩
theorem gf38_27 {F : Value → Prop} : q_gf 8 27 (GG T L) m 38 F ↔ F (.int (m 38 27)) := ⟨fun h => h.2, fun h => ⟨rfl, h⟩⟩
theorem pf38_27 {F : q_G → q_M → Prop} : q_pf 8 27 false (GG T L) m 38 (.int v) F ↔ F (GG T L) (q_up m 38 27 v) := ⟨fun h => h.2.2.2, fun h => ⟨rfl, by decide, fun z => (by cases z), h⟩⟩
theorem gf38_28 {F : Value → Prop} : q_gf 8 28 (GG T L) m 38 F ↔ F (.int (m 38 28)) := ⟨fun h => h.2, fun h => ⟨rfl, h⟩⟩
theorem pf38_28 {F : q_G → q_M → Prop} : q_pf 8 28 false (GG T L) m 38 (.int v) F ↔ F (GG T L) (q_up m 38 28 v) := ⟨fun h => h.2.2.2, fun h => ⟨rfl, by decide, fun z => (by cases z), h⟩⟩
theorem gf38_29 {F : Value → Prop} : q_gf 8 29 (GG T L) m 38 F ↔ F (.int (m 38 29)) := ⟨fun h => h.2, fun h => ⟨rfl, h⟩⟩
theorem pf38_29 {F : q_G → q_M → Prop} : q_pf 8 29 false (GG T L) m 38 (.int v) F ↔ F (GG T L) (q_up m 38 29 v) := ⟨fun h => h.2.2.2, fun h => ⟨rfl, by decide, fun z => (by cases z), h⟩⟩
theorem gf38_30 {F : Value → Prop} : q_gf 8 30 (GG T L) m 38 F ↔ F (.ref 53) := ⟨fun h => h.2, fun h => ⟨rfl, h⟩⟩
theorem gf38_31 {F : Value → Prop} : q_gf 8 31 (GG T L) m 38 F ↔ F (.ref 54) := ⟨fun h => h.2, fun h => ⟨rfl, h⟩⟩
theorem gf38_32 {F : Value → Prop} : q_gf 8 32 (GG T L) m 38 F ↔ F (.int (m 38 32)) := ⟨fun h => h.2, fun h => ⟨rfl, h⟩⟩
theorem pf38_32 {F : q_G → q_M → Prop} : q_pf 8 32 false (GG T L) m 38 (.int v) F ↔ F (GG T L) (q_up m 38 32 v) := ⟨fun h => h.2.2.2, fun h => ⟨rfl, by decide, fun z => (by cases z), h⟩⟩
theorem gf38_33 {F : Value → Prop} : q_gf 8 33 (GG T L) m 38 F ↔ F (.int (m 38 33)) := ⟨fun h => h.2, fun h => ⟨rfl, h⟩⟩
theorem pf38_33 {F : q_G → q_M → Prop} : q_pf 8 33 false (GG T L) m 38 (.int v) F ↔ F (GG T L) (q_up m 38 33 v) := ⟨fun h => h.2.2.2, fun h => ⟨rfl, by decide, fun z => (by cases z), h⟩⟩
theorem gf38_34 {F : Value → Prop} : q_gf 8 34 (GG T L) m 38 F ↔ F (.ref 55) := ⟨fun h => h.2, fun h => ⟨rfl, h⟩⟩
theorem gf38_35 {F : Value → Prop} : q_gf 8 35 (GG T L) m 38 F ↔ F (.ref 56) := ⟨fun h => h.2, fun h => ⟨rfl, h⟩⟩
theorem gf38_36 {F : Value → Prop} : q_gf 8 36 (GG T L) m 38 F ↔ F (.int (m 38 36)) := ⟨fun h => h.2, fun h => ⟨rfl, h⟩⟩
theorem pf38_36 {F : q_G → q_M → Prop} : q_pf 8 36 false (GG T L) m 38 (.int v) F ↔ F (GG T L) (q_up m 38 36 v) := ⟨fun h => h.2.2.2, fun h => ⟨rfl, by decide, fun z => (by cases z), h⟩⟩
theorem gf38_37 {F : Value → Prop} : q_gf 8 37 (GG T L) m 38 F ↔ F (.ref 57) := ⟨fun h => h.2, fun h => ⟨rfl, h⟩⟩
theorem io38 : q_io 8 (GG T L) 38 ↔ True := ⟨fun _ => trivial, fun _ => rfl⟩
theorem sh4 : (GG T L).1 4 = .inl 6 := rfl
theorem sh5 : (GG T L).1 5 = .inl 6 := rfl
theorem sh6 : (GG T L).1 6 = .inl 6 := rfl
theorem sh7 : (GG T L).1 7 = .inl 6 := rfl
theorem sh8 : (GG T L).1 8 = .inl 6 := rfl
theorem sh9 : (GG T L).1 9 = .inl 36 := rfl
theorem sh11 : (GG T L).1 11 = .inl 10 := rfl
theorem sh14 : (GG T L).1 14 = .inl 40 := rfl
theorem sh15 : (GG T L).1 15 = .inl 36 := rfl
theorem sh16 : (GG T L).1 16 = .inl 64 := rfl
theorem sh17 : (GG T L).1 17 = .inl 6 := rfl
theorem sh18 : (GG T L).1 18 = .inl 6 := rfl
theorem sh20 : (GG T L).1 20 = .inl 6 := rfl
theorem sh21 : (GG T L).1 21 = .inl 6 := rfl
theorem sh22 : (GG T L).1 22 = .inl 6 := rfl
theorem sh23 : (GG T L).1 23 = .inl 6 := rfl
theorem sh24 : (GG T L).1 24 = .inl 6 := rfl
theorem sh25 : (GG T L).1 25 = .inl 36 := rfl
theorem sh27 : (GG T L).1 27 = .inl 160 := rfl
theorem sh28 : (GG T L).1 28 = .inl 160 := rfl
theorem sh31 : (GG T L).1 31 = .inl 40 := rfl
theorem sh33 : (GG T L).1 33 = .inl 40 := rfl
theorem sh35 : (GG T L).1 35 = .inl 40 := rfl
theorem sh37 : (GG T L).1 37 = .inl 40 := rfl
theorem sh39 : (GG T L).1 39 = .inl 6 := rfl
theorem sh40 : (GG T L).1 40 = .inl 6 := rfl
theorem sh41 : (GG T L).1 41 = .inl 18 := rfl
theorem sh42 : (GG T L).1 42 = .inl 36 := rfl
theorem sh43 : (GG T L).1 43 = .inl 160 := rfl
theorem sh44 : (GG T L).1 44 = .inl 1200 := rfl
theorem sh45 : (GG T L).1 45 = .inl 24 := rfl
theorem sh46 : (GG T L).1 46 = .inl 54 := rfl
theorem sh47 : (GG T L).1 47 = .inl 4 := rfl
theorem sh48 : (GG T L).1 48 = .inl 4 := rfl
theorem sh49 : (GG T L).1 49 = .inl 160 := rfl
theorem sh50 : (GG T L).1 50 = .inl 41 := rfl
theorem sh51 : (GG T L).1 51 = .inl 96 := rfl
theorem sh52 : (GG T L).1 52 = .inl 200 := rfl
theorem sh53 : (GG T L).1 53 = .inl 200 := rfl
theorem sh54 : (GG T L).1 54 = .inl 6 := rfl
theorem sh55 : (GG T L).1 55 = .inl 6 := rfl
theorem sh56 : (GG T L).1 56 = .inl 6 := rfl
theorem sh57 : (GG T L).1 57 = .inl 6 := rfl
theorem q_vpI {i n : Nat} (h : i < 2 ^ 31) : vp_in (nI i) n ↔ i < n := by
  unfold vp_in
  rw [nI_clamp h]
  have := nI_pos (n := i) h
  constructor
  · intro q
    exact Nat.not_le.mp fun z => q (Or.inr z)
  · rintro q (z | z)
    · exact this z
    · omega
theorem al12 {F : Int32 → Prop} : q_al (GG T L) 12 F ↔ F (nI 6) := ⟨fun h => h.2, fun h => ⟨by decide, h⟩⟩
theorem al29 {F : Int32 → Prop} : q_al (GG T L) 29 F ↔ F (nI 4) := ⟨fun h => h.2, fun h => ⟨by decide, h⟩⟩
theorem al_of {k n : Nat} (hs : (GG T L).1 k = .inl n) {F : Int32 → Prop} : q_al (GG T L) k F ↔ F (nI n) := by
  unfold q_al
  rw [hs]
theorem ia_of {k n i : Nat} (hs : (GG T L).1 k = .inl n) (hk : k < 930) (hn : n < 2 ^ 31) (hi : i < n) {F : Int32 → Prop} : q_ia (GG T L) m k (nI i) F ↔ F (m k i) := by
  unfold q_ia
  rw [hs]
  dsimp only
  rw [q_vpI (by omega), nI_clamp (by omega)]
  exact ⟨fun h => h.2.2, fun h => ⟨hi, hk, h⟩⟩
theorem is_of {k n i : Nat} (hs : (GG T L).1 k = .inl n) (hk : k < 900) (hn : n < 2 ^ 31) (hi : i < n) {F : Prop} : q_is (GG T L) k (nI i) F ↔ F := by
  unfold q_is
  rw [hs]
  dsimp only
  rw [q_vpI (by omega)]
  exact ⟨fun h => h.2.2, fun h => ⟨hi, hk, h⟩⟩
theorem al4 {F : Int32 → Prop} : q_al (GG T L) 4 F ↔ F (nI 6) := al_of sh4
theorem ia4 {i : Nat} (h : i < 6) {F : Int32 → Prop} : q_ia (GG T L) m 4 (nI i) F ↔ F (m 4 i) := ia_of sh4 (by decide) (by decide) h
theorem is4 {i : Nat} (h : i < 6) {F : Prop} : q_is (GG T L) 4 (nI i) F ↔ F := is_of sh4 (by decide) (by decide) h
theorem al5 {F : Int32 → Prop} : q_al (GG T L) 5 F ↔ F (nI 6) := al_of sh5
theorem ia5 {i : Nat} (h : i < 6) {F : Int32 → Prop} : q_ia (GG T L) m 5 (nI i) F ↔ F (m 5 i) := ia_of sh5 (by decide) (by decide) h
theorem is5 {i : Nat} (h : i < 6) {F : Prop} : q_is (GG T L) 5 (nI i) F ↔ F := is_of sh5 (by decide) (by decide) h
theorem al6 {F : Int32 → Prop} : q_al (GG T L) 6 F ↔ F (nI 6) := al_of sh6
theorem ia6 {i : Nat} (h : i < 6) {F : Int32 → Prop} : q_ia (GG T L) m 6 (nI i) F ↔ F (m 6 i) := ia_of sh6 (by decide) (by decide) h
theorem is6 {i : Nat} (h : i < 6) {F : Prop} : q_is (GG T L) 6 (nI i) F ↔ F := is_of sh6 (by decide) (by decide) h
theorem al7 {F : Int32 → Prop} : q_al (GG T L) 7 F ↔ F (nI 6) := al_of sh7
theorem ia7 {i : Nat} (h : i < 6) {F : Int32 → Prop} : q_ia (GG T L) m 7 (nI i) F ↔ F (m 7 i) := ia_of sh7 (by decide) (by decide) h
theorem is7 {i : Nat} (h : i < 6) {F : Prop} : q_is (GG T L) 7 (nI i) F ↔ F := is_of sh7 (by decide) (by decide) h
theorem al8 {F : Int32 → Prop} : q_al (GG T L) 8 F ↔ F (nI 6) := al_of sh8
theorem ia8 {i : Nat} (h : i < 6) {F : Int32 → Prop} : q_ia (GG T L) m 8 (nI i) F ↔ F (m 8 i) := ia_of sh8 (by decide) (by decide) h
theorem is8 {i : Nat} (h : i < 6) {F : Prop} : q_is (GG T L) 8 (nI i) F ↔ F := is_of sh8 (by decide) (by decide) h
theorem al9 {F : Int32 → Prop} : q_al (GG T L) 9 F ↔ F (nI 36) := al_of sh9
theorem ia9 {i : Nat} (h : i < 36) {F : Int32 → Prop} : q_ia (GG T L) m 9 (nI i) F ↔ F (m 9 i) := ia_of sh9 (by decide) (by decide) h
theorem is9 {i : Nat} (h : i < 36) {F : Prop} : q_is (GG T L) 9 (nI i) F ↔ F := is_of sh9 (by decide) (by decide) h
theorem al11 {F : Int32 → Prop} : q_al (GG T L) 11 F ↔ F (nI 10) := al_of sh11
theorem ia11 {i : Nat} (h : i < 10) {F : Int32 → Prop} : q_ia (GG T L) m 11 (nI i) F ↔ F (m 11 i) := ia_of sh11 (by decide) (by decide) h
theorem is11 {i : Nat} (h : i < 10) {F : Prop} : q_is (GG T L) 11 (nI i) F ↔ F := is_of sh11 (by decide) (by decide) h
theorem al14 {F : Int32 → Prop} : q_al (GG T L) 14 F ↔ F (nI 40) := al_of sh14
theorem ia14 {i : Nat} (h : i < 40) {F : Int32 → Prop} : q_ia (GG T L) m 14 (nI i) F ↔ F (m 14 i) := ia_of sh14 (by decide) (by decide) h
theorem is14 {i : Nat} (h : i < 40) {F : Prop} : q_is (GG T L) 14 (nI i) F ↔ F := is_of sh14 (by decide) (by decide) h
theorem al15 {F : Int32 → Prop} : q_al (GG T L) 15 F ↔ F (nI 36) := al_of sh15
theorem ia15 {i : Nat} (h : i < 36) {F : Int32 → Prop} : q_ia (GG T L) m 15 (nI i) F ↔ F (m 15 i) := ia_of sh15 (by decide) (by decide) h
theorem is15 {i : Nat} (h : i < 36) {F : Prop} : q_is (GG T L) 15 (nI i) F ↔ F := is_of sh15 (by decide) (by decide) h
theorem al16 {F : Int32 → Prop} : q_al (GG T L) 16 F ↔ F (nI 64) := al_of sh16
theorem ia16 {i : Nat} (h : i < 64) {F : Int32 → Prop} : q_ia (GG T L) m 16 (nI i) F ↔ F (m 16 i) := ia_of sh16 (by decide) (by decide) h
theorem is16 {i : Nat} (h : i < 64) {F : Prop} : q_is (GG T L) 16 (nI i) F ↔ F := is_of sh16 (by decide) (by decide) h
theorem al17 {F : Int32 → Prop} : q_al (GG T L) 17 F ↔ F (nI 6) := al_of sh17
theorem ia17 {i : Nat} (h : i < 6) {F : Int32 → Prop} : q_ia (GG T L) m 17 (nI i) F ↔ F (m 17 i) := ia_of sh17 (by decide) (by decide) h
theorem is17 {i : Nat} (h : i < 6) {F : Prop} : q_is (GG T L) 17 (nI i) F ↔ F := is_of sh17 (by decide) (by decide) h
theorem al18 {F : Int32 → Prop} : q_al (GG T L) 18 F ↔ F (nI 6) := al_of sh18
theorem ia18 {i : Nat} (h : i < 6) {F : Int32 → Prop} : q_ia (GG T L) m 18 (nI i) F ↔ F (m 18 i) := ia_of sh18 (by decide) (by decide) h
theorem is18 {i : Nat} (h : i < 6) {F : Prop} : q_is (GG T L) 18 (nI i) F ↔ F := is_of sh18 (by decide) (by decide) h
theorem al20 {F : Int32 → Prop} : q_al (GG T L) 20 F ↔ F (nI 6) := al_of sh20
theorem ia20 {i : Nat} (h : i < 6) {F : Int32 → Prop} : q_ia (GG T L) m 20 (nI i) F ↔ F (m 20 i) := ia_of sh20 (by decide) (by decide) h
theorem is20 {i : Nat} (h : i < 6) {F : Prop} : q_is (GG T L) 20 (nI i) F ↔ F := is_of sh20 (by decide) (by decide) h
theorem al21 {F : Int32 → Prop} : q_al (GG T L) 21 F ↔ F (nI 6) := al_of sh21
theorem ia21 {i : Nat} (h : i < 6) {F : Int32 → Prop} : q_ia (GG T L) m 21 (nI i) F ↔ F (m 21 i) := ia_of sh21 (by decide) (by decide) h
theorem is21 {i : Nat} (h : i < 6) {F : Prop} : q_is (GG T L) 21 (nI i) F ↔ F := is_of sh21 (by decide) (by decide) h
theorem al22 {F : Int32 → Prop} : q_al (GG T L) 22 F ↔ F (nI 6) := al_of sh22
theorem ia22 {i : Nat} (h : i < 6) {F : Int32 → Prop} : q_ia (GG T L) m 22 (nI i) F ↔ F (m 22 i) := ia_of sh22 (by decide) (by decide) h
theorem is22 {i : Nat} (h : i < 6) {F : Prop} : q_is (GG T L) 22 (nI i) F ↔ F := is_of sh22 (by decide) (by decide) h
theorem al23 {F : Int32 → Prop} : q_al (GG T L) 23 F ↔ F (nI 6) := al_of sh23
theorem ia23 {i : Nat} (h : i < 6) {F : Int32 → Prop} : q_ia (GG T L) m 23 (nI i) F ↔ F (m 23 i) := ia_of sh23 (by decide) (by decide) h
theorem is23 {i : Nat} (h : i < 6) {F : Prop} : q_is (GG T L) 23 (nI i) F ↔ F := is_of sh23 (by decide) (by decide) h
theorem al24 {F : Int32 → Prop} : q_al (GG T L) 24 F ↔ F (nI 6) := al_of sh24
theorem ia24 {i : Nat} (h : i < 6) {F : Int32 → Prop} : q_ia (GG T L) m 24 (nI i) F ↔ F (m 24 i) := ia_of sh24 (by decide) (by decide) h
theorem is24 {i : Nat} (h : i < 6) {F : Prop} : q_is (GG T L) 24 (nI i) F ↔ F := is_of sh24 (by decide) (by decide) h
theorem al25 {F : Int32 → Prop} : q_al (GG T L) 25 F ↔ F (nI 36) := al_of sh25
theorem ia25 {i : Nat} (h : i < 36) {F : Int32 → Prop} : q_ia (GG T L) m 25 (nI i) F ↔ F (m 25 i) := ia_of sh25 (by decide) (by decide) h
theorem is25 {i : Nat} (h : i < 36) {F : Prop} : q_is (GG T L) 25 (nI i) F ↔ F := is_of sh25 (by decide) (by decide) h
theorem al27 {F : Int32 → Prop} : q_al (GG T L) 27 F ↔ F (nI 160) := al_of sh27
theorem ia27 {i : Nat} (h : i < 160) {F : Int32 → Prop} : q_ia (GG T L) m 27 (nI i) F ↔ F (m 27 i) := ia_of sh27 (by decide) (by decide) h
theorem is27 {i : Nat} (h : i < 160) {F : Prop} : q_is (GG T L) 27 (nI i) F ↔ F := is_of sh27 (by decide) (by decide) h
theorem al28 {F : Int32 → Prop} : q_al (GG T L) 28 F ↔ F (nI 160) := al_of sh28
theorem ia28 {i : Nat} (h : i < 160) {F : Int32 → Prop} : q_ia (GG T L) m 28 (nI i) F ↔ F (m 28 i) := ia_of sh28 (by decide) (by decide) h
theorem is28 {i : Nat} (h : i < 160) {F : Prop} : q_is (GG T L) 28 (nI i) F ↔ F := is_of sh28 (by decide) (by decide) h
theorem al31 {F : Int32 → Prop} : q_al (GG T L) 31 F ↔ F (nI 40) := al_of sh31
theorem ia31 {i : Nat} (h : i < 40) {F : Int32 → Prop} : q_ia (GG T L) m 31 (nI i) F ↔ F (m 31 i) := ia_of sh31 (by decide) (by decide) h
theorem is31 {i : Nat} (h : i < 40) {F : Prop} : q_is (GG T L) 31 (nI i) F ↔ F := is_of sh31 (by decide) (by decide) h
theorem al33 {F : Int32 → Prop} : q_al (GG T L) 33 F ↔ F (nI 40) := al_of sh33
theorem ia33 {i : Nat} (h : i < 40) {F : Int32 → Prop} : q_ia (GG T L) m 33 (nI i) F ↔ F (m 33 i) := ia_of sh33 (by decide) (by decide) h
theorem is33 {i : Nat} (h : i < 40) {F : Prop} : q_is (GG T L) 33 (nI i) F ↔ F := is_of sh33 (by decide) (by decide) h
theorem al35 {F : Int32 → Prop} : q_al (GG T L) 35 F ↔ F (nI 40) := al_of sh35
theorem ia35 {i : Nat} (h : i < 40) {F : Int32 → Prop} : q_ia (GG T L) m 35 (nI i) F ↔ F (m 35 i) := ia_of sh35 (by decide) (by decide) h
theorem is35 {i : Nat} (h : i < 40) {F : Prop} : q_is (GG T L) 35 (nI i) F ↔ F := is_of sh35 (by decide) (by decide) h
theorem al37 {F : Int32 → Prop} : q_al (GG T L) 37 F ↔ F (nI 40) := al_of sh37
theorem ia37 {i : Nat} (h : i < 40) {F : Int32 → Prop} : q_ia (GG T L) m 37 (nI i) F ↔ F (m 37 i) := ia_of sh37 (by decide) (by decide) h
theorem is37 {i : Nat} (h : i < 40) {F : Prop} : q_is (GG T L) 37 (nI i) F ↔ F := is_of sh37 (by decide) (by decide) h
theorem al39 {F : Int32 → Prop} : q_al (GG T L) 39 F ↔ F (nI 6) := al_of sh39
theorem ia39 {i : Nat} (h : i < 6) {F : Int32 → Prop} : q_ia (GG T L) m 39 (nI i) F ↔ F (m 39 i) := ia_of sh39 (by decide) (by decide) h
theorem is39 {i : Nat} (h : i < 6) {F : Prop} : q_is (GG T L) 39 (nI i) F ↔ F := is_of sh39 (by decide) (by decide) h
theorem al40 {F : Int32 → Prop} : q_al (GG T L) 40 F ↔ F (nI 6) := al_of sh40
theorem ia40 {i : Nat} (h : i < 6) {F : Int32 → Prop} : q_ia (GG T L) m 40 (nI i) F ↔ F (m 40 i) := ia_of sh40 (by decide) (by decide) h
theorem is40 {i : Nat} (h : i < 6) {F : Prop} : q_is (GG T L) 40 (nI i) F ↔ F := is_of sh40 (by decide) (by decide) h
theorem al41 {F : Int32 → Prop} : q_al (GG T L) 41 F ↔ F (nI 18) := al_of sh41
theorem ia41 {i : Nat} (h : i < 18) {F : Int32 → Prop} : q_ia (GG T L) m 41 (nI i) F ↔ F (m 41 i) := ia_of sh41 (by decide) (by decide) h
theorem is41 {i : Nat} (h : i < 18) {F : Prop} : q_is (GG T L) 41 (nI i) F ↔ F := is_of sh41 (by decide) (by decide) h
theorem al42 {F : Int32 → Prop} : q_al (GG T L) 42 F ↔ F (nI 36) := al_of sh42
theorem ia42 {i : Nat} (h : i < 36) {F : Int32 → Prop} : q_ia (GG T L) m 42 (nI i) F ↔ F (m 42 i) := ia_of sh42 (by decide) (by decide) h
theorem is42 {i : Nat} (h : i < 36) {F : Prop} : q_is (GG T L) 42 (nI i) F ↔ F := is_of sh42 (by decide) (by decide) h
theorem al43 {F : Int32 → Prop} : q_al (GG T L) 43 F ↔ F (nI 160) := al_of sh43
theorem ia43 {i : Nat} (h : i < 160) {F : Int32 → Prop} : q_ia (GG T L) m 43 (nI i) F ↔ F (m 43 i) := ia_of sh43 (by decide) (by decide) h
theorem is43 {i : Nat} (h : i < 160) {F : Prop} : q_is (GG T L) 43 (nI i) F ↔ F := is_of sh43 (by decide) (by decide) h
theorem al44 {F : Int32 → Prop} : q_al (GG T L) 44 F ↔ F (nI 1200) := al_of sh44
theorem ia44 {i : Nat} (h : i < 1200) {F : Int32 → Prop} : q_ia (GG T L) m 44 (nI i) F ↔ F (m 44 i) := ia_of sh44 (by decide) (by decide) h
theorem is44 {i : Nat} (h : i < 1200) {F : Prop} : q_is (GG T L) 44 (nI i) F ↔ F := is_of sh44 (by decide) (by decide) h
theorem al45 {F : Int32 → Prop} : q_al (GG T L) 45 F ↔ F (nI 24) := al_of sh45
theorem ia45 {i : Nat} (h : i < 24) {F : Int32 → Prop} : q_ia (GG T L) m 45 (nI i) F ↔ F (m 45 i) := ia_of sh45 (by decide) (by decide) h
theorem is45 {i : Nat} (h : i < 24) {F : Prop} : q_is (GG T L) 45 (nI i) F ↔ F := is_of sh45 (by decide) (by decide) h
theorem al46 {F : Int32 → Prop} : q_al (GG T L) 46 F ↔ F (nI 54) := al_of sh46
theorem ia46 {i : Nat} (h : i < 54) {F : Int32 → Prop} : q_ia (GG T L) m 46 (nI i) F ↔ F (m 46 i) := ia_of sh46 (by decide) (by decide) h
theorem is46 {i : Nat} (h : i < 54) {F : Prop} : q_is (GG T L) 46 (nI i) F ↔ F := is_of sh46 (by decide) (by decide) h
theorem al47 {F : Int32 → Prop} : q_al (GG T L) 47 F ↔ F (nI 4) := al_of sh47
theorem ia47 {i : Nat} (h : i < 4) {F : Int32 → Prop} : q_ia (GG T L) m 47 (nI i) F ↔ F (m 47 i) := ia_of sh47 (by decide) (by decide) h
theorem is47 {i : Nat} (h : i < 4) {F : Prop} : q_is (GG T L) 47 (nI i) F ↔ F := is_of sh47 (by decide) (by decide) h
theorem al48 {F : Int32 → Prop} : q_al (GG T L) 48 F ↔ F (nI 4) := al_of sh48
theorem ia48 {i : Nat} (h : i < 4) {F : Int32 → Prop} : q_ia (GG T L) m 48 (nI i) F ↔ F (m 48 i) := ia_of sh48 (by decide) (by decide) h
theorem is48 {i : Nat} (h : i < 4) {F : Prop} : q_is (GG T L) 48 (nI i) F ↔ F := is_of sh48 (by decide) (by decide) h
theorem al49 {F : Int32 → Prop} : q_al (GG T L) 49 F ↔ F (nI 160) := al_of sh49
theorem ia49 {i : Nat} (h : i < 160) {F : Int32 → Prop} : q_ia (GG T L) m 49 (nI i) F ↔ F (m 49 i) := ia_of sh49 (by decide) (by decide) h
theorem is49 {i : Nat} (h : i < 160) {F : Prop} : q_is (GG T L) 49 (nI i) F ↔ F := is_of sh49 (by decide) (by decide) h
theorem al50 {F : Int32 → Prop} : q_al (GG T L) 50 F ↔ F (nI 41) := al_of sh50
theorem ia50 {i : Nat} (h : i < 41) {F : Int32 → Prop} : q_ia (GG T L) m 50 (nI i) F ↔ F (m 50 i) := ia_of sh50 (by decide) (by decide) h
theorem is50 {i : Nat} (h : i < 41) {F : Prop} : q_is (GG T L) 50 (nI i) F ↔ F := is_of sh50 (by decide) (by decide) h
theorem al51 {F : Int32 → Prop} : q_al (GG T L) 51 F ↔ F (nI 96) := al_of sh51
theorem ia51 {i : Nat} (h : i < 96) {F : Int32 → Prop} : q_ia (GG T L) m 51 (nI i) F ↔ F (m 51 i) := ia_of sh51 (by decide) (by decide) h
theorem is51 {i : Nat} (h : i < 96) {F : Prop} : q_is (GG T L) 51 (nI i) F ↔ F := is_of sh51 (by decide) (by decide) h
theorem al52 {F : Int32 → Prop} : q_al (GG T L) 52 F ↔ F (nI 200) := al_of sh52
theorem ia52 {i : Nat} (h : i < 200) {F : Int32 → Prop} : q_ia (GG T L) m 52 (nI i) F ↔ F (m 52 i) := ia_of sh52 (by decide) (by decide) h
theorem is52 {i : Nat} (h : i < 200) {F : Prop} : q_is (GG T L) 52 (nI i) F ↔ F := is_of sh52 (by decide) (by decide) h
theorem al53 {F : Int32 → Prop} : q_al (GG T L) 53 F ↔ F (nI 200) := al_of sh53
theorem ia53 {i : Nat} (h : i < 200) {F : Int32 → Prop} : q_ia (GG T L) m 53 (nI i) F ↔ F (m 53 i) := ia_of sh53 (by decide) (by decide) h
theorem is53 {i : Nat} (h : i < 200) {F : Prop} : q_is (GG T L) 53 (nI i) F ↔ F := is_of sh53 (by decide) (by decide) h
theorem al54 {F : Int32 → Prop} : q_al (GG T L) 54 F ↔ F (nI 6) := al_of sh54
theorem ia54 {i : Nat} (h : i < 6) {F : Int32 → Prop} : q_ia (GG T L) m 54 (nI i) F ↔ F (m 54 i) := ia_of sh54 (by decide) (by decide) h
theorem is54 {i : Nat} (h : i < 6) {F : Prop} : q_is (GG T L) 54 (nI i) F ↔ F := is_of sh54 (by decide) (by decide) h
theorem al55 {F : Int32 → Prop} : q_al (GG T L) 55 F ↔ F (nI 6) := al_of sh55
theorem ia55 {i : Nat} (h : i < 6) {F : Int32 → Prop} : q_ia (GG T L) m 55 (nI i) F ↔ F (m 55 i) := ia_of sh55 (by decide) (by decide) h
theorem is55 {i : Nat} (h : i < 6) {F : Prop} : q_is (GG T L) 55 (nI i) F ↔ F := is_of sh55 (by decide) (by decide) h
theorem al56 {F : Int32 → Prop} : q_al (GG T L) 56 F ↔ F (nI 6) := al_of sh56
theorem ia56 {i : Nat} (h : i < 6) {F : Int32 → Prop} : q_ia (GG T L) m 56 (nI i) F ↔ F (m 56 i) := ia_of sh56 (by decide) (by decide) h
theorem is56 {i : Nat} (h : i < 6) {F : Prop} : q_is (GG T L) 56 (nI i) F ↔ F := is_of sh56 (by decide) (by decide) h
theorem al57 {F : Int32 → Prop} : q_al (GG T L) 57 F ↔ F (nI 6) := al_of sh57
theorem ia57 {i : Nat} (h : i < 6) {F : Int32 → Prop} : q_ia (GG T L) m 57 (nI i) F ↔ F (m 57 i) := ia_of sh57 (by decide) (by decide) h
theorem is57 {i : Nat} (h : i < 6) {F : Prop} : q_is (GG T L) 57 (nI i) F ↔ F := is_of sh57 (by decide) (by decide) h
end QP
