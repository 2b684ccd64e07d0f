theorem q_i0 {w : Cond} (h : w ∈ k2_sels lw_privs) : w ∈ lw_tbl := List.mem_append_left _ h
theorem q_i1 {w : Cond} (h : w ∈ tables_1_1) : w ∈ lw_tbl := List.mem_append_right _ (show w ∈ tables_1 from List.mem_append_left _ h)
theorem q_i2 {w : Cond} (h : w ∈ tables_1_2) : w ∈ lw_tbl := List.mem_append_right _ (show w ∈ tables_1 from List.mem_append_right _ (List.mem_append_left _ h))
theorem q_i3 {w : Cond} (h : w ∈ tables_1_3) : w ∈ lw_tbl := List.mem_append_right _ (show w ∈ tables_1 from List.mem_append_right _ (List.mem_append_right _ (List.mem_append_left _ h)))
theorem q_i4 {w : Cond} (h : w ∈ tables_1_4) : w ∈ lw_tbl := List.mem_append_right _ (show w ∈ tables_1 from List.mem_append_right _ (List.mem_append_right _ (List.mem_append_right _ (List.mem_append_left _ h))))
theorem q_i5 {w : Cond} (h : w ∈ tables_1_5) : w ∈ lw_tbl := List.mem_append_right _ (show w ∈ tables_1 from List.mem_append_right _ (List.mem_append_right _ (List.mem_append_right _ (List.mem_append_right _ (List.mem_append_left _ h)))))
theorem q_i6 {w : Cond} (h : w ∈ tables_1_6) : w ∈ lw_tbl := List.mem_append_right _ (show w ∈ tables_1 from List.mem_append_right _ (List.mem_append_right _ (List.mem_append_right _ (List.mem_append_right _ (List.mem_append_right _ (h))))))
def q_ys : List MethodName := [yX0_init, yX0_named, yX1_init, yX1_has, yX1_add, yX1_apart, yX1_behind, yX1_chained, yX1_pay, yX1_become, yX2_init, yX2_compare, yX2_compareAll, yX2_canBe, yX2_fitting, yX2_firstFitting, yX2_weigh, yX2_sumBy, yX2_leastSum, yX2_firstLeast, yX2_byLots, yX2_selves, yX2_digits, yX3_init, yX3_add, yX3_read, yX3_emit, yX3_take, yX3_part, yX3_either, yX3_both, yX3_negation, yX3_sum, yX3_product, yX3_one, yX3_advance, yX3_number, yX3_word, yX3_isWord, yX3_isBlank, yX3_isLetter, yX3_isDigit, yX3_isSign, yX4_init, yX4_become, yX4_write, yX5_init, yX5_addText, yX5_law, yX5_asking, yX5_well, yX5_passesFrom, yX5_doing, yX5_knownOn, yX5_otherwise, yX5_tally, yX6_init, yX6_says, yX6_ofBoth, yX7_init, yX7_count, yX7_feed, yX7_text, yX7_force, yX7_asks, yX7_guest, yX7_told, yX7_pair, yX7_set, yX7_does, yX7_would, yX7_known, yX7_evening, yX7_live, yX7_may, yX7_fits, yX7_next, yX7_fewest, yX7_best, yX7_chain, yX7_ring, yX7_asIf, yX7_learns, yX7_judge, yX7_kinds, yX7_manners, yX7_whose, yX7_laws, yX7_film, yX7_drawn, yX7_lots, yX7_odds, yX7_chance, yX7_image, yX7_back, yX7_sheet, yX7_cell, yX7_copy, yX7_guestsBy, yX7_taken, yX7_at, yX7_put, yX7_place, yX7_bounded, yX7_answerOf, yX7_isByte, yX7_isMatter, yX7_areMatters, yX7_isSeed, yX7_isOneOf, yX7_lowest, yX7_arePair, yX7_sheetAt, yX7_refusalOfTold, yX7_firstOtherwise, yX8_init, yX8_in, yX8_within, yX8_ones, yX8_isGuest, yX8_isMatter, yX8_arePair, yX8_answer, yX8_count, yX8_isByte, yX8_feed, yX8_wordFrom, yX8_goesNext, yX8_rank, yX8_puts, yX8_unwinds, yX8_holds, yX8_opensOne, yX8_between, yX8_signOf, yX8_eRead, yX8_text, yX8_two, yX8_says, yX8_force, yX8_apartOf, yX8_asksOf, yX8_asks, yX8_guest, yX8_passesOf, yX8_told, yX8_wellOf, yX8_pair, yX8_set, yX8_doesAs, yX8_playsOf, yX8_does, yX8_would, yX8_knownOf, yX8_known, yX8_goes, yX8_evening, yX8_pays, yX8_live, yX8_mayOf, yX8_may, yX8_numbersAll, yX8_tells, yX8_digitsNow, yX8_fitMany, yX8_fits, yX8_next, yX8_fewest, yX8_isAllowed, yX8_plays, yX8_best, yX8_chainOf, yX8_chain, yX8_ring, yX8_asIf, yX8_otherwiseOn, yX8_learns, yX8_sheetWrong, yX8_toldWrong, yX8_unlike, yX8_judge, yX8_kinds, yX8_manners, yX8_whose, yX8_laws, yX8_film, yX8_drawsBy, yX8_themselves, yX8_drawn, yX8_lots, yX8_lowest, yX8_odds, yX8_chance, yX8_image, yX8_back, yX8_sheet, yX8_cell, yX8_copy, yX8_guestsBy, yX8_isUnder, yX8_taken, yJ6_bitCount_0f7a4, yJ9_max_7cf53, yJ9_min_7cf53, yJ0_length_8abf5, yJ0_charAt_5068e, yJ0_coder_7d493, yJ0_isLatin1_aae02, yJ0_checkIndex_df160, yJ1_charAt_3b067, yJ2_getChar_3b067, yJ2_length_9d52b, yJ2_charAt_3b067, yJ2_checkIndex_2214a, yJ3_checkIndex_8e157, yL_law]
def q_y (j : Nat) : MethodName := q_ys.getD j yL_law
def q_bs : List ByteArray := [cX0_init, cX0_named, cX1_init, cX1_has, cX1_add, cX1_apart, cX1_behind, cX1_chained, cX1_pay, cX1_become, cX2_init, cX2_compare, cX2_compareAll, cX2_canBe, cX2_fitting, cX2_firstFitting, cX2_weigh, cX2_sumBy, cX2_leastSum, cX2_firstLeast, cX2_byLots, cX2_selves, cX2_digits, cX3_init, cX3_add, cX3_read, cX3_emit, cX3_take, cX3_part, cX3_either, cX3_both, cX3_negation, cX3_sum, cX3_product, cX3_one, cX3_advance, cX3_number, cX3_word, cX3_isWord, cX3_isBlank, cX3_isLetter, cX3_isDigit, cX3_isSign, cX4_init, cX4_become, cX4_write, cX5_init, cX5_addText, cX5_law, cX5_asking, cX5_well, cX5_passesFrom, cX5_doing, cX5_knownOn, cX5_otherwise, cX5_tally, cX6_init, cX6_says, cX6_ofBoth, cX7_init, cX7_count, cX7_feed, cX7_text, cX7_force, cX7_asks, cX7_guest, cX7_told, cX7_pair, cX7_set, cX7_does, cX7_would, cX7_known, cX7_evening, cX7_live, cX7_may, cX7_fits, cX7_next, cX7_fewest, cX7_best, cX7_chain, cX7_ring, cX7_asIf, cX7_learns, cX7_judge, cX7_kinds, cX7_manners, cX7_whose, cX7_laws, cX7_film, cX7_drawn, cX7_lots, cX7_odds, cX7_chance, cX7_image, cX7_back, cX7_sheet, cX7_cell, cX7_copy, cX7_guestsBy, cX7_taken, cX7_at, cX7_put, cX7_place, cX7_bounded, cX7_answerOf, cX7_isByte, cX7_isMatter, cX7_areMatters, cX7_isSeed, cX7_isOneOf, cX7_lowest, cX7_arePair, cX7_sheetAt, cX7_refusalOfTold, cX7_firstOtherwise, cX8_init, cX8_in, cX8_within, cX8_ones, cX8_isGuest, cX8_isMatter, cX8_arePair, cX8_answer, cX8_count, cX8_isByte, cX8_feed, cX8_wordFrom, cX8_goesNext, cX8_rank, cX8_puts, cX8_unwinds, cX8_holds, cX8_opensOne, cX8_between, cX8_signOf, cX8_eRead, cX8_text, cX8_two, cX8_says, cX8_force, cX8_apartOf, cX8_asksOf, cX8_asks, cX8_guest, cX8_passesOf, cX8_told, cX8_wellOf, cX8_pair, cX8_set, cX8_doesAs, cX8_playsOf, cX8_does, cX8_would, cX8_knownOf, cX8_known, cX8_goes, cX8_evening, cX8_pays, cX8_live, cX8_mayOf, cX8_may, cX8_numbersAll, cX8_tells, cX8_digitsNow, cX8_fitMany, cX8_fits, cX8_next, cX8_fewest, cX8_isAllowed, cX8_plays, cX8_best, cX8_chainOf, cX8_chain, cX8_ring, cX8_asIf, cX8_otherwiseOn, cX8_learns, cX8_sheetWrong, cX8_toldWrong, cX8_unlike, cX8_judge, cX8_kinds, cX8_manners, cX8_whose, cX8_laws, cX8_film, cX8_drawsBy, cX8_themselves, cX8_drawn, cX8_lots, cX8_lowest, cX8_odds, cX8_chance, cX8_image, cX8_back, cX8_sheet, cX8_cell, cX8_copy, cX8_guestsBy, cX8_isUnder, cX8_taken, cJ6_bitCount_0f7a4, cJ9_max_7cf53, cJ9_min_7cf53, cJ0_length_8abf5, cJ0_charAt_5068e, cJ0_coder_7d493, cJ0_isLatin1_aae02, cJ0_checkIndex_df160, cJ1_charAt_3b067, cJ2_getChar_3b067, cJ2_length_9d52b, cJ2_charAt_3b067, cJ2_checkIndex_2214a, cJ3_checkIndex_8e157, cL_law]
def q_b (j : Nat) : ByteArray := q_bs.getD j cL_law
def q_cs : List String := [RX0, RX1, RX2, RX3, RX4, RX5, RX6, RX7, RX8, RJ0, RJ1, RJ2, RJ3, RJ6, RJ9, RL]
def q_cn (c : Nat) : String := q_cs.getD c RL
def q_kds : List Nat := [2, 1, 2, 1, 1, 1, 1, 1, 1, 1, 2, 1, 1, 1, 1, 1, 1, 1, 1, 1, 1, 1, 1, 2, 1, 1, 1, 1, 1, 1, 1, 1, 1, 1, 1, 1, 1, 1, 1, 0, 0, 0, 0, 2, 1, 1, 2, 1, 1, 1, 1, 1, 1, 1, 1, 1, 2, 1, 0, 2, 1, 1, 1, 1, 1, 1, 1, 1, 1, 1, 1, 1, 1, 1, 1, 1, 1, 1, 1, 1, 1, 1, 1, 1, 1, 1, 1, 1, 1, 1, 1, 1, 1, 1, 1, 1, 1, 1, 1, 1, 0, 0, 0, 0, 0, 0, 0, 0, 0, 0, 0, 1, 1, 1, 1, 2, 0, 0, 0, 1, 0, 1, 0, 1, 0, 1, 1, 1, 0, 1, 1, 1, 1, 1, 1, 1, 1, 0, 1, 1, 1, 1, 1, 1, 1, 1, 1, 1, 1, 1, 1, 1, 1, 1, 1, 1, 1, 1, 1, 1, 1, 1, 1, 1, 1, 1, 1, 1, 1, 1, 1, 1, 1, 1, 1, 1, 1, 1, 1, 1, 1, 1, 1, 1, 1, 1, 1, 1, 1, 1, 0, 1, 1, 1, 1, 1, 1, 1, 1, 0, 1, 0, 0, 0, 1, 1, 1, 1, 0, 0, 0, 0, 0, 0, 0, 0]
def q_kd (j : Nat) : Nat := q_kds.getD j 9
def q_nps : List Nat := [0, 1, 0, 1, 3, 2, 1, 2, 3, 1, 0, 1, 0, 2, 1, 0, 3, 3, 0, 0, 1, 0, 0, 0, 1, 0, 1, 1, 1, 1, 1, 1, 1, 1, 1, 0, 0, 0, 1, 1, 1, 1, 1, 0, 2, 2, 0, 1, 0, 3, 3, 1, 3, 2, 1, 2, 2, 2, 3, 0, 1, 6, 0, 1, 3, 2, 2, 2, 3, 2, 2, 1, 1, 0, 2, 2, 2, 0, 2, 2, 1, 3, 2, 2, 3, 3, 1, 2, 2, 2, 1, 3, 2, 0, 0, 3, 3, 5, 4, 2, 2, 3, 2, 2, 2, 1, 1, 1, 1, 2, 3, 1, 1, 1, 2, 0, 3, 3, 1, 1, 1, 1, 2, 1, 1, 6, 2, 0, 1, 1, 1, 1, 1, 1, 0, 0, 0, 3, 1, 1, 2, 4, 3, 2, 1, 2, 3, 2, 3, 3, 1, 2, 2, 1, 1, 0, 1, 3, 0, 2, 2, 0, 1, 0, 1, 2, 2, 0, 0, 0, 2, 2, 2, 1, 3, 1, 2, 1, 2, 2, 2, 3, 3, 1, 2, 2, 1, 0, 2, 1, 3, 3, 2, 0, 0, 3, 3, 5, 4, 2, 2, 1, 2, 2, 0, 1, 0, 0, 2, 2, 2, 1, 2, 2, 3, 1]
def q_np (j : Nat) : Nat := q_nps.getD j 0
def q_T (c : Nat) : u_T := match c with
  | 0 => TX0
  | 1 => TX1
  | 2 => TX2
  | 3 => TX3
  | 4 => TX4
  | 5 => TX5
  | 6 => TX6
  | 7 => TX7
  | _ => TX8
def q_tyT (c : Nat) : Nat → FieldType := match c with
  | 0 => tyX0
  | 1 => tyX1
  | 2 => tyX2
  | 3 => tyX3
  | 4 => tyX4
  | 5 => tyX5
  | 6 => tyX6
  | 7 => tyX7
  | _ => tyX8
def q_N (c : Nat) : Nat := match c with
  | 0 => 7
  | 1 => 9
  | 2 => 6
  | 3 => 8
  | 4 => 3
  | 5 => 5
  | 6 => 3
  | 7 => 7
  | _ => 38
theorem q_vw (c : Nat) (h : c < 9) : vwCl[c]? = some (q_cn c, q_T c, q_N c) := by
  match c, h with
  | 0, _ => rfl
  | 1, _ => rfl
  | 2, _ => rfl
  | 3, _ => rfl
  | 4, _ => rfl
  | 5, _ => rfl
  | 6, _ => rfl
  | 7, _ => rfl
  | 8, _ => rfl
  | c + 9, h => omega
theorem q_nmT (c : Nat) (h : c < 9) : ∀ a, a < q_N c → ∀ b, b < q_N c → a ≠ b → (q_T c a).2.1 ≠ (q_T c b).2.1 := by
  match c, h with
  | 0, _ => exact nmX0
  | 1, _ => exact nmX1
  | 2, _ => exact nmX2
  | 3, _ => exact nmX3
  | 4, _ => exact nmX4
  | 5, _ => exact nmX5
  | 6, _ => exact nmX6
  | 7, _ => exact nmX7
  | 8, _ => exact nmX8
  | c + 9, h => omega
theorem q_tyT_ok (c : Nat) (h : c < 9) : ∀ k, k < q_N c → parseFieldDescriptor (q_T c k).2.2.1 = some (q_tyT c k) := by
  match c, h with
  | 0, _ => exact tyX0_ok
  | 1, _ => exact tyX1_ok
  | 2, _ => exact tyX2_ok
  | 3, _ => exact tyX3_ok
  | 4, _ => exact tyX4_ok
  | 5, _ => exact tyX5_ok
  | 6, _ => exact tyX6_ok
  | 7, _ => exact tyX7_ok
  | 8, _ => exact tyX8_ok
  | c + 9, h => omega
def q_gm (w : Cond) : Prop := w ∈ lw_tbl ∧ goodWord w = true
def q_good : List Cond := lw_tbl.filter goodWord
theorem q_gm_in {w : Cond} (h : q_gm w) : w ∈ q_good := List.mem_filter.mpr h
theorem q_lay0 : ∀ w ∈ u_ws RX0 TX0 7, w ∈ q_good := by
  have h : u_ws RX0 TX0 7 = ([228, 230, 232, 234, 236, 238, 240] : List Nat).filterMap (fun i => lw_tbl[i]?) := by decide +kernel
  intro w hw
  have hg : (u_ws RX0 TX0 7).all goodWord = true := by decide +kernel
  have h1 := List.all_eq_true.mp hg w hw
  rw [h] at hw
  obtain ⟨i, -, hi⟩ := List.mem_filterMap.mp hw
  exact q_gm_in ⟨List.mem_of_getElem? hi, h1⟩
theorem q_lay1 : ∀ w ∈ u_ws RX1 TX1 9, w ∈ q_good := by
  have h : u_ws RX1 TX1 9 = ([157, 159, 161, 163, 165, 167, 169, 171, 173] : List Nat).filterMap (fun i => lw_tbl[i]?) := by decide +kernel
  intro w hw
  have hg : (u_ws RX1 TX1 9).all goodWord = true := by decide +kernel
  have h1 := List.all_eq_true.mp hg w hw
  rw [h] at hw
  obtain ⟨i, -, hi⟩ := List.mem_filterMap.mp hw
  exact q_gm_in ⟨List.mem_of_getElem? hi, h1⟩
theorem q_lay2 : ∀ w ∈ u_ws RX2 TX2 6, w ∈ q_good := by
  have h : u_ws RX2 TX2 6 = ([270, 272, 274, 276, 278, 280] : List Nat).filterMap (fun i => lw_tbl[i]?) := by decide +kernel
  intro w hw
  have hg : (u_ws RX2 TX2 6).all goodWord = true := by decide +kernel
  have h1 := List.all_eq_true.mp hg w hw
  rw [h] at hw
  obtain ⟨i, -, hi⟩ := List.mem_filterMap.mp hw
  exact q_gm_in ⟨List.mem_of_getElem? hi, h1⟩
theorem q_lay3 : ∀ w ∈ u_ws RX3 TX3 8, w ∈ q_good := by
  have h : u_ws RX3 TX3 8 = ([302, 304, 306, 308, 310, 312, 314, 316] : List Nat).filterMap (fun i => lw_tbl[i]?) := by decide +kernel
  intro w hw
  have hg : (u_ws RX3 TX3 8).all goodWord = true := by decide +kernel
  have h1 := List.all_eq_true.mp hg w hw
  rw [h] at hw
  obtain ⟨i, -, hi⟩ := List.mem_filterMap.mp hw
  exact q_gm_in ⟨List.mem_of_getElem? hi, h1⟩
theorem q_lay4 : ∀ w ∈ u_ws RX4 TX4 3, w ∈ q_good := by
  have h : u_ws RX4 TX4 3 = ([332, 334, 336] : List Nat).filterMap (fun i => lw_tbl[i]?) := by decide +kernel
  intro w hw
  have hg : (u_ws RX4 TX4 3).all goodWord = true := by decide +kernel
  have h1 := List.all_eq_true.mp hg w hw
  rw [h] at hw
  obtain ⟨i, -, hi⟩ := List.mem_filterMap.mp hw
  exact q_gm_in ⟨List.mem_of_getElem? hi, h1⟩
theorem q_lay5 : ∀ w ∈ u_ws RX5 TX5 5, w ∈ q_good := by
  have h : u_ws RX5 TX5 5 = ([250, 252, 254, 256, 258] : List Nat).filterMap (fun i => lw_tbl[i]?) := by decide +kernel
  intro w hw
  have hg : (u_ws RX5 TX5 5).all goodWord = true := by decide +kernel
  have h1 := List.all_eq_true.mp hg w hw
  rw [h] at hw
  obtain ⟨i, -, hi⟩ := List.mem_filterMap.mp hw
  exact q_gm_in ⟨List.mem_of_getElem? hi, h1⟩
theorem q_lay6 : ∀ w ∈ u_ws RX6 TX6 3, w ∈ q_good := by
  have h : u_ws RX6 TX6 3 = ([200, 202, 204] : List Nat).filterMap (fun i => lw_tbl[i]?) := by decide +kernel
  intro w hw
  have hg : (u_ws RX6 TX6 3).all goodWord = true := by decide +kernel
  have h1 := List.all_eq_true.mp hg w hw
  rw [h] at hw
  obtain ⟨i, -, hi⟩ := List.mem_filterMap.mp hw
  exact q_gm_in ⟨List.mem_of_getElem? hi, h1⟩
theorem q_lay7 : ∀ w ∈ u_ws RX7 TX7 7, w ∈ q_good := by
  have h : u_ws RX7 TX7 7 = ([346, 348, 350, 352, 354, 356, 358] : List Nat).filterMap (fun i => lw_tbl[i]?) := by decide +kernel
  intro w hw
  have hg : (u_ws RX7 TX7 7).all goodWord = true := by decide +kernel
  have h1 := List.all_eq_true.mp hg w hw
  rw [h] at hw
  obtain ⟨i, -, hi⟩ := List.mem_filterMap.mp hw
  exact q_gm_in ⟨List.mem_of_getElem? hi, h1⟩
theorem q_lay8 : ∀ w ∈ u_ws RX8 TX8 38, w ∈ q_good := by
  have h : u_ws RX8 TX8 38 = ([972, 974, 976, 978, 980, 982, 984, 986, 988, 990, 992, 994, 996, 998, 1000, 1002, 1004, 1006, 1008, 1010, 1012, 1014, 1016, 1018, 1020, 1022, 1024, 1026, 1028, 1030, 1032, 1034, 1036, 1038, 1040, 1042, 1044, 1046] : List Nat).filterMap (fun i => lw_tbl[i]?) := by decide +kernel
  intro w hw
  have hg : (u_ws RX8 TX8 38).all goodWord = true := by decide +kernel
  have h1 := List.all_eq_true.mp hg w hw
  rw [h] at hw
  obtain ⟨i, -, hi⟩ := List.mem_filterMap.mp hw
  exact q_gm_in ⟨List.mem_of_getElem? hi, h1⟩
theorem q_lay (c : Nat) (h : c < 9) : ∀ w ∈ u_ws (q_cn c) (q_T c) (q_N c), w ∈ q_good := by
  match c, h with
  | 0, _ => exact q_lay0
  | 1, _ => exact q_lay1
  | 2, _ => exact q_lay2
  | 3, _ => exact q_lay3
  | 4, _ => exact q_lay4
  | 5, _ => exact q_lay5
  | 6, _ => exact q_lay6
  | 7, _ => exact q_lay7
  | 8, _ => exact q_lay8
  | c + 9, h => omega
