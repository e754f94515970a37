/-! the methods: name, bytes, locals, answer, room, whether static, how many told; and where their words stand -/
abbrev sl_M : Type := MethodName × ByteArray × Nat × Option FieldType × Nat × Nat × Bool × Nat
def sl_ms_0 : List sl_M := [(yX0_search, cX0_search, 5, (some .int), 2, 72, false, 1),
  (yX0_farFromEven, cX0_farFromEven, 5, (some .int), 1, 48, false, 1),
  (yX0_nextOrder, cX0_nextOrder, 6, (some .boolean), 1, 23, false, 1),
  (yX0_swap, cX0_swap, 4, none, 0, 0, false, 2),
  (yX1_exists, cX1_exists, 1, (some .boolean), 1, 22, true, 1),
  (yX1_damp, cX1_damp, 1, (some .int), 0, 0, true, 1),
  (yX1_through, cX1_through, 1, (some .int), 0, 0, true, 1),
  (yX1_push, cX1_push, 3, (some .int), 0, 0, true, 2),
  (yX1_hasLid, cX1_hasLid, 1, (some .boolean), 0, 0, true, 1),
  (yX1_isOne, cX1_isOne, 4, (some .boolean), 2, 42, true, 2),
  (yX2_become, cX2_become, 3, none, 1, 48, false, 1),
  (yX2_amount, cX2_amount, 4, (some .int), 0, 0, false, 1)]
def sl_ms_1 : List sl_M := [(yX2_settle, cX2_settle, 5, none, 0, 0, false, 2),
  (yX2_setOut, cX2_setOut, 2, none, 0, 0, false, 1),
  (yX2_passTicks, cX2_passTicks, 3, none, 4, 127, false, 1),
  (yX2_passTick, cX2_passTick, 2, none, 3, 106, false, 0),
  (yX2_steer, cX2_steer, 2, none, 2, 43, false, 0),
  (yX2_swing, cX2_swing, 9, none, 2, 78, false, 1),
  (yX2_pour, cX2_pour, 11, none, 1, 48, false, 2),
  (yX2_suck, cX2_suck, 6, none, 1, 48, false, 1),
  (yX2_moment, cX2_moment, 5, (some .int), 0, 0, false, 0),
  (yX2_pull, cX2_pull, 1, (some .int), 1, 24, false, 0),
  (yX3_take, cX3_take, 5, none, 1, 48, false, 4),
  (yX4_hasTank, cX4_hasTank, 2, (some .boolean), 1, 22, false, 1)]
def sl_ms_2 : List sl_M := [(yX4_hasMouth, cX4_hasMouth, 2, (some .boolean), 1, 22, false, 1),
  (yX4_hasWay, cX4_hasWay, 2, (some .boolean), 1, 22, false, 1),
  (yX4_addTank, cX4_addTank, 6, (some .int), 2, 42, false, 4),
  (yX4_addMouth, cX4_addMouth, 3, (some .int), 0, 0, false, 2),
  (yX5_isMissing, cX5_isMissing, 1, (some .boolean), 0, 0, false, 0),
  (yX5_lay, cX5_lay, 3, none, 1, 23, false, 2),
  (yX5_holds, cX5_holds, 3, (some .boolean), 0, 0, false, 2),
  (yX5_put, cX5_put, 3, none, 0, 0, false, 2),
  (yX6_room, cX6_room, 1, (some .int), 0, 0, false, 0),
  (yX6_hasColumn, cX6_hasColumn, 2, (some .boolean), 1, 22, false, 1),
  (yX6_hasBorder, cX6_hasBorder, 2, (some .boolean), 1, 22, false, 1),
  (yX6_fillStep, cX6_fillStep, 2, (some .int), 1, 48, false, 1)]
def sl_ms_3 : List sl_M := [(yX7_append, cX7_append, 5, (some .int), 0, 0, false, 2),
  (yX7_readWay, cX7_readWay, 3, (some .int), 4, 97, false, 1),
  (yX7_isAhead, cX7_isAhead, 1, (some .boolean), 0, 0, false, 0),
  (yX7_readGroup, cX7_readGroup, 5, none, 3, 73, false, 1),
  (yX7_repeat, cX7_repeat, 6, none, 2, 42, true, 4),
  (yX7_readLeg, cX7_readLeg, 6, none, 2, 48, false, 2),
  (yX7_readNumber, cX7_readNumber, 3, (some .int), 1, 20, false, 0),
  (yX7_expect, cX7_expect, 2, none, 1, 20, false, 1),
  (yX7_isDigit, cX7_isDigit, 1, (some .boolean), 0, 0, true, 1),
  (yX8_isWhole, cX8_isWhole, 1, (some .boolean), 0, 0, false, 0),
  (yX8_add, cX8_add, 3, none, 1, 20, false, 2),
  (yX9_tank, cX9_tank, 5, (some .int), 3, 67, false, 4)]
def sl_ms_4 : List sl_M := [(yX9_wall, cX9_wall, 7, (some .int), 2, 43, false, 3),
  (yX9_fill, cX9_fill, 4, (some .int), 2, 43, false, 2),
  (yX9_feed, cX9_feed, 3, (some .int), 2, 43, false, 2),
  (yX9_draw, cX9_draw, 4, (some .int), 2, 43, false, 2),
  (yX9_lean, cX9_lean, 3, (some .int), 1, 22, false, 1),
  (yX9_carrier, cX9_carrier, 4, (some .int), 1, 22, false, 2),
  (yX9_run, cX9_run, 2, (some .int), 5, 149, false, 1),
  (yX9_tell, cX9_tell, 4, (some .int), 1, 24, false, 2),
  (yX9_way, cX9_way, 2, (some .int), 5, 119, false, 0),
  (yX9_wayTold, cX9_wayTold, 5, (some .int), 2, 43, false, 3),
  (yX9_go, cX9_go, 2, (some .int), 2, 43, false, 1),
  (yX9_level, cX9_level, 3, (some .int), 2, 43, false, 2)]
def sl_ms_5 : List sl_M := [(yX9_flow, cX9_flow, 3, (some .int), 2, 43, false, 2),
  (yX9_tankTold, cX9_tankTold, 3, (some .int), 2, 43, false, 2),
  (yX9_kindTold, cX9_kindTold, 4, (some .int), 2, 42, false, 3),
  (yX9_feedTold, cX9_feedTold, 3, (some .int), 2, 43, false, 2),
  (yX9_pulls, cX9_pulls, 2, (some .int), 2, 44, false, 1),
  (yX9_count, cX9_count, 2, (some .int), 0, 0, false, 1),
  (yX9_beside, cX9_beside, 4, (some .int), 5, 149, false, 3),
  (yX9_worstFill, cX9_worstFill, 10, (some .int), 5, 149, false, 3),
  (yX9_walls, cX9_walls, 6, (some .int), 6, 177, false, 4),
  (yX9_wallsPull, cX9_wallsPull, 1, (some .int), 0, 0, false, 0),
  (yX9_drawOrder, cX9_drawOrder, 3, (some .int), 3, 96, false, 1),
  (yX9_record, cX9_record, 6, (some .int), 3, 72, false, 4)]
def sl_ms_6 : List sl_M := [(yX9_bar, cX9_bar, 4, (some .int), 1, 22, false, 2),
  (yX9_fits, cX9_fits, 12, (some .int), 6, 178, false, 4),
  (yX9_image, cX9_image, 1, (some .int), 2, 70, false, 0),
  (yX9_back, cX9_back, 1, (some .int), 2, 70, false, 0),
  (yX9_sheet, cX9_sheet, 4, (some .int), 2, 45, false, 3),
  (yX9_cell, cX9_cell, 4, (some .int), 2, 42, false, 3),
  (yX9_copy, cX9_copy, 8, (some .int), 2, 48, false, 5),
  (yX9_tanks, cX9_tanks, 10, (some .int), 3, 67, false, 4),
  (yX9_taken, cX9_taken, 5, (some .int), 3, 65, false, 3),
  (yX9_within, cX9_within, 3, (some .boolean), 0, 0, true, 3),
  (yX9_isFlag, cX9_isFlag, 1, (some .boolean), 0, 0, true, 1),
  (yX9_isSheet, cX9_isSheet, 1, (some .boolean), 1, 22, true, 1)]
def sl_ms_7 : List sl_M := [(yX9_isCourse, cX9_isCourse, 2, (some .boolean), 2, 43, false, 1),
  (yX9_beginTrial, cX9_beginTrial, 2, none, 2, 70, false, 1),
  (yX9_tellsBorders, cX9_tellsBorders, 3, (some .boolean), 2, 43, true, 2),
  (yX9_findWalls, cX9_findWalls, 9, (some .int), 5, 149, false, 4),
  (yX9_bordersOf, cX9_bordersOf, 4, (some .int), 0, 0, true, 2),
  (yX9_letsRecordsBe, cX9_letsRecordsBe, 6, (some .boolean), 5, 153, false, 3),
  (yX9_letsRecordBe, cX9_letsRecordBe, 7, (some .boolean), 4, 127, false, 3),
  (yX10_in, cX10_in, 4, (some .boolean), 0, 0, false, 3),
  (yX10_abs, cX10_abs, 2, (some .int), 0, 0, false, 1),
  (yX10_isTank, cX10_isTank, 2, (some .boolean), 1, 23, false, 1),
  (yX10_hasLid, cX10_hasLid, 2, (some .boolean), 0, 0, false, 1),
  (yX10_push, cX10_push, 3, (some .int), 0, 0, false, 2)]
def sl_ms_8 : List sl_M := [(yX10_room, cX10_room, 2, (some .int), 0, 0, false, 1),
  (yX10_inside, cX10_inside, 4, (some .int), 0, 0, false, 1),
  (yX10_rest, cX10_rest, 4, none, 0, 0, false, 2),
  (yX10_tank, cX10_tank, 5, (some .int), 1, 23, false, 4),
  (yX10_isBorder, cX10_isBorder, 3, (some .boolean), 1, 23, false, 2),
  (yX10_wall, cX10_wall, 5, (some .int), 2, 45, false, 3),
  (yX10_fill, cX10_fill, 4, (some .int), 2, 44, false, 2),
  (yX10_feed, cX10_feed, 3, (some .int), 2, 44, false, 2),
  (yX10_draw, cX10_draw, 4, (some .int), 1, 23, false, 2),
  (yX10_lean, cX10_lean, 3, (some .int), 1, 23, false, 1),
  (yX10_carrier, cX10_carrier, 4, (some .int), 1, 23, false, 2),
  (yX10_moment, cX10_moment, 4, (some .int), 0, 0, false, 0)]
def sl_ms_9 : List sl_M := [(yX10_pull, cX10_pull, 1, (some .int), 1, 23, false, 0),
  (yX10_goOnWay, cX10_goOnWay, 1, none, 0, 0, false, 0),
  (yX10_goOver, cX10_goOver, 9, none, 1, 22, false, 2),
  (yX10_goTick, cX10_goTick, 4, none, 2, 50, false, 0),
  (yX10_run, cX10_run, 3, (some .int), 3, 73, false, 1),
  (yX10_tell, cX10_tell, 5, (some .int), 1, 23, false, 2),
  (yX10_next, cX10_next, 1, (some .int), 0, 0, false, 0),
  (yX10_isDigit, cX10_isDigit, 1, (some .boolean), 1, 23, false, 0),
  (yX10_takes, cX10_takes, 2, (some .boolean), 1, 20, false, 1),
  (yX10_takesNumber, cX10_takesNumber, 1, (some .boolean), 2, 43, false, 0),
  (yX10_takesLeg, cX10_takesLeg, 5, (some .boolean), 3, 63, false, 1),
  (yX10_takesAgain, cX10_takesAgain, 6, (some .boolean), 4, 87, false, 0)]
def sl_ms_10 : List sl_M := [(yX10_isWayText, cX10_isWayText, 1, (some .boolean), 5, 112, false, 0),
  (yX10_way, cX10_way, 2, (some .int), 6, 132, false, 0),
  (yX10_isWay, cX10_isWay, 2, (some .boolean), 1, 23, false, 1),
  (yX10_wayTold, cX10_wayTold, 4, (some .int), 2, 44, false, 3),
  (yX10_begin, cX10_begin, 2, none, 0, 0, false, 1),
  (yX10_go, cX10_go, 2, (some .int), 2, 44, false, 1),
  (yX10_level, cX10_level, 3, (some .int), 2, 44, false, 2),
  (yX10_flow, cX10_flow, 3, (some .int), 2, 45, false, 2),
  (yX10_tankTold, cX10_tankTold, 3, (some .int), 2, 44, false, 2),
  (yX10_kindTold, cX10_kindTold, 4, (some .int), 1, 23, false, 3),
  (yX10_feedTold, cX10_feedTold, 3, (some .int), 1, 23, false, 2),
  (yX10_pulls, cX10_pulls, 2, (some .int), 2, 43, false, 1)]
def sl_ms_11 : List sl_M := [(yX10_count, cX10_count, 2, (some .int), 0, 0, false, 1),
  (yX10_keep, cX10_keep, 3, none, 0, 0, false, 1),
  (yX10_putBack, cX10_putBack, 3, none, 0, 0, false, 1),
  (yX10_worst, cX10_worst, 5, (some .int), 3, 73, false, 2),
  (yX10_isOn, cX10_isOn, 2, (some .boolean), 2, 44, false, 1),
  (yX10_beside, cX10_beside, 8, (some .int), 4, 97, false, 3),
  (yX10_stepOf, cX10_stepOf, 4, (some .int), 1, 21, false, 2),
  (yX10_worstFill, cX10_worstFill, 8, (some .int), 4, 97, false, 3),
  (yX10_ones, cX10_ones, 4, (some .int), 0, 0, false, 1),
  (yX10_walls, cX10_walls, 9, (some .int), 4, 97, false, 4),
  (yX10_wallsPull, cX10_wallsPull, 1, (some .int), 0, 0, false, 0),
  (yX10_unrank, cX10_unrank, 7, none, 0, 0, false, 1)]
def sl_ms_12 : List sl_M := [(yX10_drawOrder, cX10_drawOrder, 9, (some .int), 1, 26, false, 1),
  (yX10_record, cX10_record, 6, (some .int), 3, 65, false, 4),
  (yX10_bar, cX10_bar, 4, (some .int), 1, 23, false, 2),
  (yX10_lets, cX10_lets, 9, (some .boolean), 3, 73, false, 4),
  (yX10_fits, cX10_fits, 11, (some .int), 4, 101, false, 4),
  (yX10_image, cX10_image, 1, (some .int), 1, 22, false, 0),
  (yX10_back, cX10_back, 2, (some .int), 1, 23, false, 0),
  (yX10_isSheet, cX10_isSheet, 2, (some .boolean), 1, 23, false, 1),
  (yX10_sheet, cX10_sheet, 5, (some .int), 2, 44, false, 3),
  (yX10_cell, cX10_cell, 4, (some .int), 2, 44, false, 3),
  (yX10_copy, cX10_copy, 7, (some .int), 2, 44, false, 5),
  (yX10_tanks, cX10_tanks, 8, (some .int), 2, 47, false, 4)]
def sl_ms_13 : List sl_M := [(yX10_isOfKind, cX10_isOfKind, 3, (some .boolean), 0, 0, false, 2),
  (yX10_taken, cX10_taken, 4, (some .int), 1, 23, false, 3),
  (yJ6_bitCount_0f7a4, cJ6_bitCount_0f7a4, 1, (some .int), 0, 0, true, 1),
  (yJ7_fill_53178, cJ7_fill_53178, 4, none, 0, 0, true, 2)]
def sl_ms_l : List sl_M := [(yL_law, cL_law, 4, (some .boolean), 8, 300, false, 1)]
def sl_ms : List sl_M := sl_ms_0 ++ (sl_ms_1 ++ (sl_ms_2 ++ (sl_ms_3 ++ (sl_ms_4 ++ (sl_ms_5 ++ (sl_ms_6 ++ (sl_ms_7 ++ (sl_ms_8 ++ (sl_ms_9 ++ (sl_ms_10 ++ (sl_ms_11 ++ (sl_ms_12 ++ (sl_ms_13 ++ sl_ms_l)))))))))))))
theorem sl_gd {w : Cond} (h : w ∈ tables_1) (hg : goodWord w = true) : w ∈ sl_good := List.mem_filter.mpr ⟨List.mem_append_right _ h, hg⟩
theorem sl_gd1 {w : Cond} (h : w ∈ tables_1_1) (hg : goodWord w = true) : w ∈ sl_good := sl_gd (List.mem_append_left _ h) hg
theorem sl_gd2 {w : Cond} (h : w ∈ tables_1_2) (hg : goodWord w = true) : w ∈ sl_good := sl_gd (List.mem_append_right _ (List.mem_append_left _ h)) hg
theorem sl_gd3 {w : Cond} (h : w ∈ tables_1_3) (hg : goodWord w = true) : w ∈ sl_good := sl_gd (List.mem_append_right _ (List.mem_append_right _ (List.mem_append_left _ h))) hg
theorem sl_gd4 {w : Cond} (h : w ∈ tables_1_4) (hg : goodWord w = true) : w ∈ sl_good := sl_gd (List.mem_append_right _ (List.mem_append_right _ (List.mem_append_right _ (List.mem_append_left _ h)))) hg
theorem sl_gd5 {w : Cond} (h : w ∈ tables_1_5) (hg : goodWord w = true) : w ∈ sl_good := sl_gd (List.mem_append_right _ (List.mem_append_right _ (List.mem_append_right _ (List.mem_append_right _ (List.mem_append_left _ h))))) hg
theorem sl_gd6 {w : Cond} (h : w ∈ tables_1_6) (hg : goodWord w = true) : w ∈ sl_good := sl_gd (List.mem_append_right _ (List.mem_append_right _ (List.mem_append_right _ (List.mem_append_right _ (List.mem_append_right _ h))))) hg
def sl_mcP (m : sl_M) : Prop := Cond.code m.1 m.2.1 m.2.2.1 m.2.2.2.1 ∈ sl_good
theorem sl_mc0 : sl_mcP (yX0_search, cX0_search, 5, (some .int), 2, 72, false, 1) := sl_gd3 (List.mem_of_getElem? (i := 179) rfl) rfl
theorem sl_mc1 : sl_mcP (yX0_farFromEven, cX0_farFromEven, 5, (some .int), 1, 48, false, 1) := sl_gd3 (List.mem_of_getElem? (i := 183) rfl) rfl
theorem sl_mc2 : sl_mcP (yX0_nextOrder, cX0_nextOrder, 6, (some .boolean), 1, 23, false, 1) := sl_gd3 (List.mem_of_getElem? (i := 189) rfl) rfl
theorem sl_mc3 : sl_mcP (yX0_swap, cX0_swap, 4, none, 0, 0, false, 2) := sl_gd3 (List.mem_of_getElem? (i := 193) rfl) rfl
theorem sl_mc4 : sl_mcP (yX1_exists, cX1_exists, 1, (some .boolean), 1, 22, true, 1) := sl_gd2 (List.mem_of_getElem? (i := 112) rfl) rfl
theorem sl_mc5 : sl_mcP (yX1_damp, cX1_damp, 1, (some .int), 0, 0, true, 1) := sl_gd2 (List.mem_of_getElem? (i := 212) rfl) rfl
theorem sl_mc6 : sl_mcP (yX1_through, cX1_through, 1, (some .int), 0, 0, true, 1) := sl_gd2 (List.mem_of_getElem? (i := 217) rfl) rfl
theorem sl_mc7 : sl_mcP (yX1_push, cX1_push, 3, (some .int), 0, 0, true, 2) := sl_gd2 (List.mem_of_getElem? (i := 205) rfl) rfl
theorem sl_mc8 : sl_mcP (yX1_hasLid, cX1_hasLid, 1, (some .boolean), 0, 0, true, 1) := sl_gd2 (List.mem_of_getElem? (i := 232) rfl) rfl
theorem sl_mc9 : sl_mcP (yX1_isOne, cX1_isOne, 4, (some .boolean), 2, 42, true, 2) := sl_gd4 (List.mem_of_getElem? (i := 30) rfl) rfl
theorem sl_mc10 : sl_mcP (yX2_become, cX2_become, 3, none, 1, 48, false, 1) := sl_gd3 (List.mem_of_getElem? (i := 127) rfl) rfl
theorem sl_mc11 : sl_mcP (yX2_amount, cX2_amount, 4, (some .int), 0, 0, false, 1) := sl_gd2 (List.mem_of_getElem? (i := 145) rfl) rfl
theorem sl_mc12 : sl_mcP (yX2_settle, cX2_settle, 5, none, 0, 0, false, 2) := sl_gd2 (List.mem_of_getElem? (i := 149) rfl) rfl
theorem sl_mc13 : sl_mcP (yX2_setOut, cX2_setOut, 2, none, 0, 0, false, 1) := sl_gd3 (List.mem_of_getElem? (i := 74) rfl) rfl
theorem sl_mc14 : sl_mcP (yX2_passTicks, cX2_passTicks, 3, none, 4, 127, false, 1) := sl_gd2 (List.mem_of_getElem? (i := 186) rfl) rfl
theorem sl_mc15 : sl_mcP (yX2_passTick, cX2_passTick, 2, none, 3, 106, false, 0) := sl_gd2 (List.mem_of_getElem? (i := 190) rfl) rfl
theorem sl_mc16 : sl_mcP (yX2_steer, cX2_steer, 2, none, 2, 43, false, 0) := sl_gd2 (List.mem_of_getElem? (i := 194) rfl) rfl
theorem sl_mc17 : sl_mcP (yX2_swing, cX2_swing, 9, none, 2, 78, false, 1) := sl_gd2 (List.mem_of_getElem? (i := 202) rfl) rfl
theorem sl_mc18 : sl_mcP (yX2_pour, cX2_pour, 11, none, 1, 48, false, 2) := sl_gd2 (List.mem_of_getElem? (i := 223) rfl) rfl
theorem sl_mc19 : sl_mcP (yX2_suck, cX2_suck, 6, none, 1, 48, false, 1) := sl_gd2 (List.mem_of_getElem? (i := 238) rfl) rfl
theorem sl_mc20 : sl_mcP (yX2_moment, cX2_moment, 5, (some .int), 0, 0, false, 0) := sl_gd3 (List.mem_of_getElem? (i := 6) rfl) rfl
theorem sl_mc21 : sl_mcP (yX2_pull, cX2_pull, 1, (some .int), 1, 24, false, 0) := sl_gd3 (List.mem_of_getElem? (i := 2) rfl) rfl
theorem sl_mc22 : sl_mcP (yX3_take, cX3_take, 5, none, 1, 48, false, 4) := sl_gd3 (List.mem_of_getElem? (i := 202) rfl) rfl
theorem sl_mc23 : sl_mcP (yX4_hasTank, cX4_hasTank, 2, (some .boolean), 1, 22, false, 1) := sl_gd2 (List.mem_of_getElem? (i := 124) rfl) rfl
theorem sl_mc24 : sl_mcP (yX4_hasMouth, cX4_hasMouth, 2, (some .boolean), 1, 22, false, 1) := sl_gd2 (List.mem_of_getElem? (i := 169) rfl) rfl
theorem sl_mc25 : sl_mcP (yX4_hasWay, cX4_hasWay, 2, (some .boolean), 1, 22, false, 1) := sl_gd2 (List.mem_of_getElem? (i := 198) rfl) rfl
theorem sl_mc26 : sl_mcP (yX4_addTank, cX4_addTank, 6, (some .int), 2, 42, false, 4) := sl_gd2 (List.mem_of_getElem? (i := 109) rfl) rfl
theorem sl_mc27 : sl_mcP (yX4_addMouth, cX4_addMouth, 3, (some .int), 0, 0, false, 2) := sl_gd2 (List.mem_of_getElem? (i := 161) rfl) rfl
theorem sl_mc28 : sl_mcP (yX5_isMissing, cX5_isMissing, 1, (some .boolean), 0, 0, false, 0) := sl_gd3 (List.mem_of_getElem? (i := 151) rfl) rfl
theorem sl_mc29 : sl_mcP (yX5_lay, cX5_lay, 3, none, 1, 23, false, 2) := sl_gd4 (List.mem_of_getElem? (i := 1) rfl) rfl
theorem sl_mc30 : sl_mcP (yX5_holds, cX5_holds, 3, (some .boolean), 0, 0, false, 2) := sl_gd4 (List.mem_of_getElem? (i := 10) rfl) rfl
theorem sl_mc31 : sl_mcP (yX5_put, cX5_put, 3, none, 0, 0, false, 2) := sl_gd4 (List.mem_of_getElem? (i := 14) rfl) rfl
theorem sl_mc32 : sl_mcP (yX6_room, cX6_room, 1, (some .int), 0, 0, false, 0) := sl_gd2 (List.mem_of_getElem? (i := 140) rfl) rfl
theorem sl_mc33 : sl_mcP (yX6_hasColumn, cX6_hasColumn, 2, (some .boolean), 1, 22, false, 1) := sl_gd2 (List.mem_of_getElem? (i := 157) rfl) rfl
theorem sl_mc34 : sl_mcP (yX6_hasBorder, cX6_hasBorder, 2, (some .boolean), 1, 22, false, 1) := sl_gd2 (List.mem_of_getElem? (i := 128) rfl) rfl
theorem sl_mc35 : sl_mcP (yX6_fillStep, cX6_fillStep, 2, (some .int), 1, 48, false, 1) := sl_gd3 (List.mem_of_getElem? (i := 138) rfl) rfl
theorem sl_mc36 : sl_mcP (yX7_append, cX7_append, 5, (some .int), 0, 0, false, 2) := sl_gd3 (List.mem_of_getElem? (i := 17) rfl) rfl
theorem sl_mc37 : sl_mcP (yX7_readWay, cX7_readWay, 3, (some .int), 4, 97, false, 1) := sl_gd3 (List.mem_of_getElem? (i := 25) rfl) rfl
theorem sl_mc38 : sl_mcP (yX7_isAhead, cX7_isAhead, 1, (some .boolean), 0, 0, false, 0) := sl_gd3 (List.mem_of_getElem? (i := 29) rfl) rfl
theorem sl_mc39 : sl_mcP (yX7_readGroup, cX7_readGroup, 5, none, 3, 73, false, 1) := sl_gd3 (List.mem_of_getElem? (i := 33) rfl) rfl
theorem sl_mc40 : sl_mcP (yX7_repeat, cX7_repeat, 6, none, 2, 42, true, 4) := sl_gd3 (List.mem_of_getElem? (i := 61) rfl) rfl
theorem sl_mc41 : sl_mcP (yX7_readLeg, cX7_readLeg, 6, none, 2, 48, false, 2) := sl_gd3 (List.mem_of_getElem? (i := 48) rfl) rfl
theorem sl_mc42 : sl_mcP (yX7_readNumber, cX7_readNumber, 3, (some .int), 1, 20, false, 0) := sl_gd3 (List.mem_of_getElem? (i := 37) rfl) rfl
theorem sl_mc43 : sl_mcP (yX7_expect, cX7_expect, 2, none, 1, 20, false, 1) := sl_gd3 (List.mem_of_getElem? (i := 44) rfl) rfl
theorem sl_mc44 : sl_mcP (yX7_isDigit, cX7_isDigit, 1, (some .boolean), 0, 0, true, 1) := sl_gd3 (List.mem_of_getElem? (i := 40) rfl) rfl
theorem sl_mc45 : sl_mcP (yX8_isWhole, cX8_isWhole, 1, (some .boolean), 0, 0, false, 0) := sl_gd3 (List.mem_of_getElem? (i := 52) rfl) rfl
theorem sl_mc46 : sl_mcP (yX8_add, cX8_add, 3, none, 1, 20, false, 2) := sl_gd3 (List.mem_of_getElem? (i := 57) rfl) rfl
theorem sl_mc47 : sl_mcP (yX9_tank, cX9_tank, 5, (some .int), 3, 67, false, 4) := sl_gd2 (List.mem_of_getElem? (i := 105) rfl) rfl
theorem sl_mc48 : sl_mcP (yX9_wall, cX9_wall, 7, (some .int), 2, 43, false, 3) := sl_gd2 (List.mem_of_getElem? (i := 120) rfl) rfl
theorem sl_mc49 : sl_mcP (yX9_fill, cX9_fill, 4, (some .int), 2, 43, false, 2) := sl_gd2 (List.mem_of_getElem? (i := 136) rfl) rfl
theorem sl_mc50 : sl_mcP (yX9_feed, cX9_feed, 3, (some .int), 2, 43, false, 2) := sl_gd2 (List.mem_of_getElem? (i := 153) rfl) rfl
theorem sl_mc51 : sl_mcP (yX9_draw, cX9_draw, 4, (some .int), 2, 43, false, 2) := sl_gd2 (List.mem_of_getElem? (i := 165) rfl) rfl
theorem sl_mc52 : sl_mcP (yX9_lean, cX9_lean, 3, (some .int), 1, 22, false, 1) := sl_gd2 (List.mem_of_getElem? (i := 173) rfl) rfl
theorem sl_mc53 : sl_mcP (yX9_carrier, cX9_carrier, 4, (some .int), 1, 22, false, 2) := sl_gd2 (List.mem_of_getElem? (i := 177) rfl) rfl
theorem sl_mc54 : sl_mcP (yX9_run, cX9_run, 2, (some .int), 5, 149, false, 1) := sl_gd2 (List.mem_of_getElem? (i := 182) rfl) rfl
theorem sl_mc55 : sl_mcP (yX9_tell, cX9_tell, 4, (some .int), 1, 24, false, 2) := sl_gd3 (List.mem_of_getElem? (i := 13) rfl) rfl
theorem sl_mc56 : sl_mcP (yX9_way, cX9_way, 2, (some .int), 5, 119, false, 0) := sl_gd3 (List.mem_of_getElem? (i := 21) rfl) rfl
theorem sl_mc57 : sl_mcP (yX9_wayTold, cX9_wayTold, 5, (some .int), 2, 43, false, 3) := sl_gd3 (List.mem_of_getElem? (i := 65) rfl) rfl
theorem sl_mc58 : sl_mcP (yX9_go, cX9_go, 2, (some .int), 2, 43, false, 1) := sl_gd3 (List.mem_of_getElem? (i := 70) rfl) rfl
theorem sl_mc59 : sl_mcP (yX9_level, cX9_level, 3, (some .int), 2, 43, false, 2) := sl_gd3 (List.mem_of_getElem? (i := 78) rfl) rfl
theorem sl_mc60 : sl_mcP (yX9_flow, cX9_flow, 3, (some .int), 2, 43, false, 2) := sl_gd3 (List.mem_of_getElem? (i := 82) rfl) rfl
theorem sl_mc61 : sl_mcP (yX9_tankTold, cX9_tankTold, 3, (some .int), 2, 43, false, 2) := sl_gd3 (List.mem_of_getElem? (i := 88) rfl) rfl
theorem sl_mc62 : sl_mcP (yX9_kindTold, cX9_kindTold, 4, (some .int), 2, 42, false, 3) := sl_gd3 (List.mem_of_getElem? (i := 92) rfl) rfl
theorem sl_mc63 : sl_mcP (yX9_feedTold, cX9_feedTold, 3, (some .int), 2, 43, false, 2) := sl_gd3 (List.mem_of_getElem? (i := 101) rfl) rfl
theorem sl_mc64 : sl_mcP (yX9_pulls, cX9_pulls, 2, (some .int), 2, 44, false, 1) := sl_gd3 (List.mem_of_getElem? (i := 105) rfl) rfl
theorem sl_mc65 : sl_mcP (yX9_count, cX9_count, 2, (some .int), 0, 0, false, 1) := sl_gd3 (List.mem_of_getElem? (i := 111) rfl) rfl
theorem sl_mc66 : sl_mcP (yX9_beside, cX9_beside, 4, (some .int), 5, 149, false, 3) := sl_gd3 (List.mem_of_getElem? (i := 115) rfl) rfl
theorem sl_mc67 : sl_mcP (yX9_worstFill, cX9_worstFill, 10, (some .int), 5, 149, false, 3) := sl_gd3 (List.mem_of_getElem? (i := 134) rfl) rfl
theorem sl_mc68 : sl_mcP (yX9_walls, cX9_walls, 6, (some .int), 6, 177, false, 4) := sl_gd3 (List.mem_of_getElem? (i := 144) rfl) rfl
theorem sl_mc69 : sl_mcP (yX9_wallsPull, cX9_wallsPull, 1, (some .int), 0, 0, false, 0) := sl_gd3 (List.mem_of_getElem? (i := 171) rfl) rfl
theorem sl_mc70 : sl_mcP (yX9_drawOrder, cX9_drawOrder, 3, (some .int), 3, 96, false, 1) := sl_gd3 (List.mem_of_getElem? (i := 175) rfl) rfl
theorem sl_mc71 : sl_mcP (yX9_record, cX9_record, 6, (some .int), 3, 72, false, 4) := sl_gd3 (List.mem_of_getElem? (i := 198) rfl) rfl
theorem sl_mc72 : sl_mcP (yX9_bar, cX9_bar, 4, (some .int), 1, 22, false, 2) := sl_gd3 (List.mem_of_getElem? (i := 208) rfl) rfl
theorem sl_mc73 : sl_mcP (yX9_fits, cX9_fits, 12, (some .int), 6, 178, false, 4) := sl_gd3 (List.mem_of_getElem? (i := 212) rfl) rfl
theorem sl_mc74 : sl_mcP (yX9_image, cX9_image, 1, (some .int), 2, 70, false, 0) := sl_gd3 (List.mem_of_getElem? (i := 229) rfl) rfl
theorem sl_mc75 : sl_mcP (yX9_back, cX9_back, 1, (some .int), 2, 70, false, 0) := sl_gd3 (List.mem_of_getElem? (i := 233) rfl) rfl
theorem sl_mc76 : sl_mcP (yX9_sheet, cX9_sheet, 4, (some .int), 2, 45, false, 3) := sl_gd3 (List.mem_of_getElem? (i := 237) rfl) rfl
theorem sl_mc77 : sl_mcP (yX9_cell, cX9_cell, 4, (some .int), 2, 42, false, 3) := sl_gd4 (List.mem_of_getElem? (i := 6) rfl) rfl
theorem sl_mc78 : sl_mcP (yX9_copy, cX9_copy, 8, (some .int), 2, 48, false, 5) := sl_gd4 (List.mem_of_getElem? (i := 18) rfl) rfl
theorem sl_mc79 : sl_mcP (yX9_tanks, cX9_tanks, 10, (some .int), 3, 67, false, 4) := sl_gd4 (List.mem_of_getElem? (i := 23) rfl) rfl
theorem sl_mc80 : sl_mcP (yX9_taken, cX9_taken, 5, (some .int), 3, 65, false, 3) := sl_gd4 (List.mem_of_getElem? (i := 27) rfl) rfl
theorem sl_mc81 : sl_mcP (yX9_within, cX9_within, 3, (some .boolean), 0, 0, true, 3) := sl_gd2 (List.mem_of_getElem? (i := 115) rfl) rfl
theorem sl_mc82 : sl_mcP (yX9_isFlag, cX9_isFlag, 1, (some .boolean), 0, 0, true, 1) := sl_gd2 (List.mem_of_getElem? (i := 132) rfl) rfl
theorem sl_mc83 : sl_mcP (yX9_isSheet, cX9_isSheet, 1, (some .boolean), 1, 22, true, 1) := sl_gd3 (List.mem_of_getElem? (i := 147) rfl) rfl
theorem sl_mc84 : sl_mcP (yX9_isCourse, cX9_isCourse, 2, (some .boolean), 2, 43, false, 1) := sl_gd3 (List.mem_of_getElem? (i := 119) rfl) rfl
theorem sl_mc85 : sl_mcP (yX9_beginTrial, cX9_beginTrial, 2, none, 2, 70, false, 1) := sl_gd3 (List.mem_of_getElem? (i := 123) rfl) rfl
theorem sl_mc86 : sl_mcP (yX9_tellsBorders, cX9_tellsBorders, 3, (some .boolean), 2, 43, true, 2) := sl_gd3 (List.mem_of_getElem? (i := 154) rfl) rfl
theorem sl_mc87 : sl_mcP (yX9_findWalls, cX9_findWalls, 9, (some .int), 5, 149, false, 4) := sl_gd3 (List.mem_of_getElem? (i := 158) rfl) rfl
theorem sl_mc88 : sl_mcP (yX9_bordersOf, cX9_bordersOf, 4, (some .int), 0, 0, true, 2) := sl_gd3 (List.mem_of_getElem? (i := 161) rfl) rfl
theorem sl_mc89 : sl_mcP (yX9_letsRecordsBe, cX9_letsRecordsBe, 6, (some .boolean), 5, 153, false, 3) := sl_gd3 (List.mem_of_getElem? (i := 216) rfl) rfl
theorem sl_mc90 : sl_mcP (yX9_letsRecordBe, cX9_letsRecordBe, 7, (some .boolean), 4, 127, false, 3) := sl_gd3 (List.mem_of_getElem? (i := 220) rfl) rfl
theorem sl_mc91 : sl_mcP (yX10_in, cX10_in, 4, (some .boolean), 0, 0, false, 3) := sl_gd4 (List.mem_of_getElem? (i := 226) rfl) rfl
theorem sl_mc92 : sl_mcP (yX10_abs, cX10_abs, 2, (some .int), 0, 0, false, 1) := sl_gd5 (List.mem_of_getElem? (i := 55) rfl) rfl
theorem sl_mc93 : sl_mcP (yX10_isTank, cX10_isTank, 2, (some .boolean), 1, 23, false, 1) := sl_gd4 (List.mem_of_getElem? (i := 234) rfl) rfl
theorem sl_mc94 : sl_mcP (yX10_hasLid, cX10_hasLid, 2, (some .boolean), 0, 0, false, 1) := sl_gd5 (List.mem_of_getElem? (i := 59) rfl) rfl
theorem sl_mc95 : sl_mcP (yX10_push, cX10_push, 3, (some .int), 0, 0, false, 2) := sl_gd5 (List.mem_of_getElem? (i := 51) rfl) rfl
theorem sl_mc96 : sl_mcP (yX10_room, cX10_room, 2, (some .int), 0, 0, false, 1) := sl_gd5 (List.mem_of_getElem? (i := 6) rfl) rfl
theorem sl_mc97 : sl_mcP (yX10_inside, cX10_inside, 4, (some .int), 0, 0, false, 1) := sl_gd5 (List.mem_of_getElem? (i := 10) rfl) rfl
theorem sl_mc98 : sl_mcP (yX10_rest, cX10_rest, 4, none, 0, 0, false, 2) := sl_gd5 (List.mem_of_getElem? (i := 14) rfl) rfl
theorem sl_mc99 : sl_mcP (yX10_tank, cX10_tank, 5, (some .int), 1, 23, false, 4) := sl_gd4 (List.mem_of_getElem? (i := 222) rfl) rfl
theorem sl_mc100 : sl_mcP (yX10_isBorder, cX10_isBorder, 3, (some .boolean), 1, 23, false, 2) := sl_gd4 (List.mem_of_getElem? (i := 238) rfl) rfl
theorem sl_mc101 : sl_mcP (yX10_wall, cX10_wall, 5, (some .int), 2, 45, false, 3) := sl_gd4 (List.mem_of_getElem? (i := 230) rfl) rfl
theorem sl_mc102 : sl_mcP (yX10_fill, cX10_fill, 4, (some .int), 2, 44, false, 2) := sl_gd5 (List.mem_of_getElem? (i := 2) rfl) rfl
theorem sl_mc103 : sl_mcP (yX10_feed, cX10_feed, 3, (some .int), 2, 44, false, 2) := sl_gd5 (List.mem_of_getElem? (i := 18) rfl) rfl
theorem sl_mc104 : sl_mcP (yX10_draw, cX10_draw, 4, (some .int), 1, 23, false, 2) := sl_gd5 (List.mem_of_getElem? (i := 22) rfl) rfl
theorem sl_mc105 : sl_mcP (yX10_lean, cX10_lean, 3, (some .int), 1, 23, false, 1) := sl_gd5 (List.mem_of_getElem? (i := 26) rfl) rfl
theorem sl_mc106 : sl_mcP (yX10_carrier, cX10_carrier, 4, (some .int), 1, 23, false, 2) := sl_gd5 (List.mem_of_getElem? (i := 30) rfl) rfl
theorem sl_mc107 : sl_mcP (yX10_moment, cX10_moment, 4, (some .int), 0, 0, false, 0) := sl_gd5 (List.mem_of_getElem? (i := 67) rfl) rfl
theorem sl_mc108 : sl_mcP (yX10_pull, cX10_pull, 1, (some .int), 1, 23, false, 0) := sl_gd5 (List.mem_of_getElem? (i := 63) rfl) rfl
theorem sl_mc109 : sl_mcP (yX10_goOnWay, cX10_goOnWay, 1, none, 0, 0, false, 0) := sl_gd5 (List.mem_of_getElem? (i := 43) rfl) rfl
theorem sl_mc110 : sl_mcP (yX10_goOver, cX10_goOver, 9, none, 1, 22, false, 2) := sl_gd5 (List.mem_of_getElem? (i := 47) rfl) rfl
theorem sl_mc111 : sl_mcP (yX10_goTick, cX10_goTick, 4, none, 2, 50, false, 0) := sl_gd5 (List.mem_of_getElem? (i := 39) rfl) rfl
theorem sl_mc112 : sl_mcP (yX10_run, cX10_run, 3, (some .int), 3, 73, false, 1) := sl_gd5 (List.mem_of_getElem? (i := 35) rfl) rfl
theorem sl_mc113 : sl_mcP (yX10_tell, cX10_tell, 5, (some .int), 1, 23, false, 2) := sl_gd5 (List.mem_of_getElem? (i := 72) rfl) rfl
theorem sl_mc114 : sl_mcP (yX10_next, cX10_next, 1, (some .int), 0, 0, false, 0) := sl_gd5 (List.mem_of_getElem? (i := 84) rfl) rfl
theorem sl_mc115 : sl_mcP (yX10_isDigit, cX10_isDigit, 1, (some .boolean), 1, 23, false, 0) := sl_gd5 (List.mem_of_getElem? (i := 96) rfl) rfl
theorem sl_mc116 : sl_mcP (yX10_takes, cX10_takes, 2, (some .boolean), 1, 20, false, 1) := sl_gd5 (List.mem_of_getElem? (i := 100) rfl) rfl
theorem sl_mc117 : sl_mcP (yX10_takesNumber, cX10_takesNumber, 1, (some .boolean), 2, 43, false, 0) := sl_gd5 (List.mem_of_getElem? (i := 92) rfl) rfl
theorem sl_mc118 : sl_mcP (yX10_takesLeg, cX10_takesLeg, 5, (some .boolean), 3, 63, false, 1) := sl_gd5 (List.mem_of_getElem? (i := 104) rfl) rfl
theorem sl_mc119 : sl_mcP (yX10_takesAgain, cX10_takesAgain, 6, (some .boolean), 4, 87, false, 0) := sl_gd5 (List.mem_of_getElem? (i := 88) rfl) rfl
theorem sl_mc120 : sl_mcP (yX10_isWayText, cX10_isWayText, 1, (some .boolean), 5, 112, false, 0) := sl_gd5 (List.mem_of_getElem? (i := 80) rfl) rfl
theorem sl_mc121 : sl_mcP (yX10_way, cX10_way, 2, (some .int), 6, 132, false, 0) := sl_gd5 (List.mem_of_getElem? (i := 76) rfl) rfl
theorem sl_mc122 : sl_mcP (yX10_isWay, cX10_isWay, 2, (some .boolean), 1, 23, false, 1) := sl_gd5 (List.mem_of_getElem? (i := 112) rfl) rfl
theorem sl_mc123 : sl_mcP (yX10_wayTold, cX10_wayTold, 4, (some .int), 2, 44, false, 3) := sl_gd5 (List.mem_of_getElem? (i := 108) rfl) rfl
theorem sl_mc124 : sl_mcP (yX10_begin, cX10_begin, 2, none, 0, 0, false, 1) := sl_gd5 (List.mem_of_getElem? (i := 120) rfl) rfl
theorem sl_mc125 : sl_mcP (yX10_go, cX10_go, 2, (some .int), 2, 44, false, 1) := sl_gd5 (List.mem_of_getElem? (i := 116) rfl) rfl
theorem sl_mc126 : sl_mcP (yX10_level, cX10_level, 3, (some .int), 2, 44, false, 2) := sl_gd5 (List.mem_of_getElem? (i := 124) rfl) rfl
theorem sl_mc127 : sl_mcP (yX10_flow, cX10_flow, 3, (some .int), 2, 45, false, 2) := sl_gd5 (List.mem_of_getElem? (i := 128) rfl) rfl
theorem sl_mc128 : sl_mcP (yX10_tankTold, cX10_tankTold, 3, (some .int), 2, 44, false, 2) := sl_gd5 (List.mem_of_getElem? (i := 134) rfl) rfl
theorem sl_mc129 : sl_mcP (yX10_kindTold, cX10_kindTold, 4, (some .int), 1, 23, false, 3) := sl_gd5 (List.mem_of_getElem? (i := 138) rfl) rfl
theorem sl_mc130 : sl_mcP (yX10_feedTold, cX10_feedTold, 3, (some .int), 1, 23, false, 2) := sl_gd5 (List.mem_of_getElem? (i := 142) rfl) rfl
theorem sl_mc131 : sl_mcP (yX10_pulls, cX10_pulls, 2, (some .int), 2, 43, false, 1) := sl_gd5 (List.mem_of_getElem? (i := 146) rfl) rfl
theorem sl_mc132 : sl_mcP (yX10_count, cX10_count, 2, (some .int), 0, 0, false, 1) := sl_gd5 (List.mem_of_getElem? (i := 150) rfl) rfl
theorem sl_mc133 : sl_mcP (yX10_keep, cX10_keep, 3, none, 0, 0, false, 1) := sl_gd5 (List.mem_of_getElem? (i := 162) rfl) rfl
theorem sl_mc134 : sl_mcP (yX10_putBack, cX10_putBack, 3, none, 0, 0, false, 1) := sl_gd5 (List.mem_of_getElem? (i := 170) rfl) rfl
theorem sl_mc135 : sl_mcP (yX10_worst, cX10_worst, 5, (some .int), 3, 73, false, 2) := sl_gd5 (List.mem_of_getElem? (i := 166) rfl) rfl
theorem sl_mc136 : sl_mcP (yX10_isOn, cX10_isOn, 2, (some .boolean), 2, 44, false, 1) := sl_gd5 (List.mem_of_getElem? (i := 158) rfl) rfl
theorem sl_mc137 : sl_mcP (yX10_beside, cX10_beside, 8, (some .int), 4, 97, false, 3) := sl_gd5 (List.mem_of_getElem? (i := 154) rfl) rfl
theorem sl_mc138 : sl_mcP (yX10_stepOf, cX10_stepOf, 4, (some .int), 1, 21, false, 2) := sl_gd5 (List.mem_of_getElem? (i := 178) rfl) rfl
theorem sl_mc139 : sl_mcP (yX10_worstFill, cX10_worstFill, 8, (some .int), 4, 97, false, 3) := sl_gd5 (List.mem_of_getElem? (i := 174) rfl) rfl
theorem sl_mc140 : sl_mcP (yX10_ones, cX10_ones, 4, (some .int), 0, 0, false, 1) := sl_gd5 (List.mem_of_getElem? (i := 190) rfl) rfl
theorem sl_mc141 : sl_mcP (yX10_walls, cX10_walls, 9, (some .int), 4, 97, false, 4) := sl_gd5 (List.mem_of_getElem? (i := 182) rfl) rfl
theorem sl_mc142 : sl_mcP (yX10_wallsPull, cX10_wallsPull, 1, (some .int), 0, 0, false, 0) := sl_gd5 (List.mem_of_getElem? (i := 194) rfl) rfl
theorem sl_mc143 : sl_mcP (yX10_unrank, cX10_unrank, 7, none, 0, 0, false, 1) := sl_gd5 (List.mem_of_getElem? (i := 202) rfl) rfl
theorem sl_mc144 : sl_mcP (yX10_drawOrder, cX10_drawOrder, 9, (some .int), 1, 26, false, 1) := sl_gd5 (List.mem_of_getElem? (i := 198) rfl) rfl
theorem sl_mc145 : sl_mcP (yX10_record, cX10_record, 6, (some .int), 3, 65, false, 4) := sl_gd5 (List.mem_of_getElem? (i := 206) rfl) rfl
theorem sl_mc146 : sl_mcP (yX10_bar, cX10_bar, 4, (some .int), 1, 23, false, 2) := sl_gd5 (List.mem_of_getElem? (i := 210) rfl) rfl
theorem sl_mc147 : sl_mcP (yX10_lets, cX10_lets, 9, (some .boolean), 3, 73, false, 4) := sl_gd5 (List.mem_of_getElem? (i := 218) rfl) rfl
theorem sl_mc148 : sl_mcP (yX10_fits, cX10_fits, 11, (some .int), 4, 101, false, 4) := sl_gd5 (List.mem_of_getElem? (i := 214) rfl) rfl
theorem sl_mc149 : sl_mcP (yX10_image, cX10_image, 1, (some .int), 1, 22, false, 0) := sl_gd5 (List.mem_of_getElem? (i := 222) rfl) rfl
theorem sl_mc150 : sl_mcP (yX10_back, cX10_back, 2, (some .int), 1, 23, false, 0) := sl_gd5 (List.mem_of_getElem? (i := 226) rfl) rfl
theorem sl_mc151 : sl_mcP (yX10_isSheet, cX10_isSheet, 2, (some .boolean), 1, 23, false, 1) := sl_gd5 (List.mem_of_getElem? (i := 186) rfl) rfl
theorem sl_mc152 : sl_mcP (yX10_sheet, cX10_sheet, 5, (some .int), 2, 44, false, 3) := sl_gd5 (List.mem_of_getElem? (i := 230) rfl) rfl
theorem sl_mc153 : sl_mcP (yX10_cell, cX10_cell, 4, (some .int), 2, 44, false, 3) := sl_gd5 (List.mem_of_getElem? (i := 234) rfl) rfl
theorem sl_mc154 : sl_mcP (yX10_copy, cX10_copy, 7, (some .int), 2, 44, false, 5) := sl_gd5 (List.mem_of_getElem? (i := 238) rfl) rfl
theorem sl_mc155 : sl_mcP (yX10_tanks, cX10_tanks, 8, (some .int), 2, 47, false, 4) := sl_gd6 (List.mem_of_getElem? (i := 2) rfl) rfl
theorem sl_mc156 : sl_mcP (yX10_isOfKind, cX10_isOfKind, 3, (some .boolean), 0, 0, false, 2) := sl_gd6 (List.mem_of_getElem? (i := 11) rfl) rfl
theorem sl_mc157 : sl_mcP (yX10_taken, cX10_taken, 4, (some .int), 1, 23, false, 3) := sl_gd6 (List.mem_of_getElem? (i := 7) rfl) rfl
theorem sl_mc158 : sl_mcP (yJ6_bitCount_0f7a4, cJ6_bitCount_0f7a4, 1, (some .int), 0, 0, true, 1) := sl_gd3 (List.mem_of_getElem? (i := 164) rfl) rfl
theorem sl_mc159 : sl_mcP (yJ7_fill_53178, cJ7_fill_53178, 4, none, 0, 0, true, 2) := sl_gd1 (List.mem_of_getElem? (i := 145) rfl) rfl
theorem sl_mcs0 : ∀ m, m ∈ sl_ms_0 → sl_mcP m := (List.forall_mem_cons.mpr ⟨sl_mc0, (List.forall_mem_cons.mpr ⟨sl_mc1, (List.forall_mem_cons.mpr ⟨sl_mc2, (List.forall_mem_cons.mpr ⟨sl_mc3, (List.forall_mem_cons.mpr ⟨sl_mc4, (List.forall_mem_cons.mpr ⟨sl_mc5, (List.forall_mem_cons.mpr ⟨sl_mc6, (List.forall_mem_cons.mpr ⟨sl_mc7, (List.forall_mem_cons.mpr ⟨sl_mc8, (List.forall_mem_cons.mpr ⟨sl_mc9, (List.forall_mem_cons.mpr ⟨sl_mc10, (List.forall_mem_cons.mpr ⟨sl_mc11, (fun _ h => absurd h List.not_mem_nil)⟩)⟩)⟩)⟩)⟩)⟩)⟩)⟩)⟩)⟩)⟩)⟩)
theorem sl_mcs1 : ∀ m, m ∈ sl_ms_1 → sl_mcP m := (List.forall_mem_cons.mpr ⟨sl_mc12, (List.forall_mem_cons.mpr ⟨sl_mc13, (List.forall_mem_cons.mpr ⟨sl_mc14, (List.forall_mem_cons.mpr ⟨sl_mc15, (List.forall_mem_cons.mpr ⟨sl_mc16, (List.forall_mem_cons.mpr ⟨sl_mc17, (List.forall_mem_cons.mpr ⟨sl_mc18, (List.forall_mem_cons.mpr ⟨sl_mc19, (List.forall_mem_cons.mpr ⟨sl_mc20, (List.forall_mem_cons.mpr ⟨sl_mc21, (List.forall_mem_cons.mpr ⟨sl_mc22, (List.forall_mem_cons.mpr ⟨sl_mc23, (fun _ h => absurd h List.not_mem_nil)⟩)⟩)⟩)⟩)⟩)⟩)⟩)⟩)⟩)⟩)⟩)⟩)
theorem sl_mcs2 : ∀ m, m ∈ sl_ms_2 → sl_mcP m := (List.forall_mem_cons.mpr ⟨sl_mc24, (List.forall_mem_cons.mpr ⟨sl_mc25, (List.forall_mem_cons.mpr ⟨sl_mc26, (List.forall_mem_cons.mpr ⟨sl_mc27, (List.forall_mem_cons.mpr ⟨sl_mc28, (List.forall_mem_cons.mpr ⟨sl_mc29, (List.forall_mem_cons.mpr ⟨sl_mc30, (List.forall_mem_cons.mpr ⟨sl_mc31, (List.forall_mem_cons.mpr ⟨sl_mc32, (List.forall_mem_cons.mpr ⟨sl_mc33, (List.forall_mem_cons.mpr ⟨sl_mc34, (List.forall_mem_cons.mpr ⟨sl_mc35, (fun _ h => absurd h List.not_mem_nil)⟩)⟩)⟩)⟩)⟩)⟩)⟩)⟩)⟩)⟩)⟩)⟩)
theorem sl_mcs3 : ∀ m, m ∈ sl_ms_3 → sl_mcP m := (List.forall_mem_cons.mpr ⟨sl_mc36, (List.forall_mem_cons.mpr ⟨sl_mc37, (List.forall_mem_cons.mpr ⟨sl_mc38, (List.forall_mem_cons.mpr ⟨sl_mc39, (List.forall_mem_cons.mpr ⟨sl_mc40, (List.forall_mem_cons.mpr ⟨sl_mc41, (List.forall_mem_cons.mpr ⟨sl_mc42, (List.forall_mem_cons.mpr ⟨sl_mc43, (List.forall_mem_cons.mpr ⟨sl_mc44, (List.forall_mem_cons.mpr ⟨sl_mc45, (List.forall_mem_cons.mpr ⟨sl_mc46, (List.forall_mem_cons.mpr ⟨sl_mc47, (fun _ h => absurd h List.not_mem_nil)⟩)⟩)⟩)⟩)⟩)⟩)⟩)⟩)⟩)⟩)⟩)⟩)
theorem sl_mcs4 : ∀ m, m ∈ sl_ms_4 → sl_mcP m := (List.forall_mem_cons.mpr ⟨sl_mc48, (List.forall_mem_cons.mpr ⟨sl_mc49, (List.forall_mem_cons.mpr ⟨sl_mc50, (List.forall_mem_cons.mpr ⟨sl_mc51, (List.forall_mem_cons.mpr ⟨sl_mc52, (List.forall_mem_cons.mpr ⟨sl_mc53, (List.forall_mem_cons.mpr ⟨sl_mc54, (List.forall_mem_cons.mpr ⟨sl_mc55, (List.forall_mem_cons.mpr ⟨sl_mc56, (List.forall_mem_cons.mpr ⟨sl_mc57, (List.forall_mem_cons.mpr ⟨sl_mc58, (List.forall_mem_cons.mpr ⟨sl_mc59, (fun _ h => absurd h List.not_mem_nil)⟩)⟩)⟩)⟩)⟩)⟩)⟩)⟩)⟩)⟩)⟩)⟩)
theorem sl_mcs5 : ∀ m, m ∈ sl_ms_5 → sl_mcP m := (List.forall_mem_cons.mpr ⟨sl_mc60, (List.forall_mem_cons.mpr ⟨sl_mc61, (List.forall_mem_cons.mpr ⟨sl_mc62, (List.forall_mem_cons.mpr ⟨sl_mc63, (List.forall_mem_cons.mpr ⟨sl_mc64, (List.forall_mem_cons.mpr ⟨sl_mc65, (List.forall_mem_cons.mpr ⟨sl_mc66, (List.forall_mem_cons.mpr ⟨sl_mc67, (List.forall_mem_cons.mpr ⟨sl_mc68, (List.forall_mem_cons.mpr ⟨sl_mc69, (List.forall_mem_cons.mpr ⟨sl_mc70, (List.forall_mem_cons.mpr ⟨sl_mc71, (fun _ h => absurd h List.not_mem_nil)⟩)⟩)⟩)⟩)⟩)⟩)⟩)⟩)⟩)⟩)⟩)⟩)
theorem sl_mcs6 : ∀ m, m ∈ sl_ms_6 → sl_mcP m := (List.forall_mem_cons.mpr ⟨sl_mc72, (List.forall_mem_cons.mpr ⟨sl_mc73, (List.forall_mem_cons.mpr ⟨sl_mc74, (List.forall_mem_cons.mpr ⟨sl_mc75, (List.forall_mem_cons.mpr ⟨sl_mc76, (List.forall_mem_cons.mpr ⟨sl_mc77, (List.forall_mem_cons.mpr ⟨sl_mc78, (List.forall_mem_cons.mpr ⟨sl_mc79, (List.forall_mem_cons.mpr ⟨sl_mc80, (List.forall_mem_cons.mpr ⟨sl_mc81, (List.forall_mem_cons.mpr ⟨sl_mc82, (List.forall_mem_cons.mpr ⟨sl_mc83, (fun _ h => absurd h List.not_mem_nil)⟩)⟩)⟩)⟩)⟩)⟩)⟩)⟩)⟩)⟩)⟩)⟩)
theorem sl_mcs7 : ∀ m, m ∈ sl_ms_7 → sl_mcP m := (List.forall_mem_cons.mpr ⟨sl_mc84, (List.forall_mem_cons.mpr ⟨sl_mc85, (List.forall_mem_cons.mpr ⟨sl_mc86, (List.forall_mem_cons.mpr ⟨sl_mc87, (List.forall_mem_cons.mpr ⟨sl_mc88, (List.forall_mem_cons.mpr ⟨sl_mc89, (List.forall_mem_cons.mpr ⟨sl_mc90, (List.forall_mem_cons.mpr ⟨sl_mc91, (List.forall_mem_cons.mpr ⟨sl_mc92, (List.forall_mem_cons.mpr ⟨sl_mc93, (List.forall_mem_cons.mpr ⟨sl_mc94, (List.forall_mem_cons.mpr ⟨sl_mc95, (fun _ h => absurd h List.not_mem_nil)⟩)⟩)⟩)⟩)⟩)⟩)⟩)⟩)⟩)⟩)⟩)⟩)
theorem sl_mcs8 : ∀ m, m ∈ sl_ms_8 → sl_mcP m := (List.forall_mem_cons.mpr ⟨sl_mc96, (List.forall_mem_cons.mpr ⟨sl_mc97, (List.forall_mem_cons.mpr ⟨sl_mc98, (List.forall_mem_cons.mpr ⟨sl_mc99, (List.forall_mem_cons.mpr ⟨sl_mc100, (List.forall_mem_cons.mpr ⟨sl_mc101, (List.forall_mem_cons.mpr ⟨sl_mc102, (List.forall_mem_cons.mpr ⟨sl_mc103, (List.forall_mem_cons.mpr ⟨sl_mc104, (List.forall_mem_cons.mpr ⟨sl_mc105, (List.forall_mem_cons.mpr ⟨sl_mc106, (List.forall_mem_cons.mpr ⟨sl_mc107, (fun _ h => absurd h List.not_mem_nil)⟩)⟩)⟩)⟩)⟩)⟩)⟩)⟩)⟩)⟩)⟩)⟩)
theorem sl_mcs9 : ∀ m, m ∈ sl_ms_9 → sl_mcP m := (List.forall_mem_cons.mpr ⟨sl_mc108, (List.forall_mem_cons.mpr ⟨sl_mc109, (List.forall_mem_cons.mpr ⟨sl_mc110, (List.forall_mem_cons.mpr ⟨sl_mc111, (List.forall_mem_cons.mpr ⟨sl_mc112, (List.forall_mem_cons.mpr ⟨sl_mc113, (List.forall_mem_cons.mpr ⟨sl_mc114, (List.forall_mem_cons.mpr ⟨sl_mc115, (List.forall_mem_cons.mpr ⟨sl_mc116, (List.forall_mem_cons.mpr ⟨sl_mc117, (List.forall_mem_cons.mpr ⟨sl_mc118, (List.forall_mem_cons.mpr ⟨sl_mc119, (fun _ h => absurd h List.not_mem_nil)⟩)⟩)⟩)⟩)⟩)⟩)⟩)⟩)⟩)⟩)⟩)⟩)
theorem sl_mcs10 : ∀ m, m ∈ sl_ms_10 → sl_mcP m := (List.forall_mem_cons.mpr ⟨sl_mc120, (List.forall_mem_cons.mpr ⟨sl_mc121, (List.forall_mem_cons.mpr ⟨sl_mc122, (List.forall_mem_cons.mpr ⟨sl_mc123, (List.forall_mem_cons.mpr ⟨sl_mc124, (List.forall_mem_cons.mpr ⟨sl_mc125, (List.forall_mem_cons.mpr ⟨sl_mc126, (List.forall_mem_cons.mpr ⟨sl_mc127, (List.forall_mem_cons.mpr ⟨sl_mc128, (List.forall_mem_cons.mpr ⟨sl_mc129, (List.forall_mem_cons.mpr ⟨sl_mc130, (List.forall_mem_cons.mpr ⟨sl_mc131, (fun _ h => absurd h List.not_mem_nil)⟩)⟩)⟩)⟩)⟩)⟩)⟩)⟩)⟩)⟩)⟩)⟩)
theorem sl_mcs11 : ∀ m, m ∈ sl_ms_11 → sl_mcP m := (List.forall_mem_cons.mpr ⟨sl_mc132, (List.forall_mem_cons.mpr ⟨sl_mc133, (List.forall_mem_cons.mpr ⟨sl_mc134, (List.forall_mem_cons.mpr ⟨sl_mc135, (List.forall_mem_cons.mpr ⟨sl_mc136, (List.forall_mem_cons.mpr ⟨sl_mc137, (List.forall_mem_cons.mpr ⟨sl_mc138, (List.forall_mem_cons.mpr ⟨sl_mc139, (List.forall_mem_cons.mpr ⟨sl_mc140, (List.forall_mem_cons.mpr ⟨sl_mc141, (List.forall_mem_cons.mpr ⟨sl_mc142, (List.forall_mem_cons.mpr ⟨sl_mc143, (fun _ h => absurd h List.not_mem_nil)⟩)⟩)⟩)⟩)⟩)⟩)⟩)⟩)⟩)⟩)⟩)⟩)
theorem sl_mcs12 : ∀ m, m ∈ sl_ms_12 → sl_mcP m := (List.forall_mem_cons.mpr ⟨sl_mc144, (List.forall_mem_cons.mpr ⟨sl_mc145, (List.forall_mem_cons.mpr ⟨sl_mc146, (List.forall_mem_cons.mpr ⟨sl_mc147, (List.forall_mem_cons.mpr ⟨sl_mc148, (List.forall_mem_cons.mpr ⟨sl_mc149, (List.forall_mem_cons.mpr ⟨sl_mc150, (List.forall_mem_cons.mpr ⟨sl_mc151, (List.forall_mem_cons.mpr ⟨sl_mc152, (List.forall_mem_cons.mpr ⟨sl_mc153, (List.forall_mem_cons.mpr ⟨sl_mc154, (List.forall_mem_cons.mpr ⟨sl_mc155, (fun _ h => absurd h List.not_mem_nil)⟩)⟩)⟩)⟩)⟩)⟩)⟩)⟩)⟩)⟩)⟩)⟩)
theorem sl_mcs13 : ∀ m, m ∈ sl_ms_13 → sl_mcP m := (List.forall_mem_cons.mpr ⟨sl_mc156, (List.forall_mem_cons.mpr ⟨sl_mc157, (List.forall_mem_cons.mpr ⟨sl_mc158, (List.forall_mem_cons.mpr ⟨sl_mc159, (fun _ h => absurd h List.not_mem_nil)⟩)⟩)⟩)⟩)
def sl_mp : List (Nat × Nat × Nat × Nat) := [(0, 58, 676, 677), (0, 58, 680, 12), (0, 58, 685, 13), (0, 58, 688, 14), (0, 62, 390, 0), (0, 62, 483, 0), (0, 62, 487, 0), (0, 62, 478, 0), (0, 62, 500, 0), (0, 62, 763, 0), (0, 55, 625, 626), (0, 55, 419, 420), (0, 55, 423, 424), (0, 55, 574, 575), (0, 55, 460, 461), (0, 55, 464, 465), (0, 55, 468, 0), (0, 55, 475, 1), (0, 55, 491, 2), (0, 55, 504, 3), (0, 55, 511, 512), (0, 55, 507, 508), (0, 59, 696, 697), (0, 52, 399, 400), (0, 52, 443, 444), (0, 52, 471, 472), (0, 52, 386, 387), (0, 52, 435, 436), (0, 60, 649, 650), (0, 60, 733, 734), (0, 60, 742, 743), (0, 60, 746, 747), (0, 53, 414, 415), (0, 53, 431, 432), (0, 53, 403, 404), (0, 53, 636, 637), (0, 57, 522, 523), (0, 57, 530, 531), (0, 57, 534, 4), (0, 57, 537, 5), (0, 57, 562, 0), (0, 57, 549, 8), (0, 57, 540, 6), (0, 57, 546, 7), (0, 57, 543, 0), (0, 54, 552, 553), (0, 54, 557, 558), (0, 51, 382, 383), (0, 51, 395, 396), (0, 51, 410, 411), (0, 51, 427, 428), (0, 51, 439, 440), (0, 51, 447, 448), (0, 51, 451, 452), (0, 51, 456, 457), (0, 51, 518, 519), (0, 51, 526, 527), (0, 51, 565, 566), (0, 51, 570, 571), (0, 51, 578, 579), (0, 51, 582, 583), (0, 51, 588, 589), (0, 51, 592, 593), (0, 51, 601, 602), (0, 51, 605, 606), (0, 51, 611, 612), (0, 51, 615, 616), (0, 51, 632, 633), (0, 51, 642, 643), (0, 51, 668, 669), (0, 51, 672, 673), (0, 51, 692, 693), (0, 51, 702, 703), (0, 51, 706, 707), (0, 51, 721, 722), (0, 51, 725, 726), (0, 51, 729, 730), (0, 51, 738, 739), (0, 51, 750, 751), (0, 51, 755, 756), (0, 51, 759, 760), (0, 51, 392, 0), (0, 51, 407, 0), (0, 51, 646, 0), (0, 51, 619, 9), (0, 51, 622, 10), (0, 51, 653, 0), (0, 51, 656, 11), (0, 51, 659, 0), (0, 51, 710, 15), (0, 51, 713, 16), (0, 61, 957, 17), (0, 61, 1016, 27), (0, 61, 964, 18), (0, 61, 1019, 28), (0, 61, 1013, 26), (0, 61, 974, 20), (0, 61, 977, 21), (0, 61, 980, 22), (0, 61, 953, 954), (0, 61, 967, 19), (0, 61, 960, 961), (0, 61, 970, 971), (0, 61, 983, 984), (0, 61, 987, 988), (0, 61, 991, 992), (0, 61, 995, 996), (0, 61, 1025, 30), (0, 61, 1022, 29), (0, 61, 1007, 24), (0, 61, 1010, 25), (0, 61, 1004, 23), (0, 61, 1000, 1001), (0, 61, 1029, 1030), (0, 61, 1040, 32), (0, 61, 1049, 35), (0, 61, 1052, 36), (0, 61, 1046, 34), (0, 61, 1055, 37), (0, 61, 1043, 33), (0, 61, 1037, 31), (0, 61, 1033, 1034), (0, 61, 1062, 38), (0, 61, 1058, 1059), (0, 61, 1069, 39), (0, 61, 1065, 1066), (0, 61, 1072, 1073), (0, 61, 1076, 1077), (0, 61, 1082, 1083), (0, 61, 1086, 1087), (0, 61, 1090, 1091), (0, 61, 1094, 1095), (0, 61, 1098, 1099), (0, 61, 1109, 41), (0, 61, 1115, 43), (0, 61, 1112, 42), (0, 61, 1106, 40), (0, 61, 1102, 1103), (0, 61, 1122, 44), (0, 61, 1118, 1119), (0, 61, 1132, 46), (0, 61, 1125, 1126), (0, 61, 1135, 1136), (0, 61, 1143, 47), (0, 61, 1139, 1140), (0, 61, 1146, 1147), (0, 61, 1150, 1151), (0, 61, 1158, 48), (0, 61, 1154, 1155), (0, 61, 1161, 1162), (0, 61, 1165, 1166), (0, 61, 1129, 45), (0, 61, 1169, 1170), (0, 61, 1173, 1174), (0, 61, 1177, 1178), (0, 61, 1181, 1182), (0, 61, 1190, 49), (0, 61, 1186, 1187), (0, 65, 662, 0), (0, 56, 189, 0), (0, 0, 0, 0)]
def sl_lk2 : List (Nat × Nat × String × Nat) := [(13, 47, "SloshTankLaw", 381), (17, 99, "SloshTankLaw", 952), (18, 48, "SloshTankLaw", 394), (21, 1, "SloshTank$Emptying", 679), (22, 32, "SloshTank$Tank", 639), (22, 45, "SloshTank$Way", 560), (22, 101, "SloshTankLaw", 959), (22, 159, "SloshTank$Sheet", 736), (23, 49, "SloshTankLaw", 409), (25, 2, "SloshTank$Emptying", 684), (27, 102, "SloshTankLaw", 969), (28, 50, "SloshTankLaw", 426), (30, 38, "SloshTank$Tape", 533), (31, 4, "SloshTank$Kind", 765), (31, 103, "SloshTankLaw", 982), (32, 51, "SloshTankLaw", 438), (34, 39, "SloshTank$Tape", 536), (35, 104, "SloshTankLaw", 986), (36, 52, "SloshTankLaw", 446), (38, 41, "SloshTank$Tape", 548), (40, 105, "SloshTankLaw", 990), (41, 53, "SloshTankLaw", 450), (42, 42, "SloshTank$Tape", 539), (44, 3, "SloshTank$Emptying", 687), (44, 106, "SloshTankLaw", 994), (45, 54, "SloshTankLaw", 455), (46, 43, "SloshTank$Tape", 545), (48, 112, "SloshTankLaw", 999), (50, 40, "SloshTank$Tape", 561), (51, 55, "SloshTankLaw", 517), (52, 4, "SloshTank$Rig", 389), (55, 113, "SloshTankLaw", 1028), (56, 56, "SloshTankLaw", 525), (59, 26, "SloshTank", 385), (60, 121, "SloshTankLaw", 1032), (61, 46, "SloshTank$Tape", 556), (61, 57, "SloshTankLaw", 564), (63, 23, "SloshTank", 398), (64, 123, "SloshTankLaw", 1057), (65, 45, "SloshTank$Tape", 551), (65, 58, "SloshTankLaw", 569), (68, 125, "SloshTankLaw", 1064), (69, 59, "SloshTankLaw", 577), (71, 34, "SloshTank", 402), (72, 126, "SloshTankLaw", 1071), (73, 60, "SloshTankLaw", 581), (74, 44, "SloshTank$Tape", 542), (76, 82, "SloshTank", 406), (76, 127, "SloshTankLaw", 1075), (77, 61, "SloshTankLaw", 587), (80, 128, "SloshTankLaw", 1081), (81, 62, "SloshTankLaw", 591), (83, 32, "SloshTank", 413), (84, 129, "SloshTankLaw", 1085), (85, 63, "SloshTankLaw", 600), (87, 81, "SloshTank", 417), (88, 130, "SloshTankLaw", 1089), (89, 64, "SloshTankLaw", 604), (91, 11, "SloshTank", 418), (92, 131, "SloshTankLaw", 1093), (93, 65, "SloshTankLaw", 610), (94, 15, "SloshTank$Liquid", 463), (96, 132, "SloshTankLaw", 1097), (97, 16, "SloshTank$Liquid", 467), (97, 66, "SloshTankLaw", 614), (99, 12, "SloshTank", 422), (100, 137, "SloshTankLaw", 1101), (101, 67, "SloshTankLaw", 631), (103, 17, "SloshTank$Liquid", 474), (103, 33, "SloshTank", 430), (104, 139, "SloshTankLaw", 1117), (105, 68, "SloshTankLaw", 641), (106, 27, "SloshTank", 434), (108, 141, "SloshTankLaw", 1124), (109, 69, "SloshTankLaw", 667), (110, 19, "SloshTank$Liquid", 503), (110, 24, "SloshTank", 442), (112, 142, "SloshTankLaw", 1134), (113, 21, "SloshTank$Liquid", 506), (113, 70, "SloshTankLaw", 671), (116, 144, "SloshTankLaw", 1138), (117, 71, "SloshTankLaw", 691), (120, 145, "SloshTankLaw", 1145), (121, 72, "SloshTankLaw", 701), (124, 146, "SloshTankLaw", 1149), (125, 73, "SloshTankLaw", 705), (128, 148, "SloshTankLaw", 1153), (129, 14, "SloshTank", 459), (129, 74, "SloshTankLaw", 720), (130, 25, "SloshTank$Liquid", 470), (132, 149, "SloshTankLaw", 1160), (133, 36, "SloshTank", 521), (133, 75, "SloshTankLaw", 724), (136, 150, "SloshTankLaw", 1164), (137, 76, "SloshTankLaw", 728), (140, 152, "SloshTankLaw", 1168), (141, 77, "SloshTankLaw", 737), (144, 37, "SloshTank", 529), (144, 153, "SloshTankLaw", 1172), (145, 78, "SloshTankLaw", 749), (149, 154, "SloshTankLaw", 1176), (150, 79, "SloshTankLaw", 754), (151, 25, "SloshTank", 568), (152, 7, "SloshTank$Liquid", 477), (153, 155, "SloshTankLaw", 1180), (154, 80, "SloshTankLaw", 758), (157, 5, "SloshTank$Liquid", 482), (157, 157, "SloshTankLaw", 1185), (160, 6, "SloshTank$Liquid", 486), (166, 18, "SloshTank$Liquid", 490), (168, 13, "SloshTank", 573), (176, 8, "SloshTank$Liquid", 499), (186, 4, "SloshTank", 595), (188, 20, "SloshTank$Liquid", 510), (190, 91, "SloshTankModel", 956), (191, 5, "SloshTank", 596), (194, 6, "SloshTank", 597), (194, 93, "SloshTankModel", 963), (197, 7, "SloshTank", 598), (198, 100, "SloshTankModel", 966), (200, 8, "SloshTank", 599), (202, 96, "SloshTankModel", 973), (206, 97, "SloshTankModel", 976), (209, 98, "SloshTankModel", 979), (214, 107, "SloshTankModel", 1024), (215, 20, "SloshTank", 608), (218, 21, "SloshTank", 609), (220, 95, "SloshTankModel", 1012), (224, 92, "SloshTankModel", 1015), (227, 94, "SloshTankModel", 1018), (230, 109, "SloshTankModel", 1006), (233, 110, "SloshTankModel", 1009), (236, 108, "SloshTankModel", 1021), (239, 111, "SloshTankModel", 1003), (242, 114, "SloshTankModel", 1039), (243, 84, "SloshTank", 618), (245, 115, "SloshTankModel", 1048), (246, 85, "SloshTank", 621), (249, 117, "SloshTankModel", 1045), (252, 35, "SloshTank", 635), (252, 116, "SloshTankModel", 1051), (255, 83, "SloshTank", 645), (255, 118, "SloshTankModel", 1054), (258, 28, "SloshTank", 648), (259, 119, "SloshTankModel", 1042), (262, 120, "SloshTankModel", 1036), (265, 86, "SloshTank", 652), (265, 122, "SloshTankModel", 1061), (268, 124, "SloshTankModel", 1068), (269, 87, "SloshTank", 655), (274, 136, "SloshTankModel", 1105), (277, 133, "SloshTankModel", 1108), (280, 135, "SloshTankModel", 1111), (282, 0, "SloshTank", 675), (283, 134, "SloshTankModel", 1114), (286, 138, "SloshTankModel", 1121), (288, 22, "SloshTank", 695), (289, 151, "SloshTankModel", 1128), (292, 140, "SloshTankModel", 1131), (295, 89, "SloshTank", 709), (295, 143, "SloshTankModel", 1142), (298, 10, "SloshTank", 624), (298, 147, "SloshTankModel", 1157), (302, 99, "SloshTankModel", 1184), (305, 29, "SloshTank", 732), (306, 156, "SloshTankModel", 1189), (308, 30, "SloshTank", 741), (312, 31, "SloshTank", 745), (327, 9, "SloshTank", 762), (334, 88, "SloshTank", 658), (338, 158, "SloshTank", 661), (346, 90, "SloshTank", 712), (351, 15, "SloshTank", 715)]
def sl_lkP (q : Nat × Nat × String × Nat) : Bool := match sl_ms[q.2.1]? with
  | some m => decide (sl_good[q.2.2.2]? = some (Cond.methodLink q.2.2.1 q.1 m.1))
  | none => false
set_option maxRecDepth 100000 in
theorem sl_lk2_ok : sl_lk2.all sl_lkP = true := by decide +kernel
def sl_lchk (own : String) (idx a : Nat) : Bool := sl_lk2.any (fun q => decide (q.1 = idx) && (decide (q.2.1 = a) && decide (q.2.2.1 = own)))
theorem sl_lchk_ok {own : String} {idx a : Nat} {m : sl_M} (hm : sl_ms[a]? = some m) (h : sl_lchk own idx a = true) : Cond.methodLink own idx m.1 ∈ sl_good := by
  unfold sl_lchk at h
  obtain ⟨q, hq, h2⟩ := List.any_eq_true.mp h
  simp only [Bool.and_eq_true, decide_eq_true_eq] at h2
  obtain ⟨rfl, rfl, rfl⟩ := h2
  have h3 := List.all_eq_true.mp sl_lk2_ok q hq
  unfold sl_lkP at h3
  rw [hm] at h3
  exact List.mem_of_getElem? (of_decide_eq_true h3)
/-- a method's own words -/
def sl_msP (m : sl_M) (q : Nat × Nat × Nat × Nat) : Bool := plainName m.1.cls && (decide (m.1.cls ≠ "java/lang/invoke/MethodHandle") && (decide (m.1.cls ≠ "java/lang/invoke/VarHandle") && (decide ((parseMethodDescriptor m.1.desc).map (fun d => d.parameters.length) = some m.2.2.2.2.2.2.2) && (decide (sl_good[q.2.1]? = some (Cond.initialized m.1.cls)) && (if m.2.2.2.2.2.2.1 = true then decide (sl_good[q.2.2.1]? = some (Cond.static m.1)) else (decide (sl_good[q.2.2.1]? = some (Cond.instanceMethod m.1)) && decide (sl_good[q.2.2.2]? = some (Cond.selects m.1.cls m.1 m.1))))))))
set_option maxRecDepth 100000 in
theorem sl_ms_ok : ((sl_ms.zip sl_mp).take 160).all (fun q => sl_msP q.1 q.2) = true := by decide +kernel
theorem sl_ms_of {a : Nat} {m : sl_M} (ha : a < 160) (hm : sl_ms[a]? = some m) : ∃ q, sl_msP m q = true := by
  have hl : sl_mp.length = 161 := by decide +kernel
  obtain ⟨q, hq⟩ : ∃ q, sl_mp[a]? = some q := ⟨sl_mp[a], List.getElem?_eq_getElem (by omega)⟩
  have h2 : ((sl_ms.zip sl_mp).take 160)[a]? = some (m, q) := by
    rw [List.getElem?_take_of_lt ha, List.getElem?_zip_eq_some]
    exact ⟨hm, hq⟩
  exact ⟨q, List.all_eq_true.mp sl_ms_ok (m, q) (List.mem_of_getElem? h2)⟩
set_option maxRecDepth 100000 in
theorem sl_mc_of {a : Nat} {m : sl_M} (ha : a < 160) (hm : sl_ms[a]? = some m) : sl_mcP m := by
  have h : m ∈ sl_ms.take 160 := List.mem_of_getElem? (i := a) (by rw [List.getElem?_take_of_lt ha]; exact hm)
  have e : sl_ms.take 160 = sl_ms_0 ++ (sl_ms_1 ++ (sl_ms_2 ++ (sl_ms_3 ++ (sl_ms_4 ++ (sl_ms_5 ++ (sl_ms_6 ++ (sl_ms_7 ++ (sl_ms_8 ++ (sl_ms_9 ++ (sl_ms_10 ++ (sl_ms_11 ++ (sl_ms_12 ++ (sl_ms_13))))))))))))) := rfl
  rw [e] at h
  simp only [List.mem_append] at h
  rcases h with h | h | h | h | h | h | h | h | h | h | h | h | h | h
  · exact sl_mcs0 m h
  · exact sl_mcs1 m h
  · exact sl_mcs2 m h
  · exact sl_mcs3 m h
  · exact sl_mcs4 m h
  · exact sl_mcs5 m h
  · exact sl_mcs6 m h
  · exact sl_mcs7 m h
  · exact sl_mcs8 m h
  · exact sl_mcs9 m h
  · exact sl_mcs10 m h
  · exact sl_mcs11 m h
  · exact sl_mcs12 m h
  · exact sl_mcs13 m h
def sl_cC (own : String) (i : Instr) (len pc nx k a b : Nat) (v : Int32) (ts : List Nat) (ret : Option FieldType) (fr lo : Nat) : Bool := match k with
  | 0 => decide (i = .goto ((a : Int) - (pc : Int))) && decide (len = 3)
  | 1 => (decide (len = 3) && decide (nx = pc + 3)) && match b with
    | 0 => decide (i = .if_icmp .eq ((a : Int) - (pc : Int)))
    | 1 => decide (i = .if_icmp .ne ((a : Int) - (pc : Int)))
    | 2 => decide (i = .if_icmp .lt ((a : Int) - (pc : Int)))
    | 3 => decide (i = .if_icmp .ge ((a : Int) - (pc : Int)))
    | 4 => decide (i = .if_icmp .gt ((a : Int) - (pc : Int)))
    | 5 => decide (i = .if_icmp .le ((a : Int) - (pc : Int)))
    | _ => false
  | 2 => (decide (len = 3) && decide (nx = pc + 3)) && match b with
    | 0 => decide (i = .ifCond .eq ((a : Int) - (pc : Int)))
    | 1 => decide (i = .ifCond .ne ((a : Int) - (pc : Int)))
    | 2 => decide (i = .ifCond .lt ((a : Int) - (pc : Int)))
    | 3 => decide (i = .ifCond .ge ((a : Int) - (pc : Int)))
    | 4 => decide (i = .ifCond .gt ((a : Int) - (pc : Int)))
    | 5 => decide (i = .ifCond .le ((a : Int) - (pc : Int)))
    | _ => false
  | 3 => if v = 0 then decide (i = .tableswitch ((a : Int) - (pc : Int)) 0 ((ts.length : Int) - 1) (ts.map (fun (t : Nat) => (t : Int) - (pc : Int))).toArray) && decide (0 < ts.length ∧ ts.length < 1000)
    else match ts with
      | [t0, t1] => decide (i = .lookupswitch ((a : Int) - (pc : Int)) #[(0, (t0 : Int) - (pc : Int)), (1, (t1 : Int) - (pc : Int))])
      | _ => false
  | 4 => decide (a < 160) && (decide (len = 3) && (decide (nx = pc + 3) && match sl_ms[a]? with
    | some m => decide (m.2.2.2.2.1 + 1 ≤ fr ∧ 8 + (m.2.2.1 + 11) + m.2.2.2.2.2.1 ≤ lo) && (decide (sl_ml a = m.2.2.1) && (match i with
      | .invokevirtual idx => decide (m.2.2.2.2.2.2.1 = false) && (decide (b = m.2.2.2.2.2.2.2 + 1) && (sl_lchk own idx a && (decide (v.toNatClampNeg < 10 ∧ nI v.toNatClampNeg = v) && (match vwCl[v.toNatClampNeg]? with | some q => decide (q.1 = m.1.cls) | none => false))))
      | .invokestatic idx => decide (m.2.2.2.2.2.2.1 = true) && (decide (b = m.2.2.2.2.2.2.2) && (if v = 100 then sl_lchk own idx a else (decide (v = 101) && (decide ((own, idx) ∈ sl_nest) && decide (a = 81)))))
      | _ => false))
    | none => false))
  | 5 => decide (i = .ireturn) && (decide (len = 1) && decide ((v = 0 ∧ ret = some .int) ∨ (v = 1 ∧ ret = some .boolean)))
  | 6 => decide (i = .return_) && (decide (len = 1) && decide (ret = none))
  | 7 => decide (i = .lreturn) && (decide (len = 1) && decide (ret = some .long))
  | 8 => decide (i = .dup) && (decide (len = 1) && decide (nx = pc + 1))
  | 9 => decide (i = .dup2) && (decide (len = 1) && decide (nx = pc + 1))
  | _ => false
/-- where a method gives its answer -/
def sl_fin9 (ret : Option FieldType) (bytes : ByteArray) (pc : Nat) (r : Option sl_V) : Prop := match ret with
  | none => r = none ∧ decode bytes pc = .ok (.return_, 1)
  | some .int => ∃ x, r = some (.inl x) ∧ decode bytes pc = .ok (.ireturn, 1)
  | some .boolean => ∃ x, r = some (.inl x) ∧ (x = 0 ∨ x = 1) ∧ decode bytes pc = .ok (.ireturn, 1)
  | some .long => ∃ x, r = some (.inr (.inl x)) ∧ decode bytes pc = .ok (.lreturn, 1)
  | _ => False
section SNC
variable {p : Program} {l : Launch} {e : Env} {R : Room} {s : State} {mi : MethodId} {args : Array Value} {below : List Frame} {meth : Method} {c : Code} {cells slots : Nat} {Q : State → Prop}
variable {D : va_G} {cA : Nat → ClassId} {ad : sl_R → Nat} {xs : Nat → Int32} {N : Nat} {own : String} {bytes : ByteArray} {nL : Nat}
set_option maxHeartbeats 4000000 in
theorem snd_C {pc nx len k a b pc' fr lo ml : Nat} {v : Int32} {i : Instr} {ts : List Nat} {ret : Option FieldType} {L L' : sl_L} {st st' : List sl_V} {σ σ' : sl_S} (hC : sl_C p s mi args c D cA ad xs N own bytes nL) (hd : decode bytes pc = .ok (i, len)) (hk : sl_cC own i len pc nx k a b v ts ret fr lo = true) (hok : sl_ok nL L st) (hst : sl_stepC k a b v ts ml nx L st σ = some (.inl (pc', L', st', σ')))
    (K : sl_ok nL L' st' → sl_N p l e R s mi args below meth c cells slots Q D cA ad nL pc' L' st' σ') : sl_N p l e R s mi args below meth c cells slots Q D cA ad nL pc L st σ := by
  obtain ⟨hx, hb, hml, hts, hown, hK, hinj, hro, hnest⟩ := hC
  intro H locs ls hP hS hl
  have hoff : ∀ z : Nat, (pc : Int) + ((z : Int) - (pc : Int)) = (z : Int) := fun z => by omega
  unfold sl_stepC at hst
  split at hst
  -- goto
  · obtain ⟨rfl, rfl, rfl, rfl⟩ := sl_snx hst
    have K2 := K (sl_ok_st hok hok.2.1) H locs ls hP hS hl
    simp only [sl_cC, Bool.and_eq_true, decide_eq_true_eq] at hk
    obtain ⟨rfl, rfl⟩ := hk
    exact lv_goto hx hb hd (hoff a) K2
  -- if_icmp
  · split at hst
    · rename_i y x st0
      obtain ⟨rfl, rfl, rfl, rfl⟩ := sl_snx hst
      have K2 := K (sl_ok_st hok (sl_okt (sl_okt hok.2.1))) H locs ls hP hS hl
      simp only [sl_cC, Bool.and_eq_true, decide_eq_true_eq] at hk
      obtain ⟨⟨rfl, rfl⟩, hk⟩ := hk
      split at hk
      all_goals (first | (obtain rfl := of_decide_eq_true hk) | cases hk)
      · exact lv_icmp_eq hx hb hd (hoff a) (fun h => by simpa [sl_br, h] using K2) (fun h => by simpa [sl_br, h] using K2)
      · exact lv_icmp_ne hx hb hd (hoff a) (fun h => by simpa [sl_br, h] using K2) (fun h => by simpa [sl_br, h] using K2)
      · exact lv_icmp_lt hx hb hd (hoff a) (fun h => by simpa [sl_br, h] using K2) (fun h => by simpa [sl_br, h] using K2)
      · exact lv_icmp_ge hx hb hd (hoff a) (fun h => by simpa [sl_br, h] using K2) (fun h => by simpa [sl_br, h] using K2)
      · exact lv_icmp_gt hx hb hd (hoff a) (fun h => by simpa [sl_br, h] using K2) (fun h => by simpa [sl_br, h] using K2)
      · exact lv_icmp_le hx hb hd (hoff a) (fun h => by simpa [sl_br, h] using K2) (fun h => by simpa [sl_br, h] using K2)
    · cases hst
  -- if
  · split at hst
    · rename_i x st0
      obtain ⟨rfl, rfl, rfl, rfl⟩ := sl_snx hst
      have K2 := K (sl_ok_st hok (sl_okt hok.2.1)) H locs ls hP hS hl
      simp only [sl_cC, Bool.and_eq_true, decide_eq_true_eq] at hk
      obtain ⟨⟨rfl, rfl⟩, hk⟩ := hk
      split at hk
      all_goals (first | (obtain rfl := of_decide_eq_true hk) | cases hk)
      · exact lv_if_eq hx hb hd (hoff a) (fun h => by simpa [sl_br, h] using K2) (fun h => by simpa [sl_br, h] using K2)
      · exact lv_if_ne hx hb hd (hoff a) (fun h => by simpa [sl_br, h] using K2) (fun h => by simpa [sl_br, h] using K2)
      · exact lv_if_lt hx hb hd (hoff a) (fun h => by simpa [sl_br, h] using K2) (fun h => by simpa [sl_br, h] using K2)
      · exact lv_if_ge hx hb hd (hoff a) (fun h => by simpa [sl_br, h] using K2) (fun h => by simpa [sl_br, h] using K2)
      · exact lv_if_gt hx hb hd (hoff a) (fun h => by simpa [sl_br, h] using K2) (fun h => by simpa [sl_br, h] using K2)
      · exact lv_if_le hx hb hd (hoff a) (fun h => by simpa [sl_br, h] using K2) (fun h => by simpa [sl_br, h] using K2)
    · cases hst
  -- switch
  · split at hst
    · rename_i x st0
      obtain ⟨rfl, rfl, rfl, rfl⟩ := sl_snx hst
      have K2 := K (sl_ok_st hok (sl_okt hok.2.1)) H locs ls hP hS hl
      simp only [sl_cC] at hk
      split at hk
      · simp only [Bool.and_eq_true, decide_eq_true_eq] at hk
        obtain ⟨rfl, hl0, hl1⟩ := hk
        unfold sl_jump at K2
        by_cases h0 : x < 0
        · rw [if_pos h0] at K2
          have h2 := Int32.lt_iff_toInt_lt.mp h0
          exact lv_tableOut hx hb hd (Or.inl (by simpa using h2)) (hoff a) K2
        · rw [if_neg h0] at K2
          obtain ⟨j, hj, rfl⟩ := nI_of h0
          rw [nI_clamp hj] at K2
          have hji := nI_toInt hj
          by_cases h1 : j < ts.length
          · rw [List.getD_eq_getElem?_getD, List.getElem?_eq_getElem h1, Option.getD_some] at K2
            refine lv_tableIn hx hb hd (off := ((ts[j] : Nat) : Int) - (pc : Int)) (tgt := ts[j]) (by omega) (by omega) ?_ (hoff _) K2
            rw [hji, show ((j : Int) - 0).toNat = j by omega]
            simp [h1]
          · rw [List.getD_eq_getElem?_getD, List.getElem?_eq_none (by omega), Option.getD_none] at K2
            exact lv_tableOut hx hb hd (Or.inr (by omega)) (hoff a) K2
      · split at hk
        · rename_i t0 t1
          obtain rfl := of_decide_eq_true hk
          unfold sl_jump at K2
          by_cases h0 : x < 0
          · rw [if_pos h0] at K2
            have h2 := Int32.lt_iff_toInt_lt.mp h0
            have h3 : x.toInt < 0 := by simpa using h2
            refine lv_lookup hx hb hd rfl (off := (a : Int) - (pc : Int)) ?_ (hoff a) K2
            simp only [Op.lookupswitch.offset_cons]
            rw [if_neg (by omega), if_neg (by omega)]
            rfl
          · rw [if_neg h0] at K2
            obtain ⟨j, hj, rfl⟩ := nI_of h0
            rw [nI_clamp hj] at K2
            have hji := nI_toInt hj
            match j, hj, hji, K2 with
            | 0, _, hji, K2 =>
              refine lv_lookup hx hb hd rfl (off := (t0 : Int) - (pc : Int)) ?_ (hoff t0) K2
              simp only [Op.lookupswitch.offset_cons]
              rw [if_pos (by omega)]
            | 1, _, hji, K2 =>
              refine lv_lookup hx hb hd rfl (off := (t1 : Int) - (pc : Int)) ?_ (hoff t1) K2
              simp only [Op.lookupswitch.offset_cons]
              rw [if_neg (by omega), if_pos (by omega)]
            | j + 2, _, hji, K2 =>
              refine lv_lookup hx hb hd rfl (off := (a : Int) - (pc : Int)) ?_ (hoff a) K2
              simp only [Op.lookupswitch.offset_cons]
              rw [if_neg (by omega), if_neg (by omega)]
              rfl
        · cases hk
    · cases hst
  -- call
  · split at hst <;> cases hst
  · split at hst
    · split at hst <;> cases hst
    · cases hst
  · split at hst <;> cases hst
  · split at hst <;> cases hst
  -- dup
  · simp only [sl_cC, Bool.and_eq_true, decide_eq_true_eq] at hk
    obtain ⟨rfl, rfl, rfl⟩ := hk
    split at hst
    · obtain ⟨rfl, rfl, rfl, rfl⟩ := sl_snx hst
      exact lv_dup hx hb hd rfl (K (sl_ok_st hok (sl_okc trivial hok.2.1)) H locs ls hP hS hl)
    · obtain ⟨rfl, rfl, rfl, rfl⟩ := sl_snx hst
      exact lv_dup hx hb hd rfl (K (sl_ok_st hok (sl_okc (hok.2.1 _ List.mem_cons_self) hok.2.1)) H locs ls hP hS hl)
    · cases hst
  -- dup2
  · simp only [sl_cC, Bool.and_eq_true, decide_eq_true_eq] at hk
    obtain ⟨rfl, rfl, rfl⟩ := hk
    split at hst
    · obtain ⟨rfl, rfl, rfl, rfl⟩ := sl_snx hst
      exact lv_dup2_11 hx hb hd rfl rfl (K (sl_ok_st hok (sl_okc trivial (sl_okc (hok.2.1 _ (List.mem_cons_of_mem _ List.mem_cons_self)) hok.2.1))) H locs ls hP hS hl)
    · cases hst
  · cases hst
end SNC
