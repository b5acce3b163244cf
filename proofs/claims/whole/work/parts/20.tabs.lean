theorem gj_at {w : Cond} (i : Nat) (h : lw_tbl[i]? = some w) (hg : goodWord w = true) : w ∈ gj_tb := List.mem_filter.mpr ⟨List.mem_of_getElem? h, hg⟩
theorem gj_an {w : Cond} (i : Nat) (h : lw_tbl[i]? = some w) (hg : gj_isN w = true) : w ∈ gj_nb := List.mem_filter.mpr ⟨List.mem_of_getElem? h, hg⟩
theorem inGX0 : ∀ w ∈ u_ws RX0 TX0 2, w ∈ gj_tb := fun w hw => List.mem_filter.mpr ⟨inX0 w hw, List.all_eq_true.mp (by decide +kernel : (u_ws RX0 TX0 2).all goodWord = true) w hw⟩
theorem k_X0 : gj_k 0 RX0 TX0 2 tyX0 := ⟨rfl, inGX0, tyX0_ok, nmX0⟩
theorem inGX1 : ∀ w ∈ u_ws RX1 TX1 6, w ∈ gj_tb := fun w hw => List.mem_filter.mpr ⟨inX1 w hw, List.all_eq_true.mp (by decide +kernel : (u_ws RX1 TX1 6).all goodWord = true) w hw⟩
theorem k_X1 : gj_k 1 RX1 TX1 6 tyX1 := ⟨rfl, inGX1, tyX1_ok, nmX1⟩
theorem inGX2 : ∀ w ∈ u_ws RX2 TX2 6, w ∈ gj_tb := fun w hw => List.mem_filter.mpr ⟨inX2 w hw, List.all_eq_true.mp (by decide +kernel : (u_ws RX2 TX2 6).all goodWord = true) w hw⟩
theorem k_X2 : gj_k 2 RX2 TX2 6 tyX2 := ⟨rfl, inGX2, tyX2_ok, nmX2⟩
theorem inGX3 : ∀ w ∈ u_ws RX3 TX3 7, w ∈ gj_tb := fun w hw => List.mem_filter.mpr ⟨inX3 w hw, List.all_eq_true.mp (by decide +kernel : (u_ws RX3 TX3 7).all goodWord = true) w hw⟩
theorem k_X3 : gj_k 3 RX3 TX3 7 tyX3 := ⟨rfl, inGX3, tyX3_ok, nmX3⟩
theorem inGX4 : ∀ w ∈ u_ws RX4 TX4 9, w ∈ gj_tb := fun w hw => List.mem_filter.mpr ⟨inX4 w hw, List.all_eq_true.mp (by decide +kernel : (u_ws RX4 TX4 9).all goodWord = true) w hw⟩
theorem k_X4 : gj_k 4 RX4 TX4 9 tyX4 := ⟨rfl, inGX4, tyX4_ok, nmX4⟩
theorem inGX5 : ∀ w ∈ u_ws RX5 TX5 7, w ∈ gj_tb := fun w hw => List.mem_filter.mpr ⟨inX5 w hw, List.all_eq_true.mp (by decide +kernel : (u_ws RX5 TX5 7).all goodWord = true) w hw⟩
theorem k_X5 : gj_k 5 RX5 TX5 7 tyX5 := ⟨rfl, inGX5, tyX5_ok, nmX5⟩
theorem inGX6 : ∀ w ∈ u_ws RX6 TX6 4, w ∈ gj_tb := fun w hw => List.mem_filter.mpr ⟨inX6 w hw, List.all_eq_true.mp (by decide +kernel : (u_ws RX6 TX6 4).all goodWord = true) w hw⟩
theorem k_X6 : gj_k 6 RX6 TX6 4 tyX6 := ⟨rfl, inGX6, tyX6_ok, nmX6⟩
theorem inGX7 : ∀ w ∈ u_ws RX7 TX7 13, w ∈ gj_tb := fun w hw => List.mem_filter.mpr ⟨inX7 w hw, List.all_eq_true.mp (by decide +kernel : (u_ws RX7 TX7 13).all goodWord = true) w hw⟩
theorem k_X7 : gj_k 7 RX7 TX7 13 tyX7 := ⟨rfl, inGX7, tyX7_ok, nmX7⟩
theorem inGX8 : ∀ w ∈ u_ws RX8 TX8 28, w ∈ gj_tb := fun w hw => List.mem_filter.mpr ⟨inX8 w hw, List.all_eq_true.mp (by decide +kernel : (u_ws RX8 TX8 28).all goodWord = true) w hw⟩
theorem k_X8 : gj_k 8 RX8 TX8 28 tyX8 := ⟨rfl, inGX8, tyX8_ok, nmX8⟩
def Y0_init : gj_Y := (yX0_init, cX0_init, 1, none, { frames := 1, cells := 1, slots := 70, locals := 20 })
theorem ok_0_init : gj_ok Y0_init 0 := ⟨by decide +kernel, (gj_at 253 (by decide +kernel) rfl), (gj_at 61 (by decide +kernel) rfl), by decide +kernel⟩
def Y0_clear : gj_Y := (yX0_clear, cX0_clear, 1, none, { frames := 0, cells := 0, slots := 0, locals := 0 })
theorem ok_0_clear : gj_ok Y0_clear 0 := ⟨by decide +kernel, (gj_at 434 (by decide +kernel) rfl), (gj_at 61 (by decide +kernel) rfl), by decide +kernel⟩
def Y0_add : gj_Y := (yX0_add, cX0_add, 7, none, { frames := 2, cells := 0, slots := 0, locals := 46 })
theorem ok_0_add : gj_ok Y0_add 5 := ⟨by decide +kernel, (gj_at 538 (by decide +kernel) rfl), (gj_at 61 (by decide +kernel) rfl), by decide +kernel⟩
def Y0_forgetFirst : gj_Y := (yX0_forgetFirst, cX0_forgetFirst, 1, none, { frames := 1, cells := 0, slots := 0, locals := 26 })
theorem ok_0_forgetFirst : gj_ok Y0_forgetFirst 0 := ⟨by decide +kernel, (gj_at 542 (by decide +kernel) rfl), (gj_at 61 (by decide +kernel) rfl), by decide +kernel⟩
def Y0_takeBackLast : gj_Y := (yX0_takeBackLast, cX0_takeBackLast, 4, none, { frames := 1, cells := 0, slots := 0, locals := 24 })
theorem ok_0_takeBackLast : gj_ok Y0_takeBackLast 1 := ⟨by decide +kernel, (gj_at 586 (by decide +kernel) rfl), (gj_at 61 (by decide +kernel) rfl), by decide +kernel⟩
def Y1_init : gj_Y := (yX1_init, cX1_init, 1, none, { frames := 2, cells := 6, slots := 216, locals := 40 })
theorem ok_1_init : gj_ok Y1_init 0 := ⟨by decide +kernel, (gj_at 78 (by decide +kernel) rfl), (gj_at 56 (by decide +kernel) rfl), by decide +kernel⟩
def Y1_firstFault : gj_Y := (yX1_firstFault, cX1_firstFault, 4, (some .int), { frames := 5, cells := 0, slots := 0, locals := 104 })
theorem ok_1_firstFault : gj_ok Y1_firstFault 2 := ⟨by decide +kernel, (gj_at 341 (by decide +kernel) rfl), (gj_at 56 (by decide +kernel) rfl), by decide +kernel⟩
def Y1_takes : gj_Y := (yX1_takes, cX1_takes, 2, (some .boolean), { frames := 4, cells := 0, slots := 0, locals := 83 })
theorem ok_1_takes : gj_ok Y1_takes 1 := ⟨by decide +kernel, (gj_at 349 (by decide +kernel) rfl), (gj_at 56 (by decide +kernel) rfl), by decide +kernel⟩
def Y1_takesDrawing : gj_Y := (yX1_takesDrawing, cX1_takesDrawing, 1, (some .boolean), { frames := 0, cells := 0, slots := 0, locals := 0 })
theorem ok_1_takesDrawing : gj_ok Y1_takesDrawing 0 := ⟨by decide +kernel, (gj_at 353 (by decide +kernel) rfl), (gj_at 56 (by decide +kernel) rfl), by decide +kernel⟩
def Y1_takesWidth : gj_Y := (yX1_takesWidth, cX1_takesWidth, 2, (some .boolean), { frames := 1, cells := 0, slots := 0, locals := 22 })
theorem ok_1_takesWidth : gj_ok Y1_takesWidth 1 := ⟨by decide +kernel, (gj_at 365 (by decide +kernel) rfl), (gj_at 56 (by decide +kernel) rfl), by decide +kernel⟩
def Y1_takesLevel : gj_Y := (yX1_takesLevel, cX1_takesLevel, 2, (some .boolean), { frames := 1, cells := 0, slots := 0, locals := 20 })
theorem ok_1_takesLevel : gj_ok Y1_takesLevel 1 := ⟨by decide +kernel, (gj_at 357 (by decide +kernel) rfl), (gj_at 56 (by decide +kernel) rfl), by decide +kernel⟩
def Y1_takesItemOrEnd : gj_Y := (yX1_takesItemOrEnd, cX1_takesItemOrEnd, 2, (some .boolean), { frames := 3, cells := 0, slots := 0, locals := 62 })
theorem ok_1_takesItemOrEnd : gj_ok Y1_takesItemOrEnd 1 := ⟨by decide +kernel, (gj_at 373 (by decide +kernel) rfl), (gj_at 56 (by decide +kernel) rfl), by decide +kernel⟩
def Y1_takesItem : gj_Y := (yX1_takesItem, cX1_takesItem, 3, (some .boolean), { frames := 2, cells := 0, slots := 0, locals := 40 })
theorem ok_1_takesItem : gj_ok Y1_takesItem 1 := ⟨by decide +kernel, (gj_at 377 (by decide +kernel) rfl), (gj_at 56 (by decide +kernel) rfl), by decide +kernel⟩
def Y1_takesOpening : gj_Y := (yX1_takesOpening, cX1_takesOpening, 1, (some .boolean), { frames := 1, cells := 0, slots := 0, locals := 20 })
theorem ok_1_takesOpening : gj_ok Y1_takesOpening 0 := ⟨by decide +kernel, (gj_at 381 (by decide +kernel) rfl), (gj_at 56 (by decide +kernel) rfl), by decide +kernel⟩
def Y1_takesHold : gj_Y := (yX1_takesHold, cX1_takesHold, 2, (some .boolean), { frames := 2, cells := 0, slots := 0, locals := 45 })
theorem ok_1_takesHold : gj_ok Y1_takesHold 1 := ⟨by decide +kernel, (gj_at 389 (by decide +kernel) rfl), (gj_at 56 (by decide +kernel) rfl), by decide +kernel⟩
def Y1_takesTimes : gj_Y := (yX1_takesTimes, cX1_takesTimes, 2, (some .boolean), { frames := 2, cells := 0, slots := 0, locals := 48 })
theorem ok_1_takesTimes : gj_ok Y1_takesTimes 1 := ⟨by decide +kernel, (gj_at 401 (by decide +kernel) rfl), (gj_at 56 (by decide +kernel) rfl), by decide +kernel⟩
def Y2_init : gj_Y := (yX2_init, cX2_init, 1, none, { frames := 1, cells := 4, slots := 208, locals := 20 })
theorem ok_2_init : gj_ok Y2_init 0 := ⟨by decide +kernel, (gj_at 84 (by decide +kernel) rfl), (gj_at 57 (by decide +kernel) rfl), by decide +kernel⟩
def Y2_clear : gj_Y := (yX2_clear, cX2_clear, 1, none, { frames := 0, cells := 0, slots := 0, locals := 0 })
theorem ok_2_clear : gj_ok Y2_clear 0 := ⟨by decide +kernel, (gj_at 345 (by decide +kernel) rfl), (gj_at 57 (by decide +kernel) rfl), by decide +kernel⟩
def Y2_addDrawing : gj_Y := (yX2_addDrawing, cX2_addDrawing, 3, none, { frames := 0, cells := 0, slots := 0, locals := 0 })
theorem ok_2_addDrawing : gj_ok Y2_addDrawing 2 := ⟨by decide +kernel, (gj_at 369 (by decide +kernel) rfl), (gj_at 57 (by decide +kernel) rfl), by decide +kernel⟩
def Y2_addLevel : gj_Y := (yX2_addLevel, cX2_addLevel, 1, none, { frames := 0, cells := 0, slots := 0, locals := 0 })
theorem ok_2_addLevel : gj_ok Y2_addLevel 0 := ⟨by decide +kernel, (gj_at 361 (by decide +kernel) rfl), (gj_at 57 (by decide +kernel) rfl), by decide +kernel⟩
def Y2_lastLong : gj_Y := (yX2_lastLong, cX2_lastLong, 1, (some .int), { frames := 0, cells := 0, slots := 0, locals := 0 })
theorem ok_2_lastLong : gj_ok Y2_lastLong 0 := ⟨by decide +kernel, (gj_at 385 (by decide +kernel) rfl), (gj_at 57 (by decide +kernel) rfl), by decide +kernel⟩
def Y2_hold : gj_Y := (yX2_hold, cX2_hold, 4, none, { frames := 1, cells := 0, slots := 0, locals := 22 })
theorem ok_2_hold : gj_ok Y2_hold 2 := ⟨by decide +kernel, (gj_at 393 (by decide +kernel) rfl), (gj_at 57 (by decide +kernel) rfl), by decide +kernel⟩
def Y2_repeatFrom : gj_Y := (yX2_repeatFrom, cX2_repeatFrom, 7, none, { frames := 1, cells := 0, slots := 0, locals := 22 })
theorem ok_2_repeatFrom : gj_ok Y2_repeatFrom 2 := ⟨by decide +kernel, (gj_at 405 (by decide +kernel) rfl), (gj_at 57 (by decide +kernel) rfl), by decide +kernel⟩
def Y2_append : gj_Y := (yX2_append, cX2_append, 3, none, { frames := 0, cells := 0, slots := 0, locals := 0 })
theorem ok_2_append : gj_ok Y2_append 1 := ⟨by decide +kernel, (gj_at 397 (by decide +kernel) rfl), (gj_at 57 (by decide +kernel) rfl), by decide +kernel⟩
def Y2_copyFrom : gj_Y := (yX2_copyFrom, cX2_copyFrom, 2, none, { frames := 1, cells := 0, slots := 0, locals := 26 })
theorem ok_2_copyFrom : gj_ok Y2_copyFrom 1 := ⟨by decide +kernel, (gj_at 414 (by decide +kernel) rfl), (gj_at 57 (by decide +kernel) rfl), by decide +kernel⟩
def Y3_init : gj_Y := (yX3_init, cX3_init, 1, none, { frames := 2, cells := 25, slots := 2940, locals := 41 })
theorem ok_3_init : gj_ok Y3_init 0 := ⟨by decide +kernel, (gj_at 143 (by decide +kernel) rfl), (gj_at 58 (by decide +kernel) rfl), by decide +kernel⟩
def Y3_forgetShorts : gj_Y := (yX3_forgetShorts, cX3_forgetShorts, 2, none, { frames := 0, cells := 0, slots := 0, locals := 0 })
theorem ok_3_forgetShorts : gj_ok Y3_forgetShorts 0 := ⟨by decide +kernel, (gj_at 430 (by decide +kernel) rfl), (gj_at 58 (by decide +kernel) rfl), by decide +kernel⟩
def Y3_drawingOn : gj_Y := (yX3_drawingOn, cX3_drawingOn, 4, (some .int), { frames := 0, cells := 0, slots := 0, locals := 0 })
theorem ok_3_drawingOn : gj_ok Y3_drawingOn 2 := ⟨by decide +kernel, (gj_at 457 (by decide +kernel) rfl), (gj_at 58 (by decide +kernel) rfl), by decide +kernel⟩
def Y3_isOrder : gj_Y := (yX3_isOrder, cX3_isOrder, 4, (some .boolean), { frames := 1, cells := 0, slots := 0, locals := 23 })
theorem ok_3_isOrder : gj_ok Y3_isOrder 1 := ⟨by decide +kernel, (gj_at 560 (by decide +kernel) rfl), (gj_at 58 (by decide +kernel) rfl), by decide +kernel⟩
def Y3_levelInOrder : gj_Y := (yX3_levelInOrder, cX3_levelInOrder, 4, (some .int), { frames := 0, cells := 0, slots := 0, locals := 0 })
theorem ok_3_levelInOrder : gj_ok Y3_levelInOrder 2 := ⟨by decide +kernel, (gj_at 566 (by decide +kernel) rfl), (gj_at 58 (by decide +kernel) rfl), by decide +kernel⟩
def Y3_orderAt : gj_Y := (yX3_orderAt, cX3_orderAt, 5, (some .int), { frames := 1, cells := 0, slots := 0, locals := 24 })
theorem ok_3_orderAt : gj_ok Y3_orderAt 1 := ⟨by decide +kernel, (gj_at 602 (by decide +kernel) rfl), (gj_at 58 (by decide +kernel) rfl), by decide +kernel⟩
def Y3_covers : gj_Y := (yX3_covers, cX3_covers, 7, (some .boolean), { frames := 1, cells := 0, slots := 0, locals := 23 })
theorem ok_3_covers : gj_ok Y3_covers 4 := ⟨by decide +kernel, (gj_at 622 (by decide +kernel) rfl), (gj_at 58 (by decide +kernel) rfl), by decide +kernel⟩
def Y3_levelCovers : gj_Y := (yX3_levelCovers, cX3_levelCovers, 4, (some .boolean), { frames := 2, cells := 0, slots := 0, locals := 49 })
theorem ok_3_levelCovers : gj_ok Y3_levelCovers 3 := ⟨by decide +kernel, (gj_at 700 (by decide +kernel) rfl), (gj_at 58 (by decide +kernel) rfl), by decide +kernel⟩
def Y3_seenAt : gj_Y := (yX3_seenAt, cX3_seenAt, 8, (some .int), { frames := 2, cells := 0, slots := 0, locals := 49 })
theorem ok_3_seenAt : gj_ok Y3_seenAt 3 := ⟨by decide +kernel, (gj_at 617 (by decide +kernel) rfl), (gj_at 58 (by decide +kernel) rfl), by decide +kernel⟩
def Y3_levelsCovering : gj_Y := (yX3_levelsCovering, cX3_levelsCovering, 5, (some .int), { frames := 3, cells := 0, slots := 0, locals := 72 })
theorem ok_3_levelsCovering : gj_ok Y3_levelsCovering 2 := ⟨by decide +kernel, (gj_at 704 (by decide +kernel) rfl), (gj_at 58 (by decide +kernel) rfl), by decide +kernel⟩
def Y3_changes : gj_Y := (yX3_changes, cX3_changes, 3, (some .int), { frames := 4, cells := 0, slots := 0, locals := 100 })
theorem ok_3_changes : gj_ok Y3_changes 0 := ⟨by decide +kernel, (gj_at 631 (by decide +kernel) rfl), (gj_at 58 (by decide +kernel) rfl), by decide +kernel⟩
def Y3_viewBecomes : gj_Y := (yX3_viewBecomes, cX3_viewBecomes, 5, (some .boolean), { frames := 3, cells := 0, slots := 0, locals := 76 })
theorem ok_3_viewBecomes : gj_ok Y3_viewBecomes 1 := ⟨by decide +kernel, (gj_at 635 (by decide +kernel) rfl), (gj_at 58 (by decide +kernel) rfl), by decide +kernel⟩
def Y3_cels : gj_Y := (yX3_cels, cX3_cels, 3, (some .int), { frames := 3, cells := 0, slots := 0, locals := 64 })
theorem ok_3_cels : gj_ok Y3_cels 0 := ⟨by decide +kernel, (gj_at 512 (by decide +kernel) rfl), (gj_at 58 (by decide +kernel) rfl), by decide +kernel⟩
def Y3_mostLevelsOf : gj_Y := (yX3_mostLevelsOf, cX3_mostLevelsOf, 2, (some .int), { frames := 3, cells := 0, slots := 0, locals := 64 })
theorem ok_3_mostLevelsOf : gj_ok Y3_mostLevelsOf 1 := ⟨by decide +kernel, (gj_at 446 (by decide +kernel) rfl), (gj_at 58 (by decide +kernel) rfl), by decide +kernel⟩
def Y3_findMost : gj_Y := (yX3_findMost, cX3_findMost, 3, none, { frames := 2, cells := 0, slots := 0, locals := 42 })
theorem ok_3_findMost : gj_ok Y3_findMost 0 := ⟨by decide +kernel, (gj_at 450 (by decide +kernel) rfl), (gj_at 58 (by decide +kernel) rfl), by decide +kernel⟩
def Y3_countDrawing : gj_Y := (yX3_countDrawing, cX3_countDrawing, 2, none, { frames := 1, cells := 0, slots := 0, locals := 21 })
theorem ok_3_countDrawing : gj_ok Y3_countDrawing 1 := ⟨by decide +kernel, (gj_at 461 (by decide +kernel) rfl), (gj_at 58 (by decide +kernel) rfl), by decide +kernel⟩
def Y3_clearDrawings : gj_Y := (yX3_clearDrawings, cX3_clearDrawings, 2, none, { frames := 0, cells := 0, slots := 0, locals := 0 })
theorem ok_3_clearDrawings : gj_ok Y3_clearDrawings 1 := ⟨by decide +kernel, (gj_at 453 (by decide +kernel) rfl), (gj_at 58 (by decide +kernel) rfl), by decide +kernel⟩
def Y3_shortOf : gj_Y := (yX3_shortOf, cX3_shortOf, 2, (some .int), { frames := 3, cells := 0, slots := 0, locals := 70 })
theorem ok_3_shortOf : gj_ok Y3_shortOf 1 := ⟨by decide +kernel, (gj_at 476 (by decide +kernel) rfl), (gj_at 58 (by decide +kernel) rfl), by decide +kernel⟩
def Y3_bestOf : gj_Y := (yX3_bestOf, cX3_bestOf, 7, (some .int), { frames := 4, cells := 0, slots := 0, locals := 86 })
theorem ok_3_bestOf : gj_ok Y3_bestOf 1 := ⟨by decide +kernel, (gj_at 508 (by decide +kernel) rfl), (gj_at 58 (by decide +kernel) rfl), by decide +kernel⟩
def Y3_shareInTwelfths : gj_Y := (yX3_shareInTwelfths, cX3_shareInTwelfths, 6, (some .int), { frames := 4, cells := 0, slots := 0, locals := 96 })
theorem ok_3_shareInTwelfths : gj_ok Y3_shareInTwelfths 1 := ⟨by decide +kernel, (gj_at 696 (by decide +kernel) rfl), (gj_at 58 (by decide +kernel) rfl), by decide +kernel⟩
def Y4_init : gj_Y := (yX4_init, cX4_init, 2, none, { frames := 1, cells := 8, slots := 39, locals := 20 })
theorem ok_4_init : gj_ok Y4_init 0 := ⟨by decide +kernel, (gj_at 151 (by decide +kernel) rfl), (gj_at 59 (by decide +kernel) rfl), by decide +kernel⟩
def Y4_beginWith : gj_Y := (yX4_beginWith, cX4_beginWith, 3, none, { frames := 1, cells := 0, slots := 0, locals := 26 })
theorem ok_4_beginWith : gj_ok Y4_beginWith 1 := ⟨by decide +kernel, (gj_at 421 (by decide +kernel) rfl), (gj_at 59 (by decide +kernel) rfl), by decide +kernel⟩
def Y4_copyFrom : gj_Y := (yX4_copyFrom, cX4_copyFrom, 2, none, { frames := 1, cells := 0, slots := 0, locals := 26 })
theorem ok_4_copyFrom : gj_ok Y4_copyFrom 1 := ⟨by decide +kernel, (gj_at 646 (by decide +kernel) rfl), (gj_at 59 (by decide +kernel) rfl), by decide +kernel⟩
def Y4_tellPan : gj_Y := (yX4_tellPan, cX4_tellPan, 5, none, { frames := 0, cells := 0, slots := 0, locals := 0 })
theorem ok_4_tellPan : gj_ok Y4_tellPan 4 := ⟨by decide +kernel, (gj_at 426 (by decide +kernel) rfl), (gj_at 59 (by decide +kernel) rfl), by decide +kernel⟩
def Y4_panAt : gj_Y := (yX4_panAt, cX4_panAt, 4, (some .int), { frames := 0, cells := 0, slots := 0, locals := 0 })
theorem ok_4_panAt : gj_ok Y4_panAt 2 := ⟨by decide +kernel, (gj_at 530 (by decide +kernel) rfl), (gj_at 59 (by decide +kernel) rfl), by decide +kernel⟩
def Y4_addSwitch : gj_Y := (yX4_addSwitch, cX4_addSwitch, 3, none, { frames := 0, cells := 0, slots := 0, locals := 0 })
theorem ok_4_addSwitch : gj_ok Y4_addSwitch 2 := ⟨by decide +kernel, (gj_at 570 (by decide +kernel) rfl), (gj_at 59 (by decide +kernel) rfl), by decide +kernel⟩
def Y4_dropSwitch : gj_Y := (yX4_dropSwitch, cX4_dropSwitch, 1, (some .boolean), { frames := 0, cells := 0, slots := 0, locals := 0 })
theorem ok_4_dropSwitch : gj_ok Y4_dropSwitch 0 := ⟨by decide +kernel, (gj_at 578 (by decide +kernel) rfl), (gj_at 59 (by decide +kernel) rfl), by decide +kernel⟩
def Y4_switchFor : gj_Y := (yX4_switchFor, cX4_switchFor, 5, (some .int), { frames := 0, cells := 0, slots := 0, locals := 0 })
theorem ok_4_switchFor : gj_ok Y4_switchFor 1 := ⟨by decide +kernel, (gj_at 606 (by decide +kernel) rfl), (gj_at 59 (by decide +kernel) rfl), by decide +kernel⟩
def Y5_init : gj_Y := (yX5_init, cX5_init, 1, none, { frames := 1, cells := 6, slots := 2645, locals := 20 })
theorem ok_5_init : gj_ok Y5_init 0 := ⟨by decide +kernel, (gj_at 201 (by decide +kernel) rfl), (gj_at 60 (by decide +kernel) rfl), by decide +kernel⟩
def Y5_lettersFor : gj_Y := (yX5_lettersFor, cX5_lettersFor, 4, (some .int), { frames := 2, cells := 0, slots := 0, locals := 47 })
theorem ok_5_lettersFor : gj_ok Y5_lettersFor 2 := ⟨by decide +kernel, (gj_at 480 (by decide +kernel) rfl), (gj_at 60 (by decide +kernel) rfl), by decide +kernel⟩
def Y5_findLike : gj_Y := (yX5_findLike, cX5_findLike, 3, none, { frames := 0, cells := 0, slots := 0, locals := 0 })
theorem ok_5_findLike : gj_ok Y5_findLike 1 := ⟨by decide +kernel, (gj_at 488 (by decide +kernel) rfl), (gj_at 60 (by decide +kernel) rfl), by decide +kernel⟩
def Y5_findPlain : gj_Y := (yX5_findPlain, cX5_findPlain, 6, none, { frames := 0, cells := 0, slots := 0, locals := 0 })
theorem ok_5_findPlain : gj_ok Y5_findPlain 1 := ⟨by decide +kernel, (gj_at 492 (by decide +kernel) rfl), (gj_at 60 (by decide +kernel) rfl), by decide +kernel⟩
def Y5_findItems : gj_Y := (yX5_findItems, cX5_findItems, 7, none, { frames := 1, cells := 0, slots := 0, locals := 21 })
theorem ok_5_findItems : gj_ok Y5_findItems 3 := ⟨by decide +kernel, (gj_at 496 (by decide +kernel) rfl), (gj_at 60 (by decide +kernel) rfl), by decide +kernel⟩
def Y5_findOnce : gj_Y := (yX5_findOnce, cX5_findOnce, 7, none, { frames := 1, cells := 0, slots := 0, locals := 21 })
theorem ok_5_findOnce : gj_ok Y5_findOnce 1 := ⟨by decide +kernel, (gj_at 500 (by decide +kernel) rfl), (gj_at 60 (by decide +kernel) rfl), by decide +kernel⟩
def Y5_findTwice : gj_Y := (yX5_findTwice, cX5_findTwice, 3, none, { frames := 1, cells := 0, slots := 0, locals := 21 })
theorem ok_5_findTwice : gj_ok Y5_findTwice 1 := ⟨by decide +kernel, (gj_at 504 (by decide +kernel) rfl), (gj_at 60 (by decide +kernel) rfl), by decide +kernel⟩
def Y6_init : gj_Y := (yX6_init, cX6_init, 1, none, { frames := 1, cells := 3, slots := 18, locals := 20 })
theorem ok_6_init : gj_ok Y6_init 0 := ⟨by decide +kernel, (gj_at 267 (by decide +kernel) rfl), (gj_at 62 (by decide +kernel) rfl), by decide +kernel⟩
def Y6_clear : gj_Y := (yX6_clear, cX6_clear, 1, none, { frames := 0, cells := 0, slots := 0, locals := 0 })
theorem ok_6_clear : gj_ok Y6_clear 0 := ⟨by decide +kernel, (gj_at 679 (by decide +kernel) rfl), (gj_at 62 (by decide +kernel) rfl), by decide +kernel⟩
def Y6_add : gj_Y := (yX6_add, cX6_add, 4, none, { frames := 0, cells := 0, slots := 0, locals := 0 })
theorem ok_6_add : gj_ok Y6_add 3 := ⟨by decide +kernel, (gj_at 671 (by decide +kernel) rfl), (gj_at 62 (by decide +kernel) rfl), by decide +kernel⟩
def Y6_allSoWithout : gj_Y := (yX6_allSoWithout, cX6_allSoWithout, 4, (some .boolean), { frames := 3, cells := 0, slots := 0, locals := 76 })
theorem ok_6_allSoWithout : gj_ok Y6_allSoWithout 2 := ⟨by decide +kernel, (gj_at 687 (by decide +kernel) rfl), (gj_at 62 (by decide +kernel) rfl), by decide +kernel⟩
def Y7_init : gj_Y := (yX7_init, cX7_init, 1, none, { frames := 3, cells := 68, slots := 3489, locals := 61 })
theorem ok_7_init : gj_ok Y7_init 0 := ⟨by decide +kernel, (gj_at 70 (by decide +kernel) rfl), (gj_at 55 (by decide +kernel) rfl), by decide +kernel⟩
def Y7_write : gj_Y := (yX7_write, cX7_write, 2, (some .int), { frames := 0, cells := 0, slots := 0, locals := 0 })
theorem ok_7_write : gj_ok Y7_write 1 := ⟨by decide +kernel, (gj_at 329 (by decide +kernel) rfl), (gj_at 55 (by decide +kernel) rfl), by decide +kernel⟩
def Y7_wipe : gj_Y := (yX7_wipe, cX7_wipe, 2, (some .int), { frames := 0, cells := 0, slots := 0, locals := 0 })
theorem ok_7_wipe : gj_ok Y7_wipe 0 := ⟨by decide +kernel, (gj_at 333 (by decide +kernel) rfl), (gj_at 55 (by decide +kernel) rfl), by decide +kernel⟩
def Y7_fault : gj_Y := (yX7_fault, cX7_fault, 1, (some .int), { frames := 6, cells := 0, slots := 0, locals := 127 })
theorem ok_7_fault : gj_ok Y7_fault 0 := ⟨by decide +kernel, (gj_at 337 (by decide +kernel) rfl), (gj_at 55 (by decide +kernel) rfl), by decide +kernel⟩
def Y7_reel : gj_Y := (yX7_reel, cX7_reel, 2, (some .int), { frames := 6, cells := 0, slots := 0, locals := 127 })
theorem ok_7_reel : gj_ok Y7_reel 0 := ⟨by decide +kernel, (gj_at 410 (by decide +kernel) rfl), (gj_at 55 (by decide +kernel) rfl), by decide +kernel⟩
def Y7_drawing : gj_Y := (yX7_drawing, cX7_drawing, 3, (some .int), { frames := 4, cells := 0, slots := 0, locals := 85 })
theorem ok_7_drawing : gj_ok Y7_drawing 2 := ⟨by decide +kernel, (gj_at 438 (by decide +kernel) rfl), (gj_at 55 (by decide +kernel) rfl), by decide +kernel⟩
def Y7_level : gj_Y := (yX7_level, cX7_level, 3, (some .int), { frames := 5, cells := 0, slots := 0, locals := 112 })
theorem ok_7_level : gj_ok Y7_level 2 := ⟨by decide +kernel, (gj_at 468 (by decide +kernel) rfl), (gj_at 55 (by decide +kernel) rfl), by decide +kernel⟩
def Y7_where : gj_Y := (yX7_where, cX7_where, 3, (some .int), { frames := 2, cells := 0, slots := 0, locals := 42 })
theorem ok_7_where : gj_ok Y7_where 2 := ⟨by decide +kernel, (gj_at 516 (by decide +kernel) rfl), (gj_at 55 (by decide +kernel) rfl), by decide +kernel⟩
def Y7_redraw : gj_Y := (yX7_redraw, cX7_redraw, 6, (some .int), { frames := 3, cells := 0, slots := 0, locals := 72 })
theorem ok_7_redraw : gj_ok Y7_redraw 3 := ⟨by decide +kernel, (gj_at 534 (by decide +kernel) rfl), (gj_at 55 (by decide +kernel) rfl), by decide +kernel⟩
def Y7_delay : gj_Y := (yX7_delay, cX7_delay, 4, (some .int), { frames := 3, cells := 0, slots := 0, locals := 72 })
theorem ok_7_delay : gj_ok Y7_delay 2 := ⟨by decide +kernel, (gj_at 547 (by decide +kernel) rfl), (gj_at 55 (by decide +kernel) rfl), by decide +kernel⟩
def Y7_pan : gj_Y := (yX7_pan, cX7_pan, 6, (some .int), { frames := 3, cells := 0, slots := 0, locals := 72 })
theorem ok_7_pan : gj_ok Y7_pan 4 := ⟨by decide +kernel, (gj_at 551 (by decide +kernel) rfl), (gj_at 55 (by decide +kernel) rfl), by decide +kernel⟩
def Y7_swap : gj_Y := (yX7_swap, cX7_swap, 3, (some .int), { frames := 3, cells := 0, slots := 0, locals := 72 })
theorem ok_7_swap : gj_ok Y7_swap 2 := ⟨by decide +kernel, (gj_at 556 (by decide +kernel) rfl), (gj_at 55 (by decide +kernel) rfl), by decide +kernel⟩
def Y7_back : gj_Y := (yX7_back, cX7_back, 2, (some .int), { frames := 3, cells := 0, slots := 0, locals := 72 })
theorem ok_7_back : gj_ok Y7_back 0 := ⟨by decide +kernel, (gj_at 574 (by decide +kernel) rfl), (gj_at 55 (by decide +kernel) rfl), by decide +kernel⟩
def Y7_undo : gj_Y := (yX7_undo, cX7_undo, 1, (some .int), { frames := 2, cells := 0, slots := 0, locals := 47 })
theorem ok_7_undo : gj_ok Y7_undo 0 := ⟨by decide +kernel, (gj_at 582 (by decide +kernel) rfl), (gj_at 55 (by decide +kernel) rfl), by decide +kernel⟩
def Y7_exposed : gj_Y := (yX7_exposed, cX7_exposed, 3, (some .int), { frames := 1, cells := 0, slots := 0, locals := 23 })
theorem ok_7_exposed : gj_ok Y7_exposed 2 := ⟨by decide +kernel, (gj_at 593 (by decide +kernel) rfl), (gj_at 55 (by decide +kernel) rfl), by decide +kernel⟩
def Y7_order : gj_Y := (yX7_order, cX7_order, 2, (some .int), { frames := 2, cells := 0, slots := 0, locals := 48 })
theorem ok_7_order : gj_ok Y7_order 1 := ⟨by decide +kernel, (gj_at 598 (by decide +kernel) rfl), (gj_at 55 (by decide +kernel) rfl), by decide +kernel⟩
def Y7_look : gj_Y := (yX7_look, cX7_look, 3, (some .int), { frames := 3, cells := 0, slots := 0, locals := 76 })
theorem ok_7_look : gj_ok Y7_look 2 := ⟨by decide +kernel, (gj_at 610 (by decide +kernel) rfl), (gj_at 55 (by decide +kernel) rfl), by decide +kernel⟩
def Y7_ask : gj_Y := (yX7_ask, cX7_ask, 2, (some .int), { frames := 5, cells := 0, slots := 0, locals := 122 })
theorem ok_7_ask : gj_ok Y7_ask 1 := ⟨by decide +kernel, (gj_at 627 (by decide +kernel) rfl), (gj_at 55 (by decide +kernel) rfl), by decide +kernel⟩
def Y7_judge : gj_Y := (yX7_judge, cX7_judge, 7, (some .int), { frames := 6, cells := 0, slots := 0, locals := 137 })
theorem ok_7_judge : gj_ok Y7_judge 2 := ⟨by decide +kernel, (gj_at 641 (by decide +kernel) rfl), (gj_at 55 (by decide +kernel) rfl), by decide +kernel⟩
def Y7_see : gj_Y := (yX7_see, cX7_see, 4, (some .int), { frames := 1, cells := 0, slots := 0, locals := 23 })
theorem ok_7_see : gj_ok Y7_see 3 := ⟨by decide +kernel, (gj_at 667 (by decide +kernel) rfl), (gj_at 55 (by decide +kernel) rfl), by decide +kernel⟩
def Y7_unsee : gj_Y := (yX7_unsee, cX7_unsee, 2, (some .int), { frames := 1, cells := 0, slots := 0, locals := 20 })
theorem ok_7_unsee : gj_ok Y7_unsee 0 := ⟨by decide +kernel, (gj_at 675 (by decide +kernel) rfl), (gj_at 55 (by decide +kernel) rfl), by decide +kernel⟩
def Y7_which : gj_Y := (yX7_which, cX7_which, 3, (some .int), { frames := 4, cells := 0, slots := 0, locals := 99 })
theorem ok_7_which : gj_ok Y7_which 0 := ⟨by decide +kernel, (gj_at 683 (by decide +kernel) rfl), (gj_at 55 (by decide +kernel) rfl), by decide +kernel⟩
def Y7_share : gj_Y := (yX7_share, cX7_share, 3, (some .int), { frames := 5, cells := 0, slots := 0, locals := 121 })
theorem ok_7_share : gj_ok Y7_share 2 := ⟨by decide +kernel, (gj_at 692 (by decide +kernel) rfl), (gj_at 55 (by decide +kernel) rfl), by decide +kernel⟩
def Y7_lost : gj_Y := (yX7_lost, cX7_lost, 9, (some .int), { frames := 4, cells := 0, slots := 0, locals := 96 })
theorem ok_7_lost : gj_ok Y7_lost 4 := ⟨by decide +kernel, (gj_at 714 (by decide +kernel) rfl), (gj_at 55 (by decide +kernel) rfl), by decide +kernel⟩
def Y7_seed : gj_Y := (yX7_seed, cX7_seed, 5, (some .long), { frames := 0, cells := 0, slots := 0, locals := 0 })
theorem ok_7_seed : gj_ok Y7_seed 1 := ⟨by decide +kernel, (gj_at 719 (by decide +kernel) rfl), (gj_at 55 (by decide +kernel) rfl), by decide +kernel⟩
def Y7_looks : gj_Y := (yX7_looks, cX7_looks, 5, (some .int), { frames := 3, cells := 0, slots := 0, locals := 76 })
theorem ok_7_looks : gj_ok Y7_looks 1 := ⟨by decide +kernel, (gj_at 723 (by decide +kernel) rfl), (gj_at 55 (by decide +kernel) rfl), by decide +kernel⟩
def Y7_keep : gj_Y := (yX7_keep, cX7_keep, 2, (some .int), { frames := 2, cells := 0, slots := 0, locals := 47 })
theorem ok_7_keep : gj_ok Y7_keep 1 := ⟨by decide +kernel, (gj_at 729 (by decide +kernel) rfl), (gj_at 55 (by decide +kernel) rfl), by decide +kernel⟩
def Y7_again : gj_Y := (yX7_again, cX7_again, 2, (some .int), { frames := 2, cells := 0, slots := 0, locals := 47 })
theorem ok_7_again : gj_ok Y7_again 1 := ⟨by decide +kernel, (gj_at 737 (by decide +kernel) rfl), (gj_at 55 (by decide +kernel) rfl), by decide +kernel⟩
def Y7_count : gj_Y := (yX7_count, cX7_count, 2, (some .int), { frames := 0, cells := 0, slots := 0, locals := 0 })
theorem ok_7_count : gj_ok Y7_count 1 := ⟨by decide +kernel, (gj_at 741 (by decide +kernel) rfl), (gj_at 55 (by decide +kernel) rfl), by decide +kernel⟩
def Y7_isDrawing : gj_Y := (yX7_isDrawing, cX7_isDrawing, 2, (some .boolean), { frames := 0, cells := 0, slots := 0, locals := 0 })
theorem ok_7_isDrawing : gj_ok Y7_isDrawing 1 := ⟨by decide +kernel, (gj_at 442 (by decide +kernel) rfl), (gj_at 55 (by decide +kernel) rfl), by decide +kernel⟩
def Y7_isLevel : gj_Y := (yX7_isLevel, cX7_isLevel, 2, (some .boolean), { frames := 0, cells := 0, slots := 0, locals := 0 })
theorem ok_7_isLevel : gj_ok Y7_isLevel 1 := ⟨by decide +kernel, (gj_at 472 (by decide +kernel) rfl), (gj_at 55 (by decide +kernel) rfl), by decide +kernel⟩
def Y7_hasPan : gj_Y := (yX7_hasPan, cX7_hasPan, 2, (some .boolean), { frames := 1, cells := 0, slots := 0, locals := 21 })
theorem ok_7_hasPan : gj_ok Y7_hasPan 1 := ⟨by decide +kernel, (gj_at 520 (by decide +kernel) rfl), (gj_at 55 (by decide +kernel) rfl), by decide +kernel⟩
def Y7_panOf : gj_Y := (yX7_panOf, cX7_panOf, 1, (some .int), { frames := 0, cells := 0, slots := 0, locals := 0 })
theorem ok_7_panOf : gj_ok Y7_panOf 1 := ⟨by decide +kernel, (gj_at 526 (by decide +kernel) rfl), (gj_at 55 (by decide +kernel) rfl), by decide +kernel⟩
def Y7_isFrame : gj_Y := (yX7_isFrame, cX7_isFrame, 1, (some .boolean), { frames := 0, cells := 0, slots := 0, locals := 0 })
theorem ok_7_isFrame : gj_ok Y7_isFrame 1 := ⟨by decide +kernel, (gj_at 523 (by decide +kernel) rfl), (gj_at 55 (by decide +kernel) rfl), by decide +kernel⟩
def Y7_isWindow : gj_Y := (yX7_isWindow, cX7_isWindow, 1, (some .boolean), { frames := 0, cells := 0, slots := 0, locals := 0 })
theorem ok_7_isWindow : gj_ok Y7_isWindow 1 := ⟨by decide +kernel, (gj_at 613 (by decide +kernel) rfl), (gj_at 55 (by decide +kernel) rfl), by decide +kernel⟩
def Y7_keptIn : gj_Y := (yX7_keptIn, cX7_keptIn, 2, (some (.object "CelSheets$Setting")), { frames := 0, cells := 0, slots := 0, locals := 0 })
theorem ok_7_keptIn : gj_ok Y7_keptIn 1 := ⟨by decide +kernel, (gj_at 733 (by decide +kernel) rfl), (gj_at 55 (by decide +kernel) rfl), by decide +kernel⟩
def Y7_firstThatCanNotBe : gj_Y := (yX7_firstThatCanNotBe, cX7_firstThatCanNotBe, 7, (some .int), { frames := 5, cells := 0, slots := 0, locals := 111 })
theorem ok_7_firstThatCanNotBe : gj_ok Y7_firstThatCanNotBe 2 := ⟨by decide +kernel, (gj_at 650 (by decide +kernel) rfl), (gj_at 55 (by decide +kernel) rfl), by decide +kernel⟩
def Y7_comesTrue : gj_Y := (yX7_comesTrue, cX7_comesTrue, 6, (some .boolean), { frames := 4, cells := 0, slots := 0, locals := 86 })
theorem ok_7_comesTrue : gj_ok Y7_comesTrue 1 := ⟨by decide +kernel, (gj_at 654 (by decide +kernel) rfl), (gj_at 55 (by decide +kernel) rfl), by decide +kernel⟩
def Y7_delayForNow : gj_Y := (yX7_delayForNow, cX7_delayForNow, 3, (some .boolean), { frames := 1, cells := 0, slots := 0, locals := 21 })
theorem ok_7_delayForNow : gj_ok Y7_delayForNow 2 := ⟨by decide +kernel, (gj_at 658 (by decide +kernel) rfl), (gj_at 55 (by decide +kernel) rfl), by decide +kernel⟩
def Y7_redrawForNow : gj_Y := (yX7_redrawForNow, cX7_redrawForNow, 4, (some .boolean), { frames := 1, cells := 0, slots := 0, locals := 21 })
theorem ok_7_redrawForNow : gj_ok Y7_redrawForNow 3 := ⟨by decide +kernel, (gj_at 662 (by decide +kernel) rfl), (gj_at 55 (by decide +kernel) rfl), by decide +kernel⟩
def Y7_fractionPart : gj_Y := (yX7_fractionPart, cX7_fractionPart, 5, (some .int), { frames := 1, cells := 0, slots := 0, locals := 25 })
theorem ok_7_fractionPart : gj_ok Y7_fractionPart 3 := ⟨by decide +kernel, (gj_at 707 (by decide +kernel) rfl), (gj_at 55 (by decide +kernel) rfl), by decide +kernel⟩
def Y7_commonDivisor : gj_Y := (yX7_commonDivisor, cX7_commonDivisor, 6, (some .int), { frames := 0, cells := 0, slots := 0, locals := 0 })
theorem ok_7_commonDivisor : gj_ok Y7_commonDivisor 2 := ⟨by decide +kernel, (gj_at 710 (by decide +kernel) rfl), (gj_at 55 (by decide +kernel) rfl), by decide +kernel⟩
def Y8_init : gj_Y := (yX8_init, cX8_init, 1, none, { frames := 1, cells := 18, slots := 10862, locals := 21 })
theorem ok_8_init : gj_ok Y8_init 0 := ⟨by decide +kernel, (gj_at 746 (by decide +kernel) rfl), (gj_at 63 (by decide +kernel) rfl), by decide +kernel⟩
def Y8_in : gj_Y := (yX8_in, cX8_in, 6, (some .boolean), { frames := 0, cells := 0, slots := 0, locals := 0 })
theorem ok_8_in : gj_ok Y8_in 3 := ⟨by decide +kernel, (gj_at 843 (by decide +kernel) rfl), (gj_at 63 (by decide +kernel) rfl), by decide +kernel⟩
def Y8_has : gj_Y := (yX8_has, cX8_has, 2, (some .boolean), { frames := 0, cells := 0, slots := 0, locals := 0 })
theorem ok_8_has : gj_ok Y8_has 2 := ⟨by decide +kernel, (gj_at 1009 (by decide +kernel) rfl), (gj_at 63 (by decide +kernel) rfl), by decide +kernel⟩
def Y8_ones : gj_Y := (yX8_ones, cX8_ones, 3, (some .int), { frames := 0, cells := 0, slots := 0, locals := 0 })
theorem ok_8_ones : gj_ok Y8_ones 1 := ⟨by decide +kernel, (gj_at 1050 (by decide +kernel) rfl), (gj_at 63 (by decide +kernel) rfl), by decide +kernel⟩
def Y8_power : gj_Y := (yX8_power, cX8_power, 4, (some .int), { frames := 0, cells := 0, slots := 0, locals := 0 })
theorem ok_8_power : gj_ok Y8_power 2 := ⟨by decide +kernel, (gj_at 970 (by decide +kernel) rfl), (gj_at 63 (by decide +kernel) rfl), by decide +kernel⟩
def Y8_fresh : gj_Y := (yX8_fresh, cX8_fresh, 2, none, { frames := 0, cells := 0, slots := 0, locals := 0 })
theorem ok_8_fresh : gj_ok Y8_fresh 1 := ⟨by decide +kernel, (gj_at 750 (by decide +kernel) rfl), (gj_at 63 (by decide +kernel) rfl), by decide +kernel⟩
def Y8_layTrial : gj_Y := (yX8_layTrial, cX8_layTrial, 2, none, { frames := 0, cells := 0, slots := 0, locals := 0 })
theorem ok_8_layTrial : gj_ok Y8_layTrial 0 := ⟨by decide +kernel, (gj_at 923 (by decide +kernel) rfl), (gj_at 63 (by decide +kernel) rfl), by decide +kernel⟩
def Y8_noLevel : gj_Y := (yX8_noLevel, cX8_noLevel, 2, (some .boolean), { frames := 1, cells := 0, slots := 0, locals := 25 })
theorem ok_8_noLevel : gj_ok Y8_noLevel 1 := ⟨by decide +kernel, (gj_at 903 (by decide +kernel) rfl), (gj_at 63 (by decide +kernel) rfl), by decide +kernel⟩
def Y8_noDrawing : gj_Y := (yX8_noDrawing, cX8_noDrawing, 2, (some .boolean), { frames := 1, cells := 0, slots := 0, locals := 25 })
theorem ok_8_noDrawing : gj_ok Y8_noDrawing 1 := ⟨by decide +kernel, (gj_at 887 (by decide +kernel) rfl), (gj_at 63 (by decide +kernel) rfl), by decide +kernel⟩
def Y8_isFrame : gj_Y := (yX8_isFrame, cX8_isFrame, 1, (some .boolean), { frames := 1, cells := 0, slots := 0, locals := 25 })
theorem ok_8_isFrame : gj_ok Y8_isFrame 1 := ⟨by decide +kernel, (gj_at 934 (by decide +kernel) rfl), (gj_at 63 (by decide +kernel) rfl), by decide +kernel⟩
def Y8_write : gj_Y := (yX8_write, cX8_write, 2, (some .int), { frames := 1, cells := 0, slots := 0, locals := 25 })
theorem ok_8_write : gj_ok Y8_write 1 := ⟨by decide +kernel, (gj_at 839 (by decide +kernel) rfl), (gj_at 63 (by decide +kernel) rfl), by decide +kernel⟩
def Y8_wipe : gj_Y := (yX8_wipe, cX8_wipe, 2, (some .int), { frames := 0, cells := 0, slots := 0, locals := 0 })
theorem ok_8_wipe : gj_ok Y8_wipe 0 := ⟨by decide +kernel, (gj_at 847 (by decide +kernel) rfl), (gj_at 63 (by decide +kernel) rfl), by decide +kernel⟩
def Y8_figure : gj_Y := (yX8_figure, cX8_figure, 4, (some .int), { frames := 1, cells := 0, slots := 0, locals := 25 })
theorem ok_8_figure : gj_ok Y8_figure 2 := ⟨by decide +kernel, (gj_at 863 (by decide +kernel) rfl), (gj_at 63 (by decide +kernel) rfl), by decide +kernel⟩
def Y8_readDrawing : gj_Y := (yX8_readDrawing, cX8_readDrawing, 3, (some .boolean), { frames := 2, cells := 0, slots := 0, locals := 48 })
theorem ok_8_readDrawing : gj_ok Y8_readDrawing 0 := ⟨by decide +kernel, (gj_at 859 (by decide +kernel) rfl), (gj_at 63 (by decide +kernel) rfl), by decide +kernel⟩
def Y8_spread : gj_Y := (yX8_spread, cX8_spread, 4, none, { frames := 0, cells := 0, slots := 0, locals := 0 })
theorem ok_8_spread : gj_ok Y8_spread 2 := ⟨by decide +kernel, (gj_at 875 (by decide +kernel) rfl), (gj_at 63 (by decide +kernel) rfl), by decide +kernel⟩
def Y8_over : gj_Y := (yX8_over, cX8_over, 6, none, { frames := 1, cells := 0, slots := 0, locals := 23 })
theorem ok_8_over : gj_ok Y8_over 2 := ⟨by decide +kernel, (gj_at 871 (by decide +kernel) rfl), (gj_at 63 (by decide +kernel) rfl), by decide +kernel⟩
def Y8_readSheet : gj_Y := (yX8_readSheet, cX8_readSheet, 4, (some .boolean), { frames := 2, cells := 0, slots := 0, locals := 48 })
theorem ok_8_readSheet : gj_ok Y8_readSheet 0 := ⟨by decide +kernel, (gj_at 867 (by decide +kernel) rfl), (gj_at 63 (by decide +kernel) rfl), by decide +kernel⟩
def Y8_readReel : gj_Y := (yX8_readReel, cX8_readReel, 1, (some .int), { frames := 3, cells := 0, slots := 0, locals := 71 })
theorem ok_8_readReel : gj_ok Y8_readReel 0 := ⟨by decide +kernel, (gj_at 855 (by decide +kernel) rfl), (gj_at 63 (by decide +kernel) rfl), by decide +kernel⟩
def Y8_fault : gj_Y := (yX8_fault, cX8_fault, 1, (some .int), { frames := 4, cells := 0, slots := 0, locals := 91 })
theorem ok_8_fault : gj_ok Y8_fault 0 := ⟨by decide +kernel, (gj_at 851 (by decide +kernel) rfl), (gj_at 63 (by decide +kernel) rfl), by decide +kernel⟩
def Y8_reel : gj_Y := (yX8_reel, cX8_reel, 2, (some .int), { frames := 4, cells := 0, slots := 0, locals := 91 })
theorem ok_8_reel : gj_ok Y8_reel 0 := ⟨by decide +kernel, (gj_at 879 (by decide +kernel) rfl), (gj_at 63 (by decide +kernel) rfl), by decide +kernel⟩
def Y8_exposedOn : gj_Y := (yX8_exposedOn, cX8_exposedOn, 5, (some .int), { frames := 1, cells := 0, slots := 0, locals := 25 })
theorem ok_8_exposedOn : gj_ok Y8_exposedOn 3 := ⟨by decide +kernel, (gj_at 895 (by decide +kernel) rfl), (gj_at 63 (by decide +kernel) rfl), by decide +kernel⟩
def Y8_whereIs : gj_Y := (yX8_whereIs, cX8_whereIs, 4, (some .int), { frames := 0, cells := 0, slots := 0, locals := 0 })
theorem ok_8_whereIs : gj_ok Y8_whereIs 3 := ⟨by decide +kernel, (gj_at 938 (by decide +kernel) rfl), (gj_at 63 (by decide +kernel) rfl), by decide +kernel⟩
def Y8_firstOrder : gj_Y := (yX8_firstOrder, cX8_firstOrder, 3, (some .int), { frames := 0, cells := 0, slots := 0, locals := 0 })
theorem ok_8_firstOrder : gj_ok Y8_firstOrder 0 := ⟨by decide +kernel, (gj_at 998 (by decide +kernel) rfl), (gj_at 63 (by decide +kernel) rfl), by decide +kernel⟩
def Y8_orderAt : gj_Y := (yX8_orderAt, cX8_orderAt, 6, (some .int), { frames := 1, cells := 0, slots := 0, locals := 22 })
theorem ok_8_orderAt : gj_ok Y8_orderAt 2 := ⟨by decide +kernel, (gj_at 994 (by decide +kernel) rfl), (gj_at 63 (by decide +kernel) rfl), by decide +kernel⟩
def Y8_lookBy : gj_Y := (yX8_lookBy, cX8_lookBy, 12, (some .int), { frames := 2, cells := 0, slots := 0, locals := 49 })
theorem ok_8_lookBy : gj_ok Y8_lookBy 5 := ⟨by decide +kernel, (gj_at 1006 (by decide +kernel) rfl), (gj_at 63 (by decide +kernel) rfl), by decide +kernel⟩
def Y8_every : gj_Y := (yX8_every, cX8_every, 1, (some .int), { frames := 0, cells := 0, slots := 0, locals := 0 })
theorem ok_8_every : gj_ok Y8_every 0 := ⟨by decide +kernel, (gj_at 974 (by decide +kernel) rfl), (gj_at 63 (by decide +kernel) rfl), by decide +kernel⟩
def Y8_mostOf : gj_Y := (yX8_mostOf, cX8_mostOf, 7, (some .int), { frames := 2, cells := 0, slots := 0, locals := 49 })
theorem ok_8_mostOf : gj_ok Y8_mostOf 2 := ⟨by decide +kernel, (gj_at 891 (by decide +kernel) rfl), (gj_at 63 (by decide +kernel) rfl), by decide +kernel⟩
def Y8_cels : gj_Y := (yX8_cels, cX8_cels, 4, (some .int), { frames := 3, cells := 0, slots := 0, locals := 75 })
theorem ok_8_cels : gj_ok Y8_cels 1 := ⟨by decide +kernel, (gj_at 927 (by decide +kernel) rfl), (gj_at 63 (by decide +kernel) rfl), by decide +kernel⟩
def Y8_changes : gj_Y := (yX8_changes, cX8_changes, 5, (some .int), { frames := 3, cells := 0, slots := 0, locals := 80 })
theorem ok_8_changes : gj_ok Y8_changes 0 := ⟨by decide +kernel, (gj_at 1017 (by decide +kernel) rfl), (gj_at 63 (by decide +kernel) rfl), by decide +kernel⟩
def Y8_layLike : gj_Y := (yX8_layLike, cX8_layLike, 5, none, { frames := 0, cells := 0, slots := 0, locals := 0 })
theorem ok_8_layLike : gj_ok Y8_layLike 1 := ⟨by decide +kernel, (gj_at 911 (by decide +kernel) rfl), (gj_at 63 (by decide +kernel) rfl), by decide +kernel⟩
def Y8_itemOf : gj_Y := (yX8_itemOf, cX8_itemOf, 9, (some .int), { frames := 0, cells := 0, slots := 0, locals := 0 })
theorem ok_8_itemOf : gj_ok Y8_itemOf 3 := ⟨by decide +kernel, (gj_at 915 (by decide +kernel) rfl), (gj_at 63 (by decide +kernel) rfl), by decide +kernel⟩
def Y8_shortest : gj_Y := (yX8_shortest, cX8_shortest, 11, (some .int), { frames := 1, cells := 0, slots := 0, locals := 28 })
theorem ok_8_shortest : gj_ok Y8_shortest 1 := ⟨by decide +kernel, (gj_at 907 (by decide +kernel) rfl), (gj_at 63 (by decide +kernel) rfl), by decide +kernel⟩
def Y8_bestDelay : gj_Y := (yX8_bestDelay, cX8_bestDelay, 6, (some .int), { frames := 4, cells := 0, slots := 0, locals := 98 })
theorem ok_8_bestDelay : gj_ok Y8_bestDelay 1 := ⟨by decide +kernel, (gj_at 919 (by decide +kernel) rfl), (gj_at 63 (by decide +kernel) rfl), by decide +kernel⟩
def Y8_drawing : gj_Y := (yX8_drawing, cX8_drawing, 3, (some .int), { frames := 3, cells := 0, slots := 0, locals := 75 })
theorem ok_8_drawing : gj_ok Y8_drawing 2 := ⟨by decide +kernel, (gj_at 883 (by decide +kernel) rfl), (gj_at 63 (by decide +kernel) rfl), by decide +kernel⟩
def Y8_level : gj_Y := (yX8_level, cX8_level, 3, (some .int), { frames := 5, cells := 0, slots := 0, locals := 123 })
theorem ok_8_level : gj_ok Y8_level 2 := ⟨by decide +kernel, (gj_at 899 (by decide +kernel) rfl), (gj_at 63 (by decide +kernel) rfl), by decide +kernel⟩
def Y8_where : gj_Y := (yX8_where, cX8_where, 3, (some .int), { frames := 2, cells := 0, slots := 0, locals := 46 })
theorem ok_8_where : gj_ok Y8_where 2 := ⟨by decide +kernel, (gj_at 931 (by decide +kernel) rfl), (gj_at 63 (by decide +kernel) rfl), by decide +kernel⟩
def Y8_note : gj_Y := (yX8_note, cX8_note, 2, none, { frames := 0, cells := 0, slots := 0, locals := 0 })
theorem ok_8_note : gj_ok Y8_note 0 := ⟨by decide +kernel, (gj_at 948 (by decide +kernel) rfl), (gj_at 63 (by decide +kernel) rfl), by decide +kernel⟩
def Y8_redraw : gj_Y := (yX8_redraw, cX8_redraw, 5, (some .int), { frames := 2, cells := 0, slots := 0, locals := 46 })
theorem ok_8_redraw : gj_ok Y8_redraw 3 := ⟨by decide +kernel, (gj_at 942 (by decide +kernel) rfl), (gj_at 63 (by decide +kernel) rfl), by decide +kernel⟩
def Y8_delay : gj_Y := (yX8_delay, cX8_delay, 4, (some .int), { frames := 2, cells := 0, slots := 0, locals := 46 })
theorem ok_8_delay : gj_ok Y8_delay 2 := ⟨by decide +kernel, (gj_at 952 (by decide +kernel) rfl), (gj_at 63 (by decide +kernel) rfl), by decide +kernel⟩
def Y8_pan : gj_Y := (yX8_pan, cX8_pan, 6, (some .int), { frames := 2, cells := 0, slots := 0, locals := 46 })
theorem ok_8_pan : gj_ok Y8_pan 4 := ⟨by decide +kernel, (gj_at 956 (by decide +kernel) rfl), (gj_at 63 (by decide +kernel) rfl), by decide +kernel⟩
def Y8_isOrder : gj_Y := (yX8_isOrder, cX8_isOrder, 4, (some .boolean), { frames := 1, cells := 0, slots := 0, locals := 25 })
theorem ok_8_isOrder : gj_ok Y8_isOrder 1 := ⟨by decide +kernel, (gj_at 967 (by decide +kernel) rfl), (gj_at 63 (by decide +kernel) rfl), by decide +kernel⟩
def Y8_swap : gj_Y := (yX8_swap, cX8_swap, 3, (some .int), { frames := 2, cells := 0, slots := 0, locals := 48 })
theorem ok_8_swap : gj_ok Y8_swap 2 := ⟨by decide +kernel, (gj_at 963 (by decide +kernel) rfl), (gj_at 63 (by decide +kernel) rfl), by decide +kernel⟩
def Y8_back : gj_Y := (yX8_back, cX8_back, 1, (some .int), { frames := 1, cells := 0, slots := 0, locals := 21 })
theorem ok_8_back : gj_ok Y8_back 0 := ⟨by decide +kernel, (gj_at 978 (by decide +kernel) rfl), (gj_at 63 (by decide +kernel) rfl), by decide +kernel⟩
def Y8_undo : gj_Y := (yX8_undo, cX8_undo, 2, (some .int), { frames := 0, cells := 0, slots := 0, locals := 0 })
theorem ok_8_undo : gj_ok Y8_undo 0 := ⟨by decide +kernel, (gj_at 982 (by decide +kernel) rfl), (gj_at 63 (by decide +kernel) rfl), by decide +kernel⟩
def Y8_exposed : gj_Y := (yX8_exposed, cX8_exposed, 3, (some .int), { frames := 2, cells := 0, slots := 0, locals := 49 })
theorem ok_8_exposed : gj_ok Y8_exposed 2 := ⟨by decide +kernel, (gj_at 986 (by decide +kernel) rfl), (gj_at 63 (by decide +kernel) rfl), by decide +kernel⟩
def Y8_order : gj_Y := (yX8_order, cX8_order, 2, (some .int), { frames := 2, cells := 0, slots := 0, locals := 47 })
theorem ok_8_order : gj_ok Y8_order 1 := ⟨by decide +kernel, (gj_at 990 (by decide +kernel) rfl), (gj_at 63 (by decide +kernel) rfl), by decide +kernel⟩
def Y8_look : gj_Y := (yX8_look, cX8_look, 3, (some .int), { frames := 3, cells := 0, slots := 0, locals := 80 })
theorem ok_8_look : gj_ok Y8_look 2 := ⟨by decide +kernel, (gj_at 1002 (by decide +kernel) rfl), (gj_at 63 (by decide +kernel) rfl), by decide +kernel⟩
def Y8_ask : gj_Y := (yX8_ask, cX8_ask, 2, (some .int), { frames := 4, cells := 0, slots := 0, locals := 104 })
theorem ok_8_ask : gj_ok Y8_ask 1 := ⟨by decide +kernel, (gj_at 1013 (by decide +kernel) rfl), (gj_at 63 (by decide +kernel) rfl), by decide +kernel⟩
def Y8_does : gj_Y := (yX8_does, cX8_does, 6, (some .boolean), { frames := 4, cells := 0, slots := 0, locals := 98 })
theorem ok_8_does : gj_ok Y8_does 4 := ⟨by decide +kernel, (gj_at 1030 (by decide +kernel) rfl), (gj_at 63 (by decide +kernel) rfl), by decide +kernel⟩
def Y8_longPower : gj_Y := (yX8_longPower, cX8_longPower, 6, (some .long), { frames := 0, cells := 0, slots := 0, locals := 0 })
theorem ok_8_longPower : gj_ok Y8_longPower 2 := ⟨by decide +kernel, (gj_at 1026 (by decide +kernel) rfl), (gj_at 63 (by decide +kernel) rfl), by decide +kernel⟩
def Y8_judge : gj_Y := (yX8_judge, cX8_judge, 6, (some .int), { frames := 5, cells := 0, slots := 0, locals := 123 })
theorem ok_8_judge : gj_ok Y8_judge 2 := ⟨by decide +kernel, (gj_at 1021 (by decide +kernel) rfl), (gj_at 63 (by decide +kernel) rfl), by decide +kernel⟩
def Y8_see : gj_Y := (yX8_see, cX8_see, 4, (some .int), { frames := 2, cells := 0, slots := 0, locals := 45 })
theorem ok_8_see : gj_ok Y8_see 3 := ⟨by decide +kernel, (gj_at 1034 (by decide +kernel) rfl), (gj_at 63 (by decide +kernel) rfl), by decide +kernel⟩
def Y8_unsee : gj_Y := (yX8_unsee, cX8_unsee, 2, (some .int), { frames := 0, cells := 0, slots := 0, locals := 0 })
theorem ok_8_unsee : gj_ok Y8_unsee 0 := ⟨by decide +kernel, (gj_at 1039 (by decide +kernel) rfl), (gj_at 63 (by decide +kernel) rfl), by decide +kernel⟩
def Y8_which : gj_Y := (yX8_which, cX8_which, 5, (some .int), { frames := 3, cells := 0, slots := 0, locals := 80 })
theorem ok_8_which : gj_ok Y8_which 0 := ⟨by decide +kernel, (gj_at 1043 (by decide +kernel) rfl), (gj_at 63 (by decide +kernel) rfl), by decide +kernel⟩
def Y8_divisor : gj_Y := (yX8_divisor, cX8_divisor, 5, (some .int), { frames := 0, cells := 0, slots := 0, locals := 0 })
theorem ok_8_divisor : gj_ok Y8_divisor 2 := ⟨by decide +kernel, (gj_at 1063 (by decide +kernel) rfl), (gj_at 63 (by decide +kernel) rfl), by decide +kernel⟩
def Y8_fraction : gj_Y := (yX8_fraction, cX8_fraction, 4, (some .int), { frames := 1, cells := 0, slots := 0, locals := 24 })
theorem ok_8_fraction : gj_ok Y8_fraction 3 := ⟨by decide +kernel, (gj_at 1060 (by decide +kernel) rfl), (gj_at 63 (by decide +kernel) rfl), by decide +kernel⟩
def Y8_factorial : gj_Y := (yX8_factorial, cX8_factorial, 3, (some .int), { frames := 0, cells := 0, slots := 0, locals := 0 })
theorem ok_8_factorial : gj_ok Y8_factorial 1 := ⟨by decide +kernel, (gj_at 1053 (by decide +kernel) rfl), (gj_at 63 (by decide +kernel) rfl), by decide +kernel⟩
def Y8_coveredBy : gj_Y := (yX8_coveredBy, cX8_coveredBy, 5, (some .int), { frames := 3, cells := 0, slots := 0, locals := 80 })
theorem ok_8_coveredBy : gj_ok Y8_coveredBy 1 := ⟨by decide +kernel, (gj_at 1057 (by decide +kernel) rfl), (gj_at 63 (by decide +kernel) rfl), by decide +kernel⟩
def Y8_share : gj_Y := (yX8_share, cX8_share, 6, (some .int), { frames := 4, cells := 0, slots := 0, locals := 104 })
theorem ok_8_share : gj_ok Y8_share 2 := ⟨by decide +kernel, (gj_at 1047 (by decide +kernel) rfl), (gj_at 63 (by decide +kernel) rfl), by decide +kernel⟩
def Y8_lost : gj_Y := (yX8_lost, cX8_lost, 7, (some .int), { frames := 3, cells := 0, slots := 0, locals := 80 })
theorem ok_8_lost : gj_ok Y8_lost 4 := ⟨by decide +kernel, (gj_at 1067 (by decide +kernel) rfl), (gj_at 63 (by decide +kernel) rfl), by decide +kernel⟩
def Y8_seed : gj_Y := (yX8_seed, cX8_seed, 5, (some .long), { frames := 0, cells := 0, slots := 0, locals := 0 })
theorem ok_8_seed : gj_ok Y8_seed 1 := ⟨by decide +kernel, (gj_at 1072 (by decide +kernel) rfl), (gj_at 63 (by decide +kernel) rfl), by decide +kernel⟩
def Y8_looks : gj_Y := (yX8_looks, cX8_looks, 5, (some .int), { frames := 3, cells := 0, slots := 0, locals := 80 })
theorem ok_8_looks : gj_ok Y8_looks 1 := ⟨by decide +kernel, (gj_at 1076 (by decide +kernel) rfl), (gj_at 63 (by decide +kernel) rfl), by decide +kernel⟩
def Y8_keep : gj_Y := (yX8_keep, cX8_keep, 3, (some .int), { frames := 1, cells := 0, slots := 0, locals := 25 })
theorem ok_8_keep : gj_ok Y8_keep 1 := ⟨by decide +kernel, (gj_at 1083 (by decide +kernel) rfl), (gj_at 63 (by decide +kernel) rfl), by decide +kernel⟩
def Y8_again : gj_Y := (yX8_again, cX8_again, 3, (some .int), { frames := 1, cells := 0, slots := 0, locals := 25 })
theorem ok_8_again : gj_ok Y8_again 1 := ⟨by decide +kernel, (gj_at 1087 (by decide +kernel) rfl), (gj_at 63 (by decide +kernel) rfl), by decide +kernel⟩
def Y8_count : gj_Y := (yX8_count, cX8_count, 2, (some .int), { frames := 0, cells := 0, slots := 0, locals := 0 })
theorem ok_8_count : gj_ok Y8_count 1 := ⟨by decide +kernel, (gj_at 1091 (by decide +kernel) rfl), (gj_at 63 (by decide +kernel) rfl), by decide +kernel⟩
def YL_law : gj_Y := (yL_law, cL_law, 4, (some .boolean), { frames := 9, cells := 88, slots := 14392, locals := 328 })
