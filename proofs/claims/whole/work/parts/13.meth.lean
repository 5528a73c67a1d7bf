def m_X3_reset : qMd := ({ frames := 0, cells := 0, slots := 0, locals := 0 }, RX3, yX3_reset, cX3_reset, 1, none)
def m_X0_reset : qMd := ({ frames := 1, cells := 0, slots := 0, locals := 20 }, RX0, yX0_reset, cX0_reset, 5, none)
def m_X3_takeOver : qMd := ({ frames := 0, cells := 0, slots := 0, locals := 0 }, RX3, yX3_takeOver, cX3_takeOver, 2, none)
def m_X5_takeOver : qMd := ({ frames := 0, cells := 0, slots := 0, locals := 0 }, RX5, yX5_takeOver, cX5_takeOver, 3, none)
def m_X0_takeOver : qMd := ({ frames := 1, cells := 0, slots := 0, locals := 40 }, RX0, yX0_takeOver, cX0_takeOver, 3, none)
def m_X0_cells : qMd := ({ frames := 0, cells := 0, slots := 0, locals := 0 }, RX0, yX0_cells, cX0_cells, 1, some .int)
def m_X0_hasCell : qMd := ({ frames := 0, cells := 0, slots := 0, locals := 0 }, RX0, yX0_hasCell, cX0_hasCell, 2, some .boolean)
def m_X0_hasSide : qMd := ({ frames := 0, cells := 0, slots := 0, locals := 0 }, RX0, yX0_hasSide, cX0_hasSide, 3, some .boolean)
def m_X0_farCell : qMd := ({ frames := 0, cells := 0, slots := 0, locals := 0 }, RX0, yX0_farCell, cX0_farCell, 2, some .int)
def m_X0_level : qMd := ({ frames := 0, cells := 0, slots := 0, locals := 0 }, RX0, yX0_level, cX0_level, 2, some .int)
def m_X0_isTidal : qMd := ({ frames := 0, cells := 0, slots := 0, locals := 0 }, RX0, yX0_isTidal, cX0_isTidal, 1, some .boolean)
def m_X0_isOf : qMd := ({ frames := 1, cells := 0, slots := 0, locals := 20 }, RX0, yX0_isOf, cX0_isOf, 2, some .boolean)
def m_X7_isNumber : qMd := ({ frames := 0, cells := 0, slots := 0, locals := 0 }, RX7, yX7_isNumber, cX7_isNumber, 2, some .boolean)
def m_X0_hasTide : qMd := ({ frames := 1, cells := 0, slots := 0, locals := 21 }, RX0, yX0_hasTide, cX0_hasTide, 2, some .boolean)
def m_J9_floorMod_7cf53 : qMd := ({ frames := 0, cells := 0, slots := 0, locals := 0 }, RJ9, yJ9_floorMod_7cf53, cJ9_floorMod_7cf53, 3, some .int)
def m_X0_tideLevel : qMd := ({ frames := 1, cells := 0, slots := 0, locals := 22 }, RX0, yX0_tideLevel, cX0_tideLevel, 3, some .int)
def m_X0_windAt : qMd := ({ frames := 0, cells := 0, slots := 0, locals := 0 }, RX0, yX0_windAt, cX0_windAt, 2, some .int)
def m_X0_shutPosts : qMd := ({ frames := 0, cells := 0, slots := 0, locals := 0 }, RX0, yX0_shutPosts, cX0_shutPosts, 3, none)
def m_X5_bringHundredths : qMd := ({ frames := 1, cells := 0, slots := 0, locals := 40 }, RX5, yX5_bringHundredths, cX5_bringHundredths, 3, none)
def m_X0_obey : qMd := ({ frames := 2, cells := 0, slots := 0, locals := 62 }, RX0, yX0_obey, cX0_obey, 3, none)
def m_X0_dryCells : qMd := ({ frames := 1, cells := 0, slots := 0, locals := 20 }, RX0, yX0_dryCells, cX0_dryCells, 3, some .int)
def m_X0_sum : qMd := ({ frames := 1, cells := 0, slots := 0, locals := 20 }, RX0, yX0_sum, cX0_sum, 5, some .int)
def m_X0_tells : qMd := ({ frames := 2, cells := 0, slots := 0, locals := 44 }, RX0, yX0_tells, cX0_tells, 2, some .int)
def m_X0_allRests : qMd := ({ frames := 1, cells := 0, slots := 0, locals := 20 }, RX0, yX0_allRests, cX0_allRests, 3, some .int)
def m_X0_opposite : qMd := ({ frames := 0, cells := 0, slots := 0, locals := 0 }, RX0, yX0_opposite, cX0_opposite, 3, some .int)
def m_X0_swap : qMd := ({ frames := 0, cells := 0, slots := 0, locals := 0 }, RX0, yX0_swap, cX0_swap, 4, none)
def m_X0_swapShut : qMd := ({ frames := 0, cells := 0, slots := 0, locals := 0 }, RX0, yX0_swapShut, cX0_swapShut, 4, none)
def m_X0_swapCells : qMd := ({ frames := 1, cells := 0, slots := 0, locals := 23 }, RX0, yX0_swapCells, cX0_swapCells, 4, none)
def m_X0_swapRightSides : qMd := ({ frames := 1, cells := 0, slots := 0, locals := 23 }, RX0, yX0_swapRightSides, cX0_swapRightSides, 3, none)
def m_X0_turn : qMd := ({ frames := 2, cells := 0, slots := 0, locals := 46 }, RX0, yX0_turn, cX0_turn, 4, none)
def m_X0_underCell : qMd := ({ frames := 0, cells := 0, slots := 0, locals := 0 }, RX0, yX0_underCell, cX0_underCell, 4, some .int)
def m_X0_fineCell : qMd := ({ frames := 0, cells := 0, slots := 0, locals := 0 }, RX0, yX0_fineCell, cX0_fineCell, 6, some .int)
def m_X0_layOn : qMd := ({ frames := 1, cells := 0, slots := 0, locals := 25 }, RX0, yX0_layOn, cX0_layOn, 6, none)
def m_J9_floorDiv_7cf53 : qMd := ({ frames := 0, cells := 0, slots := 0, locals := 0 }, RJ9, yJ9_floorDiv_7cf53, cJ9_floorDiv_7cf53, 3, some .int)
def m_X0_giveUp : qMd := ({ frames := 1, cells := 0, slots := 0, locals := 40 }, RX0, yX0_giveUp, cX0_giveUp, 7, some .int)
def m_X0_unfilled : qMd := ({ frames := 1, cells := 0, slots := 0, locals := 40 }, RX0, yX0_unfilled, cX0_unfilled, 7, some .int)
def m_X0_takeDown : qMd := ({ frames := 2, cells := 0, slots := 0, locals := 66 }, RX0, yX0_takeDown, cX0_takeDown, 8, some .int)
def m_X0_digested : qMd := ({ frames := 3, cells := 0, slots := 0, locals := 65 }, RX0, yX0_digested, cX0_digested, 7, some .long)
def m_X1_drift : qMd := ({ frames := 1, cells := 0, slots := 0, locals := 22 }, RX1, yX1_drift, cX1_drift, 7, none)
def m_X1_digested : qMd := ({ frames := 0, cells := 0, slots := 0, locals := 0 }, RX1, yX1_digested, cX1_digested, 3, some .long)
def m_X2_place : qMd := ({ frames := 0, cells := 0, slots := 0, locals := 0 }, RX2, yX2_place, cX2_place, 3, none)
def m_X2_fromOldest : qMd := ({ frames := 0, cells := 0, slots := 0, locals := 0 }, RX2, yX2_fromOldest, cX2_fromOldest, 2, some .int)
def m_X2_read : qMd := ({ frames := 1, cells := 0, slots := 0, locals := 21 }, RX2, yX2_read, cX2_read, 3, none)
def m_X2_placeOf : qMd := ({ frames := 1, cells := 0, slots := 0, locals := 21 }, RX2, yX2_placeOf, cX2_placeOf, 3, some .int)
def m_X2_kept : qMd := ({ frames := 1, cells := 0, slots := 0, locals := 21 }, RX2, yX2_kept, cX2_kept, 3, some .int)
def m_X2_digested : qMd := ({ frames := 1, cells := 0, slots := 0, locals := 21 }, RX2, yX2_digested, cX2_digested, 7, some .long)
def m_X6_open : qMd := ({ frames := 0, cells := 0, slots := 0, locals := 0 }, RX6, yX6_open, cX6_open, 3, none)
def m_X6_digitAhead : qMd := ({ frames := 0, cells := 0, slots := 0, locals := 0 }, RX6, yX6_digitAhead, cX6_digitAhead, 1, some .boolean)
def m_X6_failed : qMd := ({ frames := 0, cells := 0, slots := 0, locals := 0 }, RX6, yX6_failed, cX6_failed, 2, some .boolean)
def m_X6_greatest : qMd := ({ frames := 0, cells := 0, slots := 0, locals := 0 }, RX6, yX6_greatest, cX6_greatest, 1, some .int)
def m_X6_least : qMd := ({ frames := 0, cells := 0, slots := 0, locals := 0 }, RX6, yX6_least, cX6_least, 1, some .int)
def m_X6_stepsOfItem : qMd := ({ frames := 0, cells := 0, slots := 0, locals := 0 }, RX6, yX6_stepsOfItem, cX6_stepsOfItem, 1, some .int)
def m_X6_next : qMd := ({ frames := 1, cells := 0, slots := 0, locals := 21 }, RX6, yX6_next, cX6_next, 5, some .boolean)
def m_X7_isThere : qMd := ({ frames := 0, cells := 0, slots := 0, locals := 0 }, RX7, yX7_isThere, cX7_isThere, 2, some .boolean)
def m_X7_hasPlace : qMd := ({ frames := 0, cells := 0, slots := 0, locals := 0 }, RX7, yX7_hasPlace, cX7_hasPlace, 3, some .boolean)
def m_X7_hasRun : qMd := ({ frames := 0, cells := 0, slots := 0, locals := 0 }, RX7, yX7_hasRun, cX7_hasRun, 4, some .boolean)
def m_X7_make : qMd := ({ frames := 0, cells := 0, slots := 0, locals := 0 }, RX7, yX7_make, cX7_make, 5, none)
def m_X7_remove : qMd := ({ frames := 0, cells := 0, slots := 0, locals := 0 }, RX7, yX7_remove, cX7_remove, 2, none)
def m_X7_howMany : qMd := ({ frames := 1, cells := 0, slots := 0, locals := 21 }, RX7, yX7_howMany, cX7_howMany, 3, some .int)
def m_X7_digested : qMd := ({ frames := 0, cells := 0, slots := 0, locals := 0 }, RX7, yX7_digested, cX7_digested, 7, some .long)
def m_X8_addRivers : qMd := ({ frames := 0, cells := 0, slots := 0, locals := 0 }, RX8, yX8_addRivers, cX8_addRivers, 4, some .int)
def m_X8_share : qMd := ({ frames := 0, cells := 0, slots := 0, locals := 0 }, RX8, yX8_share, cX8_share, 3, some .int)
def m_X8_source : qMd := ({ frames := 1, cells := 0, slots := 0, locals := 21 }, RX8, yX8_source, cX8_source, 3, some .int)
def m_X8_carryStuff : qMd := ({ frames := 2, cells := 0, slots := 0, locals := 43 }, RX8, yX8_carryStuff, cX8_carryStuff, 7, none)
def m_X8_leadRim : qMd := ({ frames := 1, cells := 0, slots := 0, locals := 40 }, RX8, yX8_leadRim, cX8_leadRim, 5, none)
def m_X8_limitFlows : qMd := ({ frames := 2, cells := 0, slots := 0, locals := 43 }, RX8, yX8_limitFlows, cX8_limitFlows, 4, none)
def m_X8_moveWater : qMd := ({ frames := 1, cells := 0, slots := 0, locals := 40 }, RX8, yX8_moveWater, cX8_moveWater, 3, none)
def m_X8_pushed : qMd := ({ frames := 1, cells := 0, slots := 0, locals := 21 }, RX8, yX8_pushed, cX8_pushed, 8, some .int)
def m_X8_pushFlows : qMd := ({ frames := 2, cells := 0, slots := 0, locals := 48 }, RX8, yX8_pushFlows, cX8_pushFlows, 3, none)
def m_X8_tooMuch : qMd := ({ frames := 1, cells := 0, slots := 0, locals := 20 }, RX8, yX8_tooMuch, cX8_tooMuch, 3, some .boolean)
def m_X8_advance : qMd := ({ frames := 3, cells := 0, slots := 0, locals := 70 }, RX8, yX8_advance, cX8_advance, 5, some .boolean)
def m_X9_signed : qMd := ({ frames := 0, cells := 0, slots := 0, locals := 0 }, RX9, yX9_signed, cX9_signed, 3, some .int)
def m_X9_hear : qMd := ({ frames := 1, cells := 0, slots := 0, locals := 22 }, RX9, yX9_hear, cX9_hear, 5, none)
def m_X9_power : qMd := ({ frames := 0, cells := 0, slots := 0, locals := 0 }, RX9, yX9_power, cX9_power, 1, some .long)
def m_X10_found : qMd := ({ frames := 0, cells := 0, slots := 0, locals := 0 }, RX10, yX10_found, cX10_found, 2, some .int)
def m_X10_row : qMd := ({ frames := 1, cells := 0, slots := 0, locals := 24 }, RX10, yX10_row, cX10_row, 3, some .int)
def m_X10_within : qMd := ({ frames := 0, cells := 0, slots := 0, locals := 0 }, RX10, yX10_within, cX10_within, 3, some .boolean)
def m_X10_lay : qMd := ({ frames := 1, cells := 0, slots := 0, locals := 22 }, RX10, yX10_lay, cX10_lay, 4, some .int)
def m_X10_removed : qMd := ({ frames := 1, cells := 0, slots := 0, locals := 21 }, RX10, yX10_removed, cX10_removed, 3, some .int)
def m_X10_tear : qMd := ({ frames := 2, cells := 0, slots := 0, locals := 43 }, RX10, yX10_tear, cX10_tear, 2, some .int)
def m_X10_copy : qMd := ({ frames := 1, cells := 0, slots := 0, locals := 40 }, RX10, yX10_copy, cX10_copy, 6, some .int)
def m_X10_knownPlaces : qMd := ({ frames := 0, cells := 0, slots := 0, locals := 0 }, RX10, yX10_knownPlaces, cX10_knownPlaces, 4, some .int)
def m_X10_mean : qMd := ({ frames := 1, cells := 0, slots := 0, locals := 23 }, RX10, yX10_mean, cX10_mean, 5, some .int)
def m_X10_text : qMd := ({ frames := 1, cells := 0, slots := 0, locals := 24 }, RX10, yX10_text, cX10_text, 3, some .int)
def m_X10_put : qMd := ({ frames := 1, cells := 0, slots := 0, locals := 22 }, RX10, yX10_put, cX10_put, 5, some .int)
def m_X10_burn : qMd := ({ frames := 2, cells := 0, slots := 0, locals := 43 }, RX10, yX10_burn, cX10_burn, 2, some .int)
def m_X10_faultOf : qMd := ({ frames := 2, cells := 0, slots := 0, locals := 45 }, RX10, yX10_faultOf, cX10_faultOf, 3, some .int)
def m_X10_fault : qMd := ({ frames := 3, cells := 0, slots := 0, locals := 67 }, RX10, yX10_fault, cX10_fault, 2, some .int)
def m_X10_isBoard : qMd := ({ frames := 0, cells := 0, slots := 0, locals := 0 }, RX10, yX10_isBoard, cX10_isBoard, 1, some .boolean)
def m_X10_hasGround : qMd := ({ frames := 1, cells := 0, slots := 0, locals := 20 }, RX10, yX10_hasGround, cX10_hasGround, 3, some .boolean)
def m_X10_removeBoard : qMd := ({ frames := 0, cells := 0, slots := 0, locals := 0 }, RX10, yX10_removeBoard, cX10_removeBoard, 3, none)
def m_X10_clear : qMd := ({ frames := 2, cells := 0, slots := 0, locals := 42 }, RX10, yX10_clear, cX10_clear, 4, none)
def m_X10_board : qMd := ({ frames := 3, cells := 0, slots := 0, locals := 65 }, RX10, yX10_board, cX10_board, 5, some .int)
def m_X10_boardRefused : qMd := ({ frames := 1, cells := 0, slots := 0, locals := 21 }, RX10, yX10_boardRefused, cX10_boardRefused, 3, some .int)
def m_X10_drop : qMd := ({ frames := 3, cells := 0, slots := 0, locals := 65 }, RX10, yX10_drop, cX10_drop, 3, some .int)
def m_X10_cellRefused : qMd := ({ frames := 2, cells := 0, slots := 0, locals := 43 }, RX10, yX10_cellRefused, cX10_cellRefused, 5, some .int)
def m_X10_bottom : qMd := ({ frames := 3, cells := 0, slots := 0, locals := 67 }, RX10, yX10_bottom, cX10_bottom, 5, some .int)
def m_X10_water : qMd := ({ frames := 3, cells := 0, slots := 0, locals := 67 }, RX10, yX10_water, cX10_water, 6, some .int)
def m_X10_spill : qMd := ({ frames := 3, cells := 0, slots := 0, locals := 67 }, RX10, yX10_spill, cX10_spill, 8, some .int)
def m_X10_cell : qMd := ({ frames := 3, cells := 0, slots := 0, locals := 67 }, RX10, yX10_cell, cX10_cell, 6, some .int)
def m_X10_sideRefused : qMd := ({ frames := 2, cells := 0, slots := 0, locals := 43 }, RX10, yX10_sideRefused, cX10_sideRefused, 4, some .int)
def m_X10_flow : qMd := ({ frames := 3, cells := 0, slots := 0, locals := 66 }, RX10, yX10_flow, cX10_flow, 4, some .int)
def m_X10_gate : qMd := ({ frames := 3, cells := 0, slots := 0, locals := 66 }, RX10, yX10_gate, cX10_gate, 6, some .int)
def m_X10_law : qMd := ({ frames := 2, cells := 0, slots := 0, locals := 43 }, RX10, yX10_law, cX10_law, 5, some .int)
def m_X10_wind : qMd := ({ frames := 2, cells := 0, slots := 0, locals := 43 }, RX10, yX10_wind, cX10_wind, 5, some .int)
def m_X10_river : qMd := ({ frames := 2, cells := 0, slots := 0, locals := 43 }, RX10, yX10_river, cX10_river, 6, some .int)
def m_X10_tide : qMd := ({ frames := 2, cells := 0, slots := 0, locals := 43 }, RX10, yX10_tide, cX10_tide, 5, some .int)
def m_X10_stepWhole : qMd := ({ frames := 4, cells := 0, slots := 0, locals := 94 }, RX10, yX10_stepWhole, cX10_stepWhole, 4, some .boolean)
def m_X10_step : qMd := ({ frames := 5, cells := 0, slots := 0, locals := 117 }, RX10, yX10_step, cX10_step, 5, some .int)
def m_X10_told : qMd := ({ frames := 3, cells := 0, slots := 0, locals := 65 }, RX10, yX10_told, cX10_told, 4, some .int)
def m_X10_mark : qMd := ({ frames := 2, cells := 0, slots := 0, locals := 44 }, RX10, yX10_mark, cX10_mark, 5, some .int)
def m_X10_liesIn : qMd := ({ frames := 1, cells := 0, slots := 0, locals := 20 }, RX10, yX10_liesIn, cX10_liesIn, 5, some .boolean)
def m_X10_keep : qMd := ({ frames := 3, cells := 0, slots := 0, locals := 65 }, RX10, yX10_keep, cX10_keep, 4, some .int)
def m_X10_bearsNest : qMd := ({ frames := 0, cells := 0, slots := 0, locals := 0 }, RX10, yX10_bearsNest, cX10_bearsNest, 3, some .boolean)
def m_X10_mirror : qMd := ({ frames := 3, cells := 0, slots := 0, locals := 69 }, RX10, yX10_mirror, cX10_mirror, 5, some .int)
def m_X10_boat : qMd := ({ frames := 3, cells := 0, slots := 0, locals := 67 }, RX10, yX10_boat, cX10_boat, 7, some .int)
def m_X10_where : qMd := ({ frames := 1, cells := 0, slots := 0, locals := 22 }, RX10, yX10_where, cX10_where, 2, some .int)
def m_X10_isGauge : qMd := ({ frames := 0, cells := 0, slots := 0, locals := 0 }, RX10, yX10_isGauge, cX10_isGauge, 1, some .boolean)
def m_X10_gauge : qMd := ({ frames := 3, cells := 0, slots := 0, locals := 67 }, RX10, yX10_gauge, cX10_gauge, 6, some .int)
def m_X10_reading : qMd := ({ frames := 2, cells := 0, slots := 0, locals := 43 }, RX10, yX10_reading, cX10_reading, 4, some .int)
def m_X10_lose : qMd := ({ frames := 2, cells := 0, slots := 0, locals := 43 }, RX10, yX10_lose, cX10_lose, 4, some .int)
def m_X10_toneRefused : qMd := ({ frames := 2, cells := 0, slots := 0, locals := 43 }, RX10, yX10_toneRefused, cX10_toneRefused, 3, some .int)
def m_X10_tone : qMd := ({ frames := 3, cells := 0, slots := 0, locals := 65 }, RX10, yX10_tone, cX10_tone, 4, some .int)
def m_X10_theTone : qMd := ({ frames := 3, cells := 0, slots := 0, locals := 65 }, RX10, yX10_theTone, cX10_theTone, 7, some .int)
def m_X10_part : qMd := ({ frames := 0, cells := 0, slots := 0, locals := 0 }, RX10, yX10_part, cX10_part, 2, some .int)
def m_X10_nest : qMd := ({ frames := 3, cells := 0, slots := 0, locals := 65 }, RX10, yX10_nest, cX10_nest, 9, some .int)
def m_X10_nestRefused : qMd := ({ frames := 2, cells := 0, slots := 0, locals := 43 }, RX10, yX10_nestRefused, cX10_nestRefused, 3, some .int)
def m_X10_up : qMd := ({ frames := 3, cells := 0, slots := 0, locals := 66 }, RX10, yX10_up, cX10_up, 3, some .int)
def m_X10_down : qMd := ({ frames := 3, cells := 0, slots := 0, locals := 93 }, RX10, yX10_down, cX10_down, 3, some .int)
def m_X10_misfitOfTrial : qMd := ({ frames := 4, cells := 0, slots := 0, locals := 94 }, RX10, yX10_misfitOfTrial, cX10_misfitOfTrial, 6, some .int)
def m_X10_bestPull : qMd := ({ frames := 5, cells := 0, slots := 0, locals := 119 }, RX10, yX10_bestPull, cX10_bestPull, 7, some .int)
def m_X10_fitRefused : qMd := ({ frames := 1, cells := 0, slots := 0, locals := 23 }, RX10, yX10_fitRefused, cX10_fitRefused, 5, some .int)
def m_X10_fit : qMd := ({ frames := 6, cells := 0, slots := 0, locals := 145 }, RX10, yX10_fit, cX10_fit, 6, some .int)
def m_X10_ends : qMd := ({ frames := 6, cells := 0, slots := 0, locals := 145 }, RX10, yX10_ends, cX10_ends, 10, some .int)
def m_X10_play : qMd := ({ frames := 5, cells := 0, slots := 0, locals := 117 }, RX10, yX10_play, cX10_play, 7, some .int)
def m_X10_world : qMd := ({ frames := 3, cells := 0, slots := 0, locals := 67 }, RX10, yX10_world, cX10_world, 3, some .int)
def m_X10_forget : qMd := ({ frames := 0, cells := 0, slots := 0, locals := 0 }, RX10, yX10_forget, cX10_forget, 2, some .int)
def m_X10_allWeights : qMd := ({ frames := 0, cells := 0, slots := 0, locals := 0 }, RX10, yX10_allWeights, cX10_allWeights, 3, some .int)
def m_X10_alarmRefused : qMd := ({ frames := 3, cells := 0, slots := 0, locals := 67 }, RX10, yX10_alarmRefused, cX10_alarmRefused, 5, some .int)
def m_X10_trialComesTo : qMd := ({ frames := 4, cells := 0, slots := 0, locals := 94 }, RX10, yX10_trialComesTo, cX10_trialComesTo, 7, some .boolean)
def m_X10_alarmedWeight : qMd := ({ frames := 5, cells := 0, slots := 0, locals := 120 }, RX10, yX10_alarmedWeight, cX10_alarmedWeight, 7, some .int)
def m_X10_tellFraction : qMd := ({ frames := 0, cells := 0, slots := 0, locals := 0 }, RX10, yX10_tellFraction, cX10_tellFraction, 7, none)
def m_X10_alarm : qMd := ({ frames := 6, cells := 0, slots := 0, locals := 146 }, RX10, yX10_alarm, cX10_alarm, 5, some .int)
def m_X10_post : qMd := ({ frames := 3, cells := 0, slots := 0, locals := 66 }, RX10, yX10_post, cX10_post, 5, some .int)
def m_J6_bitCount_0f7a4 : qMd := ({ frames := 0, cells := 0, slots := 0, locals := 0 }, RJ6, yJ6_bitCount_0f7a4, cJ6_bitCount_0f7a4, 1, some .int)
def m_X10_gates : qMd := ({ frames := 6, cells := 0, slots := 0, locals := 146 }, RX10, yX10_gates, cX10_gates, 10, some .int)
def m_X10_asked : qMd := ({ frames := 0, cells := 0, slots := 0, locals := 0 }, RX10, yX10_asked, cX10_asked, 1, some .int)
def m_X10_strength : qMd := ({ frames := 1, cells := 0, slots := 0, locals := 20 }, RX10, yX10_strength, cX10_strength, 1, some .long)
def m_X10_upper : qMd := ({ frames := 0, cells := 0, slots := 0, locals := 0 }, RX10, yX10_upper, cX10_upper, 1, some .long)
def m_X10_lower : qMd := ({ frames := 0, cells := 0, slots := 0, locals := 0 }, RX10, yX10_lower, cX10_lower, 1, some .long)
def m_X10_count : qMd := ({ frames := 2, cells := 0, slots := 0, locals := 43 }, RX10, yX10_count, cX10_count, 4, some .int)
def m_X10_finding : qMd := ({ frames := 0, cells := 0, slots := 0, locals := 0 }, RX10, yX10_finding, cX10_finding, 1, some .int)
def m_X10_findings : qMd := ({ frames := 1, cells := 0, slots := 0, locals := 22 }, RX10, yX10_findings, cX10_findings, 2, some .int)
def m_X10_digest : qMd := ({ frames := 4, cells := 0, slots := 0, locals := 91 }, RX10, yX10_digest, cX10_digest, 4, some .long)
def m_X11_in : qMd := ({ frames := 0, cells := 0, slots := 0, locals := 0 }, RX11, yX11_in, cX11_in, 3, some .boolean)
def m_X11_meets : qMd := ({ frames := 0, cells := 0, slots := 0, locals := 0 }, RX11, yX11_meets, cX11_meets, 2, some .int)
def m_X11_ask : qMd := ({ frames := 0, cells := 0, slots := 0, locals := 0 }, RX11, yX11_ask, cX11_ask, 3, some .int)
def m_X11_tell : qMd := ({ frames := 0, cells := 0, slots := 0, locals := 0 }, RX11, yX11_tell, cX11_tell, 12, some .int)
def m_X11_isSix : qMd := ({ frames := 1, cells := 0, slots := 0, locals := 22 }, RX11, yX11_isSix, cX11_isSix, 1, some .boolean)
def m_X11_looked : qMd := ({ frames := 2, cells := 0, slots := 0, locals := 42 }, RX11, yX11_looked, cX11_looked, 2, some .int)
def m_X11_row : qMd := ({ frames := 2, cells := 0, slots := 0, locals := 42 }, RX11, yX11_row, cX11_row, 4, some .int)
def m_X11_lay : qMd := ({ frames := 3, cells := 0, slots := 0, locals := 63 }, RX11, yX11_lay, cX11_lay, 5, some .int)
def m_X11_tear : qMd := ({ frames := 3, cells := 0, slots := 0, locals := 63 }, RX11, yX11_tear, cX11_tear, 3, some .int)
def m_X11_copy : qMd := ({ frames := 2, cells := 0, slots := 0, locals := 42 }, RX11, yX11_copy, cX11_copy, 7, some .int)
def m_X11_countOf : qMd := ({ frames := 0, cells := 0, slots := 0, locals := 0 }, RX11, yX11_countOf, cX11_countOf, 4, some .int)
def m_X11_mean : qMd := ({ frames := 3, cells := 0, slots := 0, locals := 63 }, RX11, yX11_mean, cX11_mean, 5, some .int)
def m_X11_lookedText : qMd := ({ frames := 2, cells := 0, slots := 0, locals := 42 }, RX11, yX11_lookedText, cX11_lookedText, 2, some .int)
def m_X11_text : qMd := ({ frames := 2, cells := 0, slots := 0, locals := 42 }, RX11, yX11_text, cX11_text, 4, some .int)
def m_X11_put : qMd := ({ frames := 3, cells := 0, slots := 0, locals := 63 }, RX11, yX11_put, cX11_put, 6, some .int)
def m_X11_burn : qMd := ({ frames := 3, cells := 0, slots := 0, locals := 63 }, RX11, yX11_burn, cX11_burn, 3, some .int)
def m_X11_isLetter : qMd := ({ frames := 0, cells := 0, slots := 0, locals := 0 }, RX11, yX11_isLetter, cX11_isLetter, 1, some .boolean)
def m_X11_may : qMd := ({ frames := 1, cells := 0, slots := 0, locals := 22 }, RX11, yX11_may, cX11_may, 2, some .boolean)
def m_X11_reads : qMd := ({ frames := 2, cells := 0, slots := 0, locals := 43 }, RX11, yX11_reads, cX11_reads, 11, some .int)
def m_X11_fault : qMd := ({ frames := 3, cells := 0, slots := 0, locals := 73 }, RX11, yX11_fault, cX11_fault, 3, some .int)
def m_X11_cells : qMd := ({ frames := 0, cells := 0, slots := 0, locals := 0 }, RX11, yX11_cells, cX11_cells, 2, some .int)
def m_X11_level : qMd := ({ frames := 0, cells := 0, slots := 0, locals := 0 }, RX11, yX11_level, cX11_level, 3, some .int)
def m_X11_askedFor : qMd := ({ frames := 2, cells := 0, slots := 0, locals := 42 }, RX11, yX11_askedFor, cX11_askedFor, 2, some .int)
def m_X11_isCell : qMd := ({ frames := 1, cells := 0, slots := 0, locals := 22 }, RX11, yX11_isCell, cX11_isCell, 3, some .boolean)
def m_X11_beyond : qMd := ({ frames := 2, cells := 0, slots := 0, locals := 44 }, RX11, yX11_beyond, cX11_beyond, 4, some .int)
def m_X11_clear : qMd := ({ frames := 0, cells := 0, slots := 0, locals := 0 }, RX11, yX11_clear, cX11_clear, 6, none)
def m_X11_begin : qMd := ({ frames := 0, cells := 0, slots := 0, locals := 0 }, RX11, yX11_begin, cX11_begin, 7, none)
def m_X11_board : qMd := ({ frames := 2, cells := 0, slots := 0, locals := 42 }, RX11, yX11_board, cX11_board, 5, some .int)
def m_X11_drop : qMd := ({ frames := 3, cells := 0, slots := 0, locals := 63 }, RX11, yX11_drop, cX11_drop, 3, some .int)
def m_X11_askedCell : qMd := ({ frames := 3, cells := 0, slots := 0, locals := 63 }, RX11, yX11_askedCell, cX11_askedCell, 4, some .int)
def m_X11_bottom : qMd := ({ frames := 4, cells := 0, slots := 0, locals := 86 }, RX11, yX11_bottom, cX11_bottom, 5, some .int)
def m_X11_water : qMd := ({ frames := 4, cells := 0, slots := 0, locals := 86 }, RX11, yX11_water, cX11_water, 6, some .int)
def m_X11_spill : qMd := ({ frames := 4, cells := 0, slots := 0, locals := 86 }, RX11, yX11_spill, cX11_spill, 8, some .int)
def m_X11_cell : qMd := ({ frames := 4, cells := 0, slots := 0, locals := 86 }, RX11, yX11_cell, cX11_cell, 5, some .int)
def m_X11_askedFace : qMd := ({ frames := 3, cells := 0, slots := 0, locals := 67 }, RX11, yX11_askedFace, cX11_askedFace, 4, some .int)
def m_X11_flow : qMd := ({ frames := 4, cells := 0, slots := 0, locals := 90 }, RX11, yX11_flow, cX11_flow, 4, some .int)
def m_X11_gate : qMd := ({ frames := 4, cells := 0, slots := 0, locals := 90 }, RX11, yX11_gate, cX11_gate, 6, some .int)
def m_X11_law : qMd := ({ frames := 3, cells := 0, slots := 0, locals := 63 }, RX11, yX11_law, cX11_law, 5, some .int)
def m_X11_wind : qMd := ({ frames := 3, cells := 0, slots := 0, locals := 63 }, RX11, yX11_wind, cX11_wind, 5, some .int)
def m_X11_river : qMd := ({ frames := 3, cells := 0, slots := 0, locals := 63 }, RX11, yX11_river, cX11_river, 5, some .int)
def m_X11_isTidal : qMd := ({ frames := 0, cells := 0, slots := 0, locals := 0 }, RX11, yX11_isTidal, cX11_isTidal, 2, some .boolean)
def m_X11_tide : qMd := ({ frames := 3, cells := 0, slots := 0, locals := 63 }, RX11, yX11_tide, cX11_tide, 5, some .int)
def m_X11_pushed : qMd := ({ frames := 1, cells := 0, slots := 0, locals := 22 }, RX11, yX11_pushed, cX11_pushed, 8, some .int)
def m_X11_pushAll : qMd := ({ frames := 3, cells := 0, slots := 0, locals := 67 }, RX11, yX11_pushAll, cX11_pushAll, 5, none)
def m_X11_carryAll : qMd := ({ frames := 3, cells := 0, slots := 0, locals := 67 }, RX11, yX11_carryAll, cX11_carryAll, 8, none)
def m_X11_hasTide : qMd := ({ frames := 1, cells := 0, slots := 0, locals := 21 }, RX11, yX11_hasTide, cX11_hasTide, 2, some .boolean)
def m_X11_rimLevel : qMd := ({ frames := 0, cells := 0, slots := 0, locals := 0 }, RX11, yX11_rimLevel, cX11_rimLevel, 3, some .int)
def m_X11_leadRim : qMd := ({ frames := 1, cells := 0, slots := 0, locals := 22 }, RX11, yX11_leadRim, cX11_leadRim, 5, none)
def m_X11_leading : qMd := ({ frames := 3, cells := 0, slots := 0, locals := 67 }, RX11, yX11_leading, cX11_leading, 6, some .int)
def m_X11_drifts : qMd := ({ frames := 4, cells := 0, slots := 0, locals := 92 }, RX11, yX11_drifts, cX11_drifts, 8, some .int)
def m_X11_write : qMd := ({ frames := 0, cells := 0, slots := 0, locals := 0 }, RX11, yX11_write, cX11_write, 4, none)
def m_X11_stepOnce : qMd := ({ frames := 5, cells := 0, slots := 0, locals := 119 }, RX11, yX11_stepOnce, cX11_stepOnce, 5, some .boolean)
def m_X11_step : qMd := ({ frames := 6, cells := 0, slots := 0, locals := 143 }, RX11, yX11_step, cX11_step, 5, some .int)
def m_X11_sumOf : qMd := ({ frames := 0, cells := 0, slots := 0, locals := 0 }, RX11, yX11_sumOf, cX11_sumOf, 6, some .int)
def m_X11_dry : qMd := ({ frames := 1, cells := 0, slots := 0, locals := 21 }, RX11, yX11_dry, cX11_dry, 4, some .int)
def m_X11_tells : qMd := ({ frames := 2, cells := 0, slots := 0, locals := 44 }, RX11, yX11_tells, cX11_tells, 3, some .int)
def m_X11_told : qMd := ({ frames := 3, cells := 0, slots := 0, locals := 66 }, RX11, yX11_told, cX11_told, 4, some .int)
def m_X11_mark : qMd := ({ frames := 3, cells := 0, slots := 0, locals := 63 }, RX11, yX11_mark, cX11_mark, 4, some .int)
def m_X11_bring : qMd := ({ frames := 1, cells := 0, slots := 0, locals := 26 }, RX11, yX11_bring, cX11_bring, 4, none)
def m_X11_liesIn : qMd := ({ frames := 0, cells := 0, slots := 0, locals := 0 }, RX11, yX11_liesIn, cX11_liesIn, 4, some .boolean)
def m_X11_keep : qMd := ({ frames := 3, cells := 0, slots := 0, locals := 63 }, RX11, yX11_keep, cX11_keep, 4, some .int)
def m_X11_turned : qMd := ({ frames := 0, cells := 0, slots := 0, locals := 0 }, RX11, yX11_turned, cX11_turned, 3, some .int)
def m_X11_mirror : qMd := ({ frames := 3, cells := 0, slots := 0, locals := 63 }, RX11, yX11_mirror, cX11_mirror, 6, some .int)
def m_X11_isEight : qMd := ({ frames := 1, cells := 0, slots := 0, locals := 22 }, RX11, yX11_isEight, cX11_isEight, 1, some .boolean)
def m_X11_boat : qMd := ({ frames := 4, cells := 0, slots := 0, locals := 86 }, RX11, yX11_boat, cX11_boat, 7, some .int)
def m_X11_where : qMd := ({ frames := 2, cells := 0, slots := 0, locals := 42 }, RX11, yX11_where, cX11_where, 2, some .int)
def m_X11_gauge : qMd := ({ frames := 4, cells := 0, slots := 0, locals := 86 }, RX11, yX11_gauge, cX11_gauge, 6, some .int)
def m_X11_has : qMd := ({ frames := 1, cells := 0, slots := 0, locals := 22 }, RX11, yX11_has, cX11_has, 3, some .boolean)
def m_X11_reading : qMd := ({ frames := 2, cells := 0, slots := 0, locals := 44 }, RX11, yX11_reading, cX11_reading, 3, some .int)
def m_X11_lose : qMd := ({ frames := 2, cells := 0, slots := 0, locals := 44 }, RX11, yX11_lose, cX11_lose, 3, some .int)
def m_X11_sums : qMd := ({ frames := 0, cells := 0, slots := 0, locals := 0 }, RX11, yX11_sums, cX11_sums, 6, some .boolean)
def m_X11_strong : qMd := ({ frames := 0, cells := 0, slots := 0, locals := 0 }, RX11, yX11_strong, cX11_strong, 1, some .long)
def m_X11_tone : qMd := ({ frames := 2, cells := 0, slots := 0, locals := 42 }, RX11, yX11_tone, cX11_tone, 3, some .int)
def m_X11_theTone : qMd := ({ frames := 2, cells := 0, slots := 0, locals := 42 }, RX11, yX11_theTone, cX11_theTone, 6, some .int)
def m_X11_part : qMd := ({ frames := 1, cells := 0, slots := 0, locals := 22 }, RX11, yX11_part, cX11_part, 2, some .int)
def m_X11_beneath : qMd := ({ frames := 0, cells := 0, slots := 0, locals := 0 }, RX11, yX11_beneath, cX11_beneath, 4, some .int)
def m_X11_fine : qMd := ({ frames := 0, cells := 0, slots := 0, locals := 0 }, RX11, yX11_fine, cX11_fine, 5, some .int)
def m_X11_nest : qMd := ({ frames := 3, cells := 0, slots := 0, locals := 63 }, RX11, yX11_nest, cX11_nest, 11, some .int)
def m_X11_askedNest : qMd := ({ frames := 3, cells := 0, slots := 0, locals := 63 }, RX11, yX11_askedNest, cX11_askedNest, 3, some .int)
def m_X11_up : qMd := ({ frames := 4, cells := 0, slots := 0, locals := 85 }, RX11, yX11_up, cX11_up, 8, some .int)
def m_X11_down : qMd := ({ frames := 4, cells := 0, slots := 0, locals := 85 }, RX11, yX11_down, cX11_down, 12, some .int)
def m_X11_tryPulls : qMd := ({ frames := 6, cells := 0, slots := 0, locals := 143 }, RX11, yX11_tryPulls, cX11_tryPulls, 11, none)
def m_X11_askedFit : qMd := ({ frames := 2, cells := 0, slots := 0, locals := 44 }, RX11, yX11_askedFit, cX11_askedFit, 4, some .int)
def m_X11_bestPull : qMd := ({ frames := 0, cells := 0, slots := 0, locals := 0 }, RX11, yX11_bestPull, cX11_bestPull, 3, some .int)
def m_X11_fit : qMd := ({ frames := 7, cells := 0, slots := 0, locals := 173 }, RX11, yX11_fit, cX11_fit, 6, some .int)
def m_X11_ends : qMd := ({ frames := 7, cells := 0, slots := 0, locals := 173 }, RX11, yX11_ends, cX11_ends, 10, some .int)
def m_X11_turnGate : qMd := ({ frames := 3, cells := 0, slots := 0, locals := 67 }, RX11, yX11_turnGate, cX11_turnGate, 3, none)
def m_X11_plays : qMd := ({ frames := 6, cells := 0, slots := 0, locals := 143 }, RX11, yX11_plays, cX11_plays, 9, some .int)
def m_X11_play : qMd := ({ frames := 7, cells := 0, slots := 0, locals := 171 }, RX11, yX11_play, cX11_play, 3, some .int)
def m_X11_world : qMd := ({ frames := 3, cells := 0, slots := 0, locals := 73 }, RX11, yX11_world, cX11_world, 4, some .int)
def m_X11_forget : qMd := ({ frames := 0, cells := 0, slots := 0, locals := 0 }, RX11, yX11_forget, cX11_forget, 2, some .int)
def m_X11_allWeights : qMd := ({ frames := 1, cells := 0, slots := 0, locals := 25 }, RX11, yX11_allWeights, cX11_allWeights, 1, some .int)
def m_X11_alarmOf : qMd := ({ frames := 7, cells := 0, slots := 0, locals := 171 }, RX11, yX11_alarmOf, cX11_alarmOf, 6, some .int)
def m_X11_askedAlarm : qMd := ({ frames := 4, cells := 0, slots := 0, locals := 86 }, RX11, yX11_askedAlarm, cX11_askedAlarm, 5, some .int)
def m_X11_alarm : qMd := ({ frames := 8, cells := 0, slots := 0, locals := 196 }, RX11, yX11_alarm, cX11_alarm, 5, some .int)
def m_X11_post : qMd := ({ frames := 4, cells := 0, slots := 0, locals := 90 }, RX11, yX11_post, cX11_post, 4, some .int)
def m_X11_bits : qMd := ({ frames := 0, cells := 0, slots := 0, locals := 0 }, RX11, yX11_bits, cX11_bits, 3, some .int)
def m_X11_gates : qMd := ({ frames := 8, cells := 0, slots := 0, locals := 196 }, RX11, yX11_gates, cX11_gates, 9, some .int)
def m_X11_asked : qMd := ({ frames := 0, cells := 0, slots := 0, locals := 0 }, RX11, yX11_asked, cX11_asked, 1, some .int)
def m_X11_strength : qMd := ({ frames := 0, cells := 0, slots := 0, locals := 0 }, RX11, yX11_strength, cX11_strength, 1, some .long)
def m_X11_upper : qMd := ({ frames := 0, cells := 0, slots := 0, locals := 0 }, RX11, yX11_upper, cX11_upper, 1, some .long)
def m_X11_lower : qMd := ({ frames := 0, cells := 0, slots := 0, locals := 0 }, RX11, yX11_lower, cX11_lower, 1, some .long)
def m_X11_count : qMd := ({ frames := 1, cells := 0, slots := 0, locals := 22 }, RX11, yX11_count, cX11_count, 4, some .int)
def m_X11_finding : qMd := ({ frames := 0, cells := 0, slots := 0, locals := 0 }, RX11, yX11_finding, cX11_finding, 1, some .int)
def m_X11_findings : qMd := ({ frames := 1, cells := 0, slots := 0, locals := 22 }, RX11, yX11_findings, cX11_findings, 2, some .int)
def m_X11_mix : qMd := ({ frames := 0, cells := 0, slots := 0, locals := 0 }, RX11, yX11_mix, cX11_mix, 3, none)
def m_X11_mixBoard : qMd := ({ frames := 3, cells := 0, slots := 0, locals := 67 }, RX11, yX11_mixBoard, cX11_mixBoard, 4, none)
def m_X11_mixGauge : qMd := ({ frames := 1, cells := 0, slots := 0, locals := 22 }, RX11, yX11_mixGauge, cX11_mixGauge, 3, none)
def m_X11_digest : qMd := ({ frames := 4, cells := 0, slots := 0, locals := 90 }, RX11, yX11_digest, cX11_digest, 3, some .long)
theorem wv_X3_reset : q_Wv m_X3_reset := ⟨wd_350, wd_351, wd_352, wd_353⟩
theorem pk_X3_reset : q_Pk m_X3_reset 0 := ⟨rfl, rfl, rfl, plainFor_of_name (by decide +kernel), by decide +kernel, by decide +kernel, by decide +kernel⟩
theorem wv_X0_reset : q_Wv m_X0_reset := ⟨wd_354, wd_355, wd_356, wd_357⟩
theorem pk_X0_reset : q_Pk m_X0_reset 3 := ⟨rfl, rfl, rfl, plainFor_of_name (by decide +kernel), by decide +kernel, by decide +kernel, by decide +kernel⟩
theorem wv_X3_takeOver : q_Wv m_X3_takeOver := ⟨wd_358, wd_351, wd_359, wd_360⟩
theorem pk_X3_takeOver : q_Pk m_X3_takeOver 1 := ⟨rfl, rfl, rfl, plainFor_of_name (by decide +kernel), by decide +kernel, by decide +kernel, by decide +kernel⟩
theorem wv_X5_takeOver : q_Wv m_X5_takeOver := ⟨wd_361, wd_362, wd_363, wd_364⟩
theorem pk_X5_takeOver : q_Pk m_X5_takeOver 1 := ⟨rfl, rfl, rfl, plainFor_of_name (by decide +kernel), by decide +kernel, by decide +kernel, by decide +kernel⟩
theorem wv_X0_takeOver : q_Wv m_X0_takeOver := ⟨wd_365, wd_355, wd_366, wd_367⟩
theorem pk_X0_takeOver : q_Pk m_X0_takeOver 1 := ⟨rfl, rfl, rfl, plainFor_of_name (by decide +kernel), by decide +kernel, by decide +kernel, by decide +kernel⟩
theorem wv_X0_cells : q_Wv m_X0_cells := ⟨wd_368, wd_355, wd_369, wd_370⟩
theorem pk_X0_cells : q_Pk m_X0_cells 0 := ⟨rfl, rfl, rfl, plainFor_of_name (by decide +kernel), by decide +kernel, by decide +kernel, by decide +kernel⟩
theorem wv_X0_hasCell : q_Wv m_X0_hasCell := ⟨wd_371, wd_355, wd_372, wd_373⟩
theorem pk_X0_hasCell : q_Pk m_X0_hasCell 1 := ⟨rfl, rfl, rfl, plainFor_of_name (by decide +kernel), by decide +kernel, by decide +kernel, by decide +kernel⟩
theorem wv_X0_hasSide : q_Wv m_X0_hasSide := ⟨wd_374, wd_355, wd_375, wd_376⟩
theorem pk_X0_hasSide : q_Pk m_X0_hasSide 1 := ⟨rfl, rfl, rfl, plainFor_of_name (by decide +kernel), by decide +kernel, by decide +kernel, by decide +kernel⟩
theorem wv_X0_farCell : q_Wv m_X0_farCell := ⟨wd_377, wd_355, wd_378, wd_379⟩
theorem pk_X0_farCell : q_Pk m_X0_farCell 1 := ⟨rfl, rfl, rfl, plainFor_of_name (by decide +kernel), by decide +kernel, by decide +kernel, by decide +kernel⟩
theorem wv_X0_level : q_Wv m_X0_level := ⟨wd_380, wd_355, wd_381, wd_382⟩
theorem pk_X0_level : q_Pk m_X0_level 1 := ⟨rfl, rfl, rfl, plainFor_of_name (by decide +kernel), by decide +kernel, by decide +kernel, by decide +kernel⟩
theorem wv_X0_isTidal : q_Wv m_X0_isTidal := ⟨wd_383, wd_355, wd_384, wd_385⟩
theorem pk_X0_isTidal : q_Pk m_X0_isTidal 0 := ⟨rfl, rfl, rfl, plainFor_of_name (by decide +kernel), by decide +kernel, by decide +kernel, by decide +kernel⟩
theorem wv_X0_isOf : q_Wv m_X0_isOf := ⟨wd_386, wd_355, wd_387, wd_388⟩
theorem pk_X0_isOf : q_Pk m_X0_isOf 1 := ⟨rfl, rfl, rfl, plainFor_of_name (by decide +kernel), by decide +kernel, by decide +kernel, by decide +kernel⟩
theorem wv_X7_isNumber : q_Wv m_X7_isNumber := ⟨wd_389, wd_390, wd_391, wd_392⟩
theorem pk_X7_isNumber : q_Pk m_X7_isNumber 1 := ⟨rfl, rfl, rfl, plainFor_of_name (by decide +kernel), by decide +kernel, by decide +kernel, by decide +kernel⟩
theorem wv_X0_hasTide : q_Wv m_X0_hasTide := ⟨wd_393, wd_355, wd_394, wd_395⟩
theorem pk_X0_hasTide : q_Pk m_X0_hasTide 1 := ⟨rfl, rfl, rfl, plainFor_of_name (by decide +kernel), by decide +kernel, by decide +kernel, by decide +kernel⟩
theorem wv_J9_floorMod_7cf53 : q_Wst m_J9_floorMod_7cf53 := ⟨wd_396, wd_39, wd_397⟩
theorem pk_J9_floorMod_7cf53 : q_Pk m_J9_floorMod_7cf53 2 := ⟨rfl, rfl, rfl, by decide +kernel, by decide +kernel, by decide +kernel, by decide +kernel⟩
theorem wv_X0_tideLevel : q_Wv m_X0_tideLevel := ⟨wd_398, wd_355, wd_399, wd_400⟩
theorem pk_X0_tideLevel : q_Pk m_X0_tideLevel 1 := ⟨rfl, rfl, rfl, plainFor_of_name (by decide +kernel), by decide +kernel, by decide +kernel, by decide +kernel⟩
theorem wv_X0_windAt : q_Wv m_X0_windAt := ⟨wd_401, wd_355, wd_402, wd_403⟩
theorem pk_X0_windAt : q_Pk m_X0_windAt 1 := ⟨rfl, rfl, rfl, plainFor_of_name (by decide +kernel), by decide +kernel, by decide +kernel, by decide +kernel⟩
theorem wv_X0_shutPosts : q_Wv m_X0_shutPosts := ⟨wd_404, wd_355, wd_405, wd_406⟩
theorem pk_X0_shutPosts : q_Pk m_X0_shutPosts 1 := ⟨rfl, rfl, rfl, plainFor_of_name (by decide +kernel), by decide +kernel, by decide +kernel, by decide +kernel⟩
theorem wv_X5_bringHundredths : q_Wv m_X5_bringHundredths := ⟨wd_407, wd_362, wd_408, wd_409⟩
theorem pk_X5_bringHundredths : q_Pk m_X5_bringHundredths 1 := ⟨rfl, rfl, rfl, plainFor_of_name (by decide +kernel), by decide +kernel, by decide +kernel, by decide +kernel⟩
theorem wv_X0_obey : q_Wv m_X0_obey := ⟨wd_410, wd_355, wd_411, wd_412⟩
theorem pk_X0_obey : q_Pk m_X0_obey 2 := ⟨rfl, rfl, rfl, plainFor_of_name (by decide +kernel), by decide +kernel, by decide +kernel, by decide +kernel⟩
theorem wv_X0_dryCells : q_Wv m_X0_dryCells := ⟨wd_413, wd_355, wd_414, wd_415⟩
theorem pk_X0_dryCells : q_Pk m_X0_dryCells 0 := ⟨rfl, rfl, rfl, plainFor_of_name (by decide +kernel), by decide +kernel, by decide +kernel, by decide +kernel⟩
theorem ws_X0_sum : Cond.selects RX0 yX0_sum yX0_sum ∈ q_tb := q_tb_of (q_tp 23 (by decide +kernel)) rfl
theorem wv_X0_sum : q_Wv m_X0_sum := ⟨wd_416, wd_355, wd_417, ws_X0_sum⟩
theorem pk_X0_sum : q_Pk m_X0_sum 2 := ⟨rfl, rfl, rfl, plainFor_of_name (by decide +kernel), by decide +kernel, by decide +kernel, by decide +kernel⟩
theorem wv_X0_tells : q_Wv m_X0_tells := ⟨wd_418, wd_355, wd_419, wd_420⟩
theorem pk_X0_tells : q_Pk m_X0_tells 1 := ⟨rfl, rfl, rfl, plainFor_of_name (by decide +kernel), by decide +kernel, by decide +kernel, by decide +kernel⟩
theorem wv_X0_allRests : q_Wv m_X0_allRests := ⟨wd_421, wd_355, wd_422, wd_423⟩
theorem pk_X0_allRests : q_Pk m_X0_allRests 0 := ⟨rfl, rfl, rfl, plainFor_of_name (by decide +kernel), by decide +kernel, by decide +kernel, by decide +kernel⟩
theorem wv_X0_opposite : q_Wv m_X0_opposite := ⟨wd_424, wd_355, wd_425, wd_426⟩
theorem pk_X0_opposite : q_Pk m_X0_opposite 1 := ⟨rfl, rfl, rfl, plainFor_of_name (by decide +kernel), by decide +kernel, by decide +kernel, by decide +kernel⟩
theorem wv_X0_swap : q_Wst m_X0_swap := ⟨wd_427, wd_355, wd_428⟩
theorem pk_X0_swap : q_Pk m_X0_swap 3 := ⟨rfl, rfl, rfl, plainFor_of_name (by decide +kernel), by decide +kernel, by decide +kernel, by decide +kernel⟩
theorem ws_X0_swapShut : Cond.selects RX0 yX0_swapShut yX0_swapShut ∈ q_tb := q_tb_of (q_tp 27 (by decide +kernel)) rfl
theorem wv_X0_swapShut : q_Wv m_X0_swapShut := ⟨wd_429, wd_355, wd_430, ws_X0_swapShut⟩
theorem pk_X0_swapShut : q_Pk m_X0_swapShut 2 := ⟨rfl, rfl, rfl, plainFor_of_name (by decide +kernel), by decide +kernel, by decide +kernel, by decide +kernel⟩
theorem ws_X0_swapCells : Cond.selects RX0 yX0_swapCells yX0_swapCells ∈ q_tb := q_tb_of (q_tp 26 (by decide +kernel)) rfl
theorem wv_X0_swapCells : q_Wv m_X0_swapCells := ⟨wd_431, wd_355, wd_432, ws_X0_swapCells⟩
theorem pk_X0_swapCells : q_Pk m_X0_swapCells 2 := ⟨rfl, rfl, rfl, plainFor_of_name (by decide +kernel), by decide +kernel, by decide +kernel, by decide +kernel⟩
theorem ws_X0_swapRightSides : Cond.selects RX0 yX0_swapRightSides yX0_swapRightSides ∈ q_tb := q_tb_of (q_tp 28 (by decide +kernel)) rfl
theorem wv_X0_swapRightSides : q_Wv m_X0_swapRightSides := ⟨wd_433, wd_355, wd_434, ws_X0_swapRightSides⟩
theorem pk_X0_swapRightSides : q_Pk m_X0_swapRightSides 2 := ⟨rfl, rfl, rfl, plainFor_of_name (by decide +kernel), by decide +kernel, by decide +kernel, by decide +kernel⟩
theorem wv_X0_turn : q_Wv m_X0_turn := ⟨wd_435, wd_355, wd_436, wd_437⟩
theorem pk_X0_turn : q_Pk m_X0_turn 0 := ⟨rfl, rfl, rfl, plainFor_of_name (by decide +kernel), by decide +kernel, by decide +kernel, by decide +kernel⟩
theorem ws_X0_underCell : Cond.selects RX0 yX0_underCell yX0_underCell ∈ q_tb := q_tb_of (q_tp 30 (by decide +kernel)) rfl
theorem wv_X0_underCell : q_Wv m_X0_underCell := ⟨wd_438, wd_355, wd_439, ws_X0_underCell⟩
theorem pk_X0_underCell : q_Pk m_X0_underCell 2 := ⟨rfl, rfl, rfl, plainFor_of_name (by decide +kernel), by decide +kernel, by decide +kernel, by decide +kernel⟩
theorem ws_X0_fineCell : Cond.selects RX0 yX0_fineCell yX0_fineCell ∈ q_tb := q_tb_of (q_tp 31 (by decide +kernel)) rfl
theorem wv_X0_fineCell : q_Wv m_X0_fineCell := ⟨wd_440, wd_355, wd_441, ws_X0_fineCell⟩
theorem pk_X0_fineCell : q_Pk m_X0_fineCell 2 := ⟨rfl, rfl, rfl, plainFor_of_name (by decide +kernel), by decide +kernel, by decide +kernel, by decide +kernel⟩
theorem wv_X0_layOn : q_Wv m_X0_layOn := ⟨wd_442, wd_355, wd_443, wd_444⟩
theorem pk_X0_layOn : q_Pk m_X0_layOn 1 := ⟨rfl, rfl, rfl, plainFor_of_name (by decide +kernel), by decide +kernel, by decide +kernel, by decide +kernel⟩
theorem wv_J9_floorDiv_7cf53 : q_Wst m_J9_floorDiv_7cf53 := ⟨wd_445, wd_39, wd_446⟩
theorem pk_J9_floorDiv_7cf53 : q_Pk m_J9_floorDiv_7cf53 2 := ⟨rfl, rfl, rfl, by decide +kernel, by decide +kernel, by decide +kernel, by decide +kernel⟩
theorem wv_X0_giveUp : q_Wv m_X0_giveUp := ⟨wd_447, wd_355, wd_448, wd_449⟩
theorem pk_X0_giveUp : q_Pk m_X0_giveUp 1 := ⟨rfl, rfl, rfl, plainFor_of_name (by decide +kernel), by decide +kernel, by decide +kernel, by decide +kernel⟩
theorem ws_X0_unfilled : Cond.selects RX0 yX0_unfilled yX0_unfilled ∈ q_tb := q_tb_of (q_tp 33 (by decide +kernel)) rfl
theorem wv_X0_unfilled : q_Wv m_X0_unfilled := ⟨wd_450, wd_355, wd_451, ws_X0_unfilled⟩
theorem pk_X0_unfilled : q_Pk m_X0_unfilled 2 := ⟨rfl, rfl, rfl, plainFor_of_name (by decide +kernel), by decide +kernel, by decide +kernel, by decide +kernel⟩
theorem wv_X0_takeDown : q_Wv m_X0_takeDown := ⟨wd_452, wd_355, wd_453, wd_454⟩
theorem pk_X0_takeDown : q_Pk m_X0_takeDown 1 := ⟨rfl, rfl, rfl, plainFor_of_name (by decide +kernel), by decide +kernel, by decide +kernel, by decide +kernel⟩
theorem wv_X0_digested : q_Wv m_X0_digested := ⟨wd_455, wd_355, wd_456, wd_457⟩
theorem pk_X0_digested : q_Pk m_X0_digested 1 := ⟨rfl, rfl, rfl, plainFor_of_name (by decide +kernel), by decide +kernel, by decide +kernel, by decide +kernel⟩
theorem wv_X1_drift : q_Wv m_X1_drift := ⟨wd_458, wd_459, wd_460, wd_461⟩
theorem pk_X1_drift : q_Pk m_X1_drift 1 := ⟨rfl, rfl, rfl, plainFor_of_name (by decide +kernel), by decide +kernel, by decide +kernel, by decide +kernel⟩
theorem wv_X1_digested : q_Wv m_X1_digested := ⟨wd_462, wd_459, wd_463, wd_464⟩
theorem pk_X1_digested : q_Pk m_X1_digested 1 := ⟨rfl, rfl, rfl, plainFor_of_name (by decide +kernel), by decide +kernel, by decide +kernel, by decide +kernel⟩
theorem wv_X2_place : q_Wv m_X2_place := ⟨wd_465, wd_466, wd_467, wd_468⟩
theorem pk_X2_place : q_Pk m_X2_place 2 := ⟨rfl, rfl, rfl, plainFor_of_name (by decide +kernel), by decide +kernel, by decide +kernel, by decide +kernel⟩
theorem wv_X2_fromOldest : q_Wv m_X2_fromOldest := ⟨wd_469, wd_466, wd_470, wd_471⟩
theorem pk_X2_fromOldest : q_Pk m_X2_fromOldest 1 := ⟨rfl, rfl, rfl, plainFor_of_name (by decide +kernel), by decide +kernel, by decide +kernel, by decide +kernel⟩
theorem wv_X2_read : q_Wv m_X2_read := ⟨wd_472, wd_466, wd_473, wd_474⟩
theorem pk_X2_read : q_Pk m_X2_read 1 := ⟨rfl, rfl, rfl, plainFor_of_name (by decide +kernel), by decide +kernel, by decide +kernel, by decide +kernel⟩
theorem wv_X2_placeOf : q_Wv m_X2_placeOf := ⟨wd_475, wd_466, wd_476, wd_477⟩
theorem pk_X2_placeOf : q_Pk m_X2_placeOf 1 := ⟨rfl, rfl, rfl, plainFor_of_name (by decide +kernel), by decide +kernel, by decide +kernel, by decide +kernel⟩
theorem wv_X2_kept : q_Wv m_X2_kept := ⟨wd_478, wd_466, wd_479, wd_480⟩
theorem pk_X2_kept : q_Pk m_X2_kept 0 := ⟨rfl, rfl, rfl, plainFor_of_name (by decide +kernel), by decide +kernel, by decide +kernel, by decide +kernel⟩
theorem wv_X2_digested : q_Wv m_X2_digested := ⟨wd_481, wd_466, wd_482, wd_483⟩
theorem pk_X2_digested : q_Pk m_X2_digested 1 := ⟨rfl, rfl, rfl, plainFor_of_name (by decide +kernel), by decide +kernel, by decide +kernel, by decide +kernel⟩
theorem wv_X6_open : q_Wv m_X6_open := ⟨wd_484, wd_485, wd_486, wd_487⟩
theorem pk_X6_open : q_Pk m_X6_open 2 := ⟨rfl, rfl, rfl, plainFor_of_name (by decide +kernel), by decide +kernel, by decide +kernel, by decide +kernel⟩
theorem ws_X6_digitAhead : Cond.selects RX6 yX6_digitAhead yX6_digitAhead ∈ q_tb := q_tb_of (q_tp 6 (by decide +kernel)) rfl
theorem wv_X6_digitAhead : q_Wv m_X6_digitAhead := ⟨wd_488, wd_485, wd_489, ws_X6_digitAhead⟩
theorem pk_X6_digitAhead : q_Pk m_X6_digitAhead 0 := ⟨rfl, rfl, rfl, plainFor_of_name (by decide +kernel), by decide +kernel, by decide +kernel, by decide +kernel⟩
theorem ws_X6_failed : Cond.selects RX6 yX6_failed yX6_failed ∈ q_tb := q_tb_of (q_tp 5 (by decide +kernel)) rfl
theorem wv_X6_failed : q_Wv m_X6_failed := ⟨wd_490, wd_485, wd_491, ws_X6_failed⟩
theorem pk_X6_failed : q_Pk m_X6_failed 1 := ⟨rfl, rfl, rfl, plainFor_of_name (by decide +kernel), by decide +kernel, by decide +kernel, by decide +kernel⟩
theorem ws_X6_greatest : Cond.selects RX6 yX6_greatest yX6_greatest ∈ q_tb := q_tb_of (q_tp 4 (by decide +kernel)) rfl
theorem wv_X6_greatest : q_Wv m_X6_greatest := ⟨wd_492, wd_485, wd_493, ws_X6_greatest⟩
theorem pk_X6_greatest : q_Pk m_X6_greatest 0 := ⟨rfl, rfl, rfl, plainFor_of_name (by decide +kernel), by decide +kernel, by decide +kernel, by decide +kernel⟩
theorem ws_X6_least : Cond.selects RX6 yX6_least yX6_least ∈ q_tb := q_tb_of (q_tp 7 (by decide +kernel)) rfl
theorem wv_X6_least : q_Wv m_X6_least := ⟨wd_494, wd_485, wd_495, ws_X6_least⟩
theorem pk_X6_least : q_Pk m_X6_least 0 := ⟨rfl, rfl, rfl, plainFor_of_name (by decide +kernel), by decide +kernel, by decide +kernel, by decide +kernel⟩
theorem wv_X6_stepsOfItem : q_Wv m_X6_stepsOfItem := ⟨wd_496, wd_485, wd_497, wd_498⟩
theorem pk_X6_stepsOfItem : q_Pk m_X6_stepsOfItem 0 := ⟨rfl, rfl, rfl, plainFor_of_name (by decide +kernel), by decide +kernel, by decide +kernel, by decide +kernel⟩
theorem wv_X6_next : q_Wv m_X6_next := ⟨wd_499, wd_485, wd_500, wd_501⟩
theorem pk_X6_next : q_Pk m_X6_next 0 := ⟨rfl, rfl, rfl, plainFor_of_name (by decide +kernel), by decide +kernel, by decide +kernel, by decide +kernel⟩
theorem wv_X7_isThere : q_Wv m_X7_isThere := ⟨wd_502, wd_390, wd_503, wd_504⟩
theorem pk_X7_isThere : q_Pk m_X7_isThere 1 := ⟨rfl, rfl, rfl, plainFor_of_name (by decide +kernel), by decide +kernel, by decide +kernel, by decide +kernel⟩
theorem wv_X7_hasPlace : q_Wv m_X7_hasPlace := ⟨wd_505, wd_390, wd_506, wd_507⟩
theorem pk_X7_hasPlace : q_Pk m_X7_hasPlace 2 := ⟨rfl, rfl, rfl, plainFor_of_name (by decide +kernel), by decide +kernel, by decide +kernel, by decide +kernel⟩
theorem wv_X7_hasRun : q_Wv m_X7_hasRun := ⟨wd_508, wd_390, wd_509, wd_510⟩
theorem pk_X7_hasRun : q_Pk m_X7_hasRun 3 := ⟨rfl, rfl, rfl, plainFor_of_name (by decide +kernel), by decide +kernel, by decide +kernel, by decide +kernel⟩
theorem wv_X7_make : q_Wv m_X7_make := ⟨wd_511, wd_390, wd_512, wd_513⟩
theorem pk_X7_make : q_Pk m_X7_make 3 := ⟨rfl, rfl, rfl, plainFor_of_name (by decide +kernel), by decide +kernel, by decide +kernel, by decide +kernel⟩
theorem wv_X7_remove : q_Wv m_X7_remove := ⟨wd_514, wd_390, wd_515, wd_516⟩
theorem pk_X7_remove : q_Pk m_X7_remove 1 := ⟨rfl, rfl, rfl, plainFor_of_name (by decide +kernel), by decide +kernel, by decide +kernel, by decide +kernel⟩
theorem wv_X7_howMany : q_Wv m_X7_howMany := ⟨wd_517, wd_390, wd_518, wd_519⟩
theorem pk_X7_howMany : q_Pk m_X7_howMany 0 := ⟨rfl, rfl, rfl, plainFor_of_name (by decide +kernel), by decide +kernel, by decide +kernel, by decide +kernel⟩
theorem wv_X7_digested : q_Wv m_X7_digested := ⟨wd_520, wd_390, wd_521, wd_522⟩
theorem pk_X7_digested : q_Pk m_X7_digested 1 := ⟨rfl, rfl, rfl, plainFor_of_name (by decide +kernel), by decide +kernel, by decide +kernel, by decide +kernel⟩
theorem ws_X8_addRivers : Cond.selects RX8 yX8_addRivers yX8_addRivers ∈ q_tb := q_tb_of (q_tp 20 (by decide +kernel)) rfl
theorem wv_X8_addRivers : q_Wv m_X8_addRivers := ⟨wd_523, wd_524, wd_525, ws_X8_addRivers⟩
theorem pk_X8_addRivers : q_Pk m_X8_addRivers 1 := ⟨rfl, rfl, rfl, plainFor_of_name (by decide +kernel), by decide +kernel, by decide +kernel, by decide +kernel⟩
theorem wv_X8_share : q_Wst m_X8_share := ⟨wd_526, wd_524, wd_527⟩
theorem pk_X8_share : q_Pk m_X8_share 3 := ⟨rfl, rfl, rfl, plainFor_of_name (by decide +kernel), by decide +kernel, by decide +kernel, by decide +kernel⟩
theorem ws_X8_source : Cond.selects RX8 yX8_source yX8_source ∈ q_tb := q_tb_of (q_tp 18 (by decide +kernel)) rfl
theorem wv_X8_source : q_Wv m_X8_source := ⟨wd_528, wd_524, wd_529, ws_X8_source⟩
theorem pk_X8_source : q_Pk m_X8_source 2 := ⟨rfl, rfl, rfl, plainFor_of_name (by decide +kernel), by decide +kernel, by decide +kernel, by decide +kernel⟩
theorem ws_X8_carryStuff : Cond.selects RX8 yX8_carryStuff yX8_carryStuff ∈ q_tb := q_tb_of (q_tp 22 (by decide +kernel)) rfl
theorem wv_X8_carryStuff : q_Wv m_X8_carryStuff := ⟨wd_530, wd_524, wd_531, ws_X8_carryStuff⟩
theorem pk_X8_carryStuff : q_Pk m_X8_carryStuff 2 := ⟨rfl, rfl, rfl, plainFor_of_name (by decide +kernel), by decide +kernel, by decide +kernel, by decide +kernel⟩
theorem wv_X8_leadRim : q_Wst m_X8_leadRim := ⟨wd_532, wd_524, wd_533⟩
theorem pk_X8_leadRim : q_Pk m_X8_leadRim 2 := ⟨rfl, rfl, rfl, plainFor_of_name (by decide +kernel), by decide +kernel, by decide +kernel, by decide +kernel⟩
theorem ws_X8_limitFlows : Cond.selects RX8 yX8_limitFlows yX8_limitFlows ∈ q_tb := q_tb_of (q_tp 17 (by decide +kernel)) rfl
theorem wv_X8_limitFlows : q_Wv m_X8_limitFlows := ⟨wd_534, wd_524, wd_535, ws_X8_limitFlows⟩
theorem pk_X8_limitFlows : q_Pk m_X8_limitFlows 1 := ⟨rfl, rfl, rfl, plainFor_of_name (by decide +kernel), by decide +kernel, by decide +kernel, by decide +kernel⟩
theorem ws_X8_moveWater : Cond.selects RX8 yX8_moveWater yX8_moveWater ∈ q_tb := q_tb_of (q_tp 19 (by decide +kernel)) rfl
theorem wv_X8_moveWater : q_Wv m_X8_moveWater := ⟨wd_536, wd_524, wd_537, ws_X8_moveWater⟩
theorem pk_X8_moveWater : q_Pk m_X8_moveWater 1 := ⟨rfl, rfl, rfl, plainFor_of_name (by decide +kernel), by decide +kernel, by decide +kernel, by decide +kernel⟩
theorem ws_X8_pushed : Cond.selects RX8 yX8_pushed yX8_pushed ∈ q_tb := q_tb_of (q_tp 16 (by decide +kernel)) rfl
theorem wv_X8_pushed : q_Wv m_X8_pushed := ⟨wd_538, wd_524, wd_539, ws_X8_pushed⟩
theorem pk_X8_pushed : q_Pk m_X8_pushed 2 := ⟨rfl, rfl, rfl, plainFor_of_name (by decide +kernel), by decide +kernel, by decide +kernel, by decide +kernel⟩
theorem ws_X8_pushFlows : Cond.selects RX8 yX8_pushFlows yX8_pushFlows ∈ q_tb := q_tb_of (q_tp 15 (by decide +kernel)) rfl
theorem wv_X8_pushFlows : q_Wv m_X8_pushFlows := ⟨wd_540, wd_524, wd_541, ws_X8_pushFlows⟩
theorem pk_X8_pushFlows : q_Pk m_X8_pushFlows 1 := ⟨rfl, rfl, rfl, plainFor_of_name (by decide +kernel), by decide +kernel, by decide +kernel, by decide +kernel⟩
theorem ws_X8_tooMuch : Cond.selects RX8 yX8_tooMuch yX8_tooMuch ∈ q_tb := q_tb_of (q_tp 21 (by decide +kernel)) rfl
theorem wv_X8_tooMuch : q_Wv m_X8_tooMuch := ⟨wd_542, wd_524, wd_543, ws_X8_tooMuch⟩
theorem pk_X8_tooMuch : q_Pk m_X8_tooMuch 1 := ⟨rfl, rfl, rfl, plainFor_of_name (by decide +kernel), by decide +kernel, by decide +kernel, by decide +kernel⟩
theorem wv_X8_advance : q_Wv m_X8_advance := ⟨wd_544, wd_524, wd_545, wd_546⟩
theorem pk_X8_advance : q_Pk m_X8_advance 2 := ⟨rfl, rfl, rfl, plainFor_of_name (by decide +kernel), by decide +kernel, by decide +kernel, by decide +kernel⟩
theorem wv_X9_signed : q_Wst m_X9_signed := ⟨wd_547, wd_548, wd_549⟩
theorem pk_X9_signed : q_Pk m_X9_signed 3 := ⟨rfl, rfl, rfl, plainFor_of_name (by decide +kernel), by decide +kernel, by decide +kernel, by decide +kernel⟩
theorem wv_X9_hear : q_Wv m_X9_hear := ⟨wd_550, wd_548, wd_551, wd_552⟩
theorem pk_X9_hear : q_Pk m_X9_hear 2 := ⟨rfl, rfl, rfl, plainFor_of_name (by decide +kernel), by decide +kernel, by decide +kernel, by decide +kernel⟩
theorem wv_X9_power : q_Wv m_X9_power := ⟨wd_553, wd_548, wd_554, wd_555⟩
theorem pk_X9_power : q_Pk m_X9_power 0 := ⟨rfl, rfl, rfl, plainFor_of_name (by decide +kernel), by decide +kernel, by decide +kernel, by decide +kernel⟩
theorem ws_X10_found : Cond.selects RX10 yX10_found yX10_found ∈ q_tb := q_tb_of (q_tp 0 (by decide +kernel)) rfl
theorem wv_X10_found : q_Wv m_X10_found := ⟨wd_556, wd_557, wd_558, ws_X10_found⟩
theorem pk_X10_found : q_Pk m_X10_found 1 := ⟨rfl, rfl, rfl, plainFor_of_name (by decide +kernel), by decide +kernel, by decide +kernel, by decide +kernel⟩
theorem wv_X10_row : q_Wv m_X10_row := ⟨wd_559, wd_557, wd_560, wd_561⟩
theorem pk_X10_row : q_Pk m_X10_row 2 := ⟨rfl, rfl, rfl, plainFor_of_name (by decide +kernel), by decide +kernel, by decide +kernel, by decide +kernel⟩
theorem wv_X10_within : q_Wst m_X10_within := ⟨wd_562, wd_557, wd_563⟩
theorem pk_X10_within : q_Pk m_X10_within 3 := ⟨rfl, rfl, rfl, plainFor_of_name (by decide +kernel), by decide +kernel, by decide +kernel, by decide +kernel⟩
theorem wv_X10_lay : q_Wv m_X10_lay := ⟨wd_564, wd_557, wd_565, wd_566⟩
theorem pk_X10_lay : q_Pk m_X10_lay 3 := ⟨rfl, rfl, rfl, plainFor_of_name (by decide +kernel), by decide +kernel, by decide +kernel, by decide +kernel⟩
theorem ws_X10_removed : Cond.selects RX10 yX10_removed yX10_removed ∈ q_tb := q_tb_of (q_tp 1 (by decide +kernel)) rfl
theorem wv_X10_removed : q_Wv m_X10_removed := ⟨wd_567, wd_557, wd_568, ws_X10_removed⟩
theorem pk_X10_removed : q_Pk m_X10_removed 2 := ⟨rfl, rfl, rfl, plainFor_of_name (by decide +kernel), by decide +kernel, by decide +kernel, by decide +kernel⟩
theorem wv_X10_tear : q_Wv m_X10_tear := ⟨wd_569, wd_557, wd_570, wd_571⟩
theorem pk_X10_tear : q_Pk m_X10_tear 1 := ⟨rfl, rfl, rfl, plainFor_of_name (by decide +kernel), by decide +kernel, by decide +kernel, by decide +kernel⟩
theorem wv_X10_copy : q_Wv m_X10_copy := ⟨wd_572, wd_557, wd_573, wd_574⟩
theorem pk_X10_copy : q_Pk m_X10_copy 5 := ⟨rfl, rfl, rfl, plainFor_of_name (by decide +kernel), by decide +kernel, by decide +kernel, by decide +kernel⟩
theorem ws_X10_knownPlaces : Cond.selects RX10 yX10_knownPlaces yX10_knownPlaces ∈ q_tb := q_tb_of (q_tp 2 (by decide +kernel)) rfl
theorem wv_X10_knownPlaces : q_Wv m_X10_knownPlaces := ⟨wd_575, wd_557, wd_576, ws_X10_knownPlaces⟩
theorem pk_X10_knownPlaces : q_Pk m_X10_knownPlaces 1 := ⟨rfl, rfl, rfl, plainFor_of_name (by decide +kernel), by decide +kernel, by decide +kernel, by decide +kernel⟩
theorem wv_X10_mean : q_Wv m_X10_mean := ⟨wd_577, wd_557, wd_578, wd_579⟩
theorem pk_X10_mean : q_Pk m_X10_mean 1 := ⟨rfl, rfl, rfl, plainFor_of_name (by decide +kernel), by decide +kernel, by decide +kernel, by decide +kernel⟩
theorem wv_X10_text : q_Wv m_X10_text := ⟨wd_580, wd_557, wd_581, wd_582⟩
theorem pk_X10_text : q_Pk m_X10_text 2 := ⟨rfl, rfl, rfl, plainFor_of_name (by decide +kernel), by decide +kernel, by decide +kernel, by decide +kernel⟩
theorem wv_X10_put : q_Wv m_X10_put := ⟨wd_583, wd_557, wd_584, wd_585⟩
theorem pk_X10_put : q_Pk m_X10_put 3 := ⟨rfl, rfl, rfl, plainFor_of_name (by decide +kernel), by decide +kernel, by decide +kernel, by decide +kernel⟩
theorem wv_X10_burn : q_Wv m_X10_burn := ⟨wd_586, wd_557, wd_587, wd_588⟩
theorem pk_X10_burn : q_Pk m_X10_burn 1 := ⟨rfl, rfl, rfl, plainFor_of_name (by decide +kernel), by decide +kernel, by decide +kernel, by decide +kernel⟩
theorem ws_X10_faultOf : Cond.selects RX10 yX10_faultOf yX10_faultOf ∈ q_tb := q_tb_of (q_tp 3 (by decide +kernel)) rfl
theorem wv_X10_faultOf : q_Wv m_X10_faultOf := ⟨wd_589, wd_557, wd_590, ws_X10_faultOf⟩
theorem pk_X10_faultOf : q_Pk m_X10_faultOf 1 := ⟨rfl, rfl, rfl, plainFor_of_name (by decide +kernel), by decide +kernel, by decide +kernel, by decide +kernel⟩
theorem wv_X10_fault : q_Wv m_X10_fault := ⟨wd_591, wd_557, wd_592, wd_593⟩
theorem pk_X10_fault : q_Pk m_X10_fault 1 := ⟨rfl, rfl, rfl, plainFor_of_name (by decide +kernel), by decide +kernel, by decide +kernel, by decide +kernel⟩
theorem wv_X10_isBoard : q_Wst m_X10_isBoard := ⟨wd_594, wd_557, wd_595⟩
theorem pk_X10_isBoard : q_Pk m_X10_isBoard 1 := ⟨rfl, rfl, rfl, plainFor_of_name (by decide +kernel), by decide +kernel, by decide +kernel, by decide +kernel⟩
theorem ws_X10_hasGround : Cond.selects RX10 yX10_hasGround yX10_hasGround ∈ q_tb := q_tb_of (q_tp 10 (by decide +kernel)) rfl
theorem wv_X10_hasGround : q_Wv m_X10_hasGround := ⟨wd_596, wd_557, wd_597, ws_X10_hasGround⟩
theorem pk_X10_hasGround : q_Pk m_X10_hasGround 1 := ⟨rfl, rfl, rfl, plainFor_of_name (by decide +kernel), by decide +kernel, by decide +kernel, by decide +kernel⟩
theorem ws_X10_removeBoard : Cond.selects RX10 yX10_removeBoard yX10_removeBoard ∈ q_tb := q_tb_of (q_tp 9 (by decide +kernel)) rfl
theorem wv_X10_removeBoard : q_Wv m_X10_removeBoard := ⟨wd_598, wd_557, wd_599, ws_X10_removeBoard⟩
theorem pk_X10_removeBoard : q_Pk m_X10_removeBoard 1 := ⟨rfl, rfl, rfl, plainFor_of_name (by decide +kernel), by decide +kernel, by decide +kernel, by decide +kernel⟩
theorem ws_X10_clear : Cond.selects RX10 yX10_clear yX10_clear ∈ q_tb := q_tb_of (q_tp 8 (by decide +kernel)) rfl
theorem wv_X10_clear : q_Wv m_X10_clear := ⟨wd_600, wd_557, wd_601, ws_X10_clear⟩
theorem pk_X10_clear : q_Pk m_X10_clear 1 := ⟨rfl, rfl, rfl, plainFor_of_name (by decide +kernel), by decide +kernel, by decide +kernel, by decide +kernel⟩
theorem wv_X10_board : q_Wv m_X10_board := ⟨wd_602, wd_557, wd_603, wd_604⟩
theorem pk_X10_board : q_Pk m_X10_board 4 := ⟨rfl, rfl, rfl, plainFor_of_name (by decide +kernel), by decide +kernel, by decide +kernel, by decide +kernel⟩
theorem ws_X10_boardRefused : Cond.selects RX10 yX10_boardRefused yX10_boardRefused ∈ q_tb := q_tb_of (q_tp 11 (by decide +kernel)) rfl
theorem wv_X10_boardRefused : q_Wv m_X10_boardRefused := ⟨wd_605, wd_557, wd_606, ws_X10_boardRefused⟩
theorem pk_X10_boardRefused : q_Pk m_X10_boardRefused 2 := ⟨rfl, rfl, rfl, plainFor_of_name (by decide +kernel), by decide +kernel, by decide +kernel, by decide +kernel⟩
theorem wv_X10_drop : q_Wv m_X10_drop := ⟨wd_607, wd_557, wd_608, wd_609⟩
theorem pk_X10_drop : q_Pk m_X10_drop 1 := ⟨rfl, rfl, rfl, plainFor_of_name (by decide +kernel), by decide +kernel, by decide +kernel, by decide +kernel⟩
theorem ws_X10_cellRefused : Cond.selects RX10 yX10_cellRefused yX10_cellRefused ∈ q_tb := q_tb_of (q_tp 12 (by decide +kernel)) rfl
theorem wv_X10_cellRefused : q_Wv m_X10_cellRefused := ⟨wd_610, wd_557, wd_611, ws_X10_cellRefused⟩
theorem pk_X10_cellRefused : q_Pk m_X10_cellRefused 3 := ⟨rfl, rfl, rfl, plainFor_of_name (by decide +kernel), by decide +kernel, by decide +kernel, by decide +kernel⟩
theorem wv_X10_bottom : q_Wv m_X10_bottom := ⟨wd_612, wd_557, wd_613, wd_614⟩
theorem pk_X10_bottom : q_Pk m_X10_bottom 3 := ⟨rfl, rfl, rfl, plainFor_of_name (by decide +kernel), by decide +kernel, by decide +kernel, by decide +kernel⟩
theorem wv_X10_water : q_Wv m_X10_water := ⟨wd_615, wd_557, wd_616, wd_617⟩
theorem pk_X10_water : q_Pk m_X10_water 3 := ⟨rfl, rfl, rfl, plainFor_of_name (by decide +kernel), by decide +kernel, by decide +kernel, by decide +kernel⟩
theorem wv_X10_spill : q_Wv m_X10_spill := ⟨wd_618, wd_557, wd_619, wd_620⟩
theorem pk_X10_spill : q_Pk m_X10_spill 4 := ⟨rfl, rfl, rfl, plainFor_of_name (by decide +kernel), by decide +kernel, by decide +kernel, by decide +kernel⟩
theorem wv_X10_cell : q_Wv m_X10_cell := ⟨wd_621, wd_557, wd_622, wd_623⟩
theorem pk_X10_cell : q_Pk m_X10_cell 3 := ⟨rfl, rfl, rfl, plainFor_of_name (by decide +kernel), by decide +kernel, by decide +kernel, by decide +kernel⟩
theorem ws_X10_sideRefused : Cond.selects RX10 yX10_sideRefused yX10_sideRefused ∈ q_tb := q_tb_of (q_tp 13 (by decide +kernel)) rfl
theorem wv_X10_sideRefused : q_Wv m_X10_sideRefused := ⟨wd_624, wd_557, wd_625, ws_X10_sideRefused⟩
theorem pk_X10_sideRefused : q_Pk m_X10_sideRefused 2 := ⟨rfl, rfl, rfl, plainFor_of_name (by decide +kernel), by decide +kernel, by decide +kernel, by decide +kernel⟩
theorem wv_X10_flow : q_Wv m_X10_flow := ⟨wd_626, wd_557, wd_627, wd_628⟩
theorem pk_X10_flow : q_Pk m_X10_flow 2 := ⟨rfl, rfl, rfl, plainFor_of_name (by decide +kernel), by decide +kernel, by decide +kernel, by decide +kernel⟩
theorem wv_X10_gate : q_Wv m_X10_gate := ⟨wd_629, wd_557, wd_630, wd_631⟩
theorem pk_X10_gate : q_Pk m_X10_gate 3 := ⟨rfl, rfl, rfl, plainFor_of_name (by decide +kernel), by decide +kernel, by decide +kernel, by decide +kernel⟩
theorem wv_X10_law : q_Wv m_X10_law := ⟨wd_632, wd_557, wd_633, wd_634⟩
theorem pk_X10_law : q_Pk m_X10_law 3 := ⟨rfl, rfl, rfl, plainFor_of_name (by decide +kernel), by decide +kernel, by decide +kernel, by decide +kernel⟩
theorem wv_X10_wind : q_Wv m_X10_wind := ⟨wd_635, wd_557, wd_636, wd_637⟩
theorem pk_X10_wind : q_Pk m_X10_wind 3 := ⟨rfl, rfl, rfl, plainFor_of_name (by decide +kernel), by decide +kernel, by decide +kernel, by decide +kernel⟩
theorem wv_X10_river : q_Wv m_X10_river := ⟨wd_638, wd_557, wd_639, wd_640⟩
theorem pk_X10_river : q_Pk m_X10_river 3 := ⟨rfl, rfl, rfl, plainFor_of_name (by decide +kernel), by decide +kernel, by decide +kernel, by decide +kernel⟩
theorem wv_X10_tide : q_Wv m_X10_tide := ⟨wd_641, wd_557, wd_642, wd_643⟩
theorem pk_X10_tide : q_Pk m_X10_tide 3 := ⟨rfl, rfl, rfl, plainFor_of_name (by decide +kernel), by decide +kernel, by decide +kernel, by decide +kernel⟩
theorem ws_X10_stepWhole : Cond.selects RX10 yX10_stepWhole yX10_stepWhole ∈ q_tb := q_tb_of (q_tp 14 (by decide +kernel)) rfl
theorem wv_X10_stepWhole : q_Wv m_X10_stepWhole := ⟨wd_644, wd_557, wd_645, ws_X10_stepWhole⟩
theorem pk_X10_stepWhole : q_Pk m_X10_stepWhole 1 := ⟨rfl, rfl, rfl, plainFor_of_name (by decide +kernel), by decide +kernel, by decide +kernel, by decide +kernel⟩
theorem wv_X10_step : q_Wv m_X10_step := ⟨wd_646, wd_557, wd_647, wd_648⟩
theorem pk_X10_step : q_Pk m_X10_step 2 := ⟨rfl, rfl, rfl, plainFor_of_name (by decide +kernel), by decide +kernel, by decide +kernel, by decide +kernel⟩
theorem wv_X10_told : q_Wv m_X10_told := ⟨wd_649, wd_557, wd_650, wd_651⟩
theorem pk_X10_told : q_Pk m_X10_told 2 := ⟨rfl, rfl, rfl, plainFor_of_name (by decide +kernel), by decide +kernel, by decide +kernel, by decide +kernel⟩
theorem wv_X10_mark : q_Wv m_X10_mark := ⟨wd_652, wd_557, wd_653, wd_654⟩
theorem pk_X10_mark : q_Pk m_X10_mark 2 := ⟨rfl, rfl, rfl, plainFor_of_name (by decide +kernel), by decide +kernel, by decide +kernel, by decide +kernel⟩
theorem ws_X10_liesIn : Cond.selects RX10 yX10_liesIn yX10_liesIn ∈ q_tb := q_tb_of (q_tp 24 (by decide +kernel)) rfl
theorem wv_X10_liesIn : q_Wv m_X10_liesIn := ⟨wd_655, wd_557, wd_656, ws_X10_liesIn⟩
theorem pk_X10_liesIn : q_Pk m_X10_liesIn 2 := ⟨rfl, rfl, rfl, plainFor_of_name (by decide +kernel), by decide +kernel, by decide +kernel, by decide +kernel⟩
theorem wv_X10_keep : q_Wv m_X10_keep := ⟨wd_657, wd_557, wd_658, wd_659⟩
theorem pk_X10_keep : q_Pk m_X10_keep 2 := ⟨rfl, rfl, rfl, plainFor_of_name (by decide +kernel), by decide +kernel, by decide +kernel, by decide +kernel⟩
theorem ws_X10_bearsNest : Cond.selects RX10 yX10_bearsNest yX10_bearsNest ∈ q_tb := q_tb_of (q_tp 25 (by decide +kernel)) rfl
theorem wv_X10_bearsNest : q_Wv m_X10_bearsNest := ⟨wd_660, wd_557, wd_661, ws_X10_bearsNest⟩
theorem pk_X10_bearsNest : q_Pk m_X10_bearsNest 1 := ⟨rfl, rfl, rfl, plainFor_of_name (by decide +kernel), by decide +kernel, by decide +kernel, by decide +kernel⟩
theorem wv_X10_mirror : q_Wv m_X10_mirror := ⟨wd_662, wd_557, wd_663, wd_664⟩
theorem pk_X10_mirror : q_Pk m_X10_mirror 1 := ⟨rfl, rfl, rfl, plainFor_of_name (by decide +kernel), by decide +kernel, by decide +kernel, by decide +kernel⟩
theorem wv_X10_boat : q_Wv m_X10_boat := ⟨wd_665, wd_557, wd_666, wd_667⟩
theorem pk_X10_boat : q_Pk m_X10_boat 4 := ⟨rfl, rfl, rfl, plainFor_of_name (by decide +kernel), by decide +kernel, by decide +kernel, by decide +kernel⟩
theorem wv_X10_where : q_Wv m_X10_where := ⟨wd_668, wd_557, wd_669, wd_670⟩
theorem pk_X10_where : q_Pk m_X10_where 1 := ⟨rfl, rfl, rfl, plainFor_of_name (by decide +kernel), by decide +kernel, by decide +kernel, by decide +kernel⟩
theorem wv_X10_isGauge : q_Wst m_X10_isGauge := ⟨wd_671, wd_557, wd_672⟩
theorem pk_X10_isGauge : q_Pk m_X10_isGauge 1 := ⟨rfl, rfl, rfl, plainFor_of_name (by decide +kernel), by decide +kernel, by decide +kernel, by decide +kernel⟩
theorem wv_X10_gauge : q_Wv m_X10_gauge := ⟨wd_673, wd_557, wd_674, wd_675⟩
theorem pk_X10_gauge : q_Pk m_X10_gauge 3 := ⟨rfl, rfl, rfl, plainFor_of_name (by decide +kernel), by decide +kernel, by decide +kernel, by decide +kernel⟩
theorem wv_X10_reading : q_Wv m_X10_reading := ⟨wd_676, wd_557, wd_677, wd_678⟩
theorem pk_X10_reading : q_Pk m_X10_reading 2 := ⟨rfl, rfl, rfl, plainFor_of_name (by decide +kernel), by decide +kernel, by decide +kernel, by decide +kernel⟩
theorem wv_X10_lose : q_Wv m_X10_lose := ⟨wd_679, wd_557, wd_680, wd_681⟩
theorem pk_X10_lose : q_Pk m_X10_lose 2 := ⟨rfl, rfl, rfl, plainFor_of_name (by decide +kernel), by decide +kernel, by decide +kernel, by decide +kernel⟩
theorem ws_X10_toneRefused : Cond.selects RX10 yX10_toneRefused yX10_toneRefused ∈ q_tb := q_tb_of (q_tp 29 (by decide +kernel)) rfl
theorem wv_X10_toneRefused : q_Wv m_X10_toneRefused := ⟨wd_682, wd_557, wd_683, ws_X10_toneRefused⟩
theorem pk_X10_toneRefused : q_Pk m_X10_toneRefused 2 := ⟨rfl, rfl, rfl, plainFor_of_name (by decide +kernel), by decide +kernel, by decide +kernel, by decide +kernel⟩
theorem wv_X10_tone : q_Wv m_X10_tone := ⟨wd_684, wd_557, wd_685, wd_686⟩
theorem pk_X10_tone : q_Pk m_X10_tone 2 := ⟨rfl, rfl, rfl, plainFor_of_name (by decide +kernel), by decide +kernel, by decide +kernel, by decide +kernel⟩
theorem wv_X10_theTone : q_Wv m_X10_theTone := ⟨wd_687, wd_557, wd_688, wd_689⟩
theorem pk_X10_theTone : q_Pk m_X10_theTone 1 := ⟨rfl, rfl, rfl, plainFor_of_name (by decide +kernel), by decide +kernel, by decide +kernel, by decide +kernel⟩
theorem wv_X10_part : q_Wv m_X10_part := ⟨wd_690, wd_557, wd_691, wd_692⟩
theorem pk_X10_part : q_Pk m_X10_part 1 := ⟨rfl, rfl, rfl, plainFor_of_name (by decide +kernel), by decide +kernel, by decide +kernel, by decide +kernel⟩
theorem wv_X10_nest : q_Wv m_X10_nest := ⟨wd_693, wd_557, wd_694, wd_695⟩
theorem pk_X10_nest : q_Pk m_X10_nest 6 := ⟨rfl, rfl, rfl, plainFor_of_name (by decide +kernel), by decide +kernel, by decide +kernel, by decide +kernel⟩
theorem ws_X10_nestRefused : Cond.selects RX10 yX10_nestRefused yX10_nestRefused ∈ q_tb := q_tb_of (q_tp 32 (by decide +kernel)) rfl
theorem wv_X10_nestRefused : q_Wv m_X10_nestRefused := ⟨wd_696, wd_557, wd_697, ws_X10_nestRefused⟩
theorem pk_X10_nestRefused : q_Pk m_X10_nestRefused 1 := ⟨rfl, rfl, rfl, plainFor_of_name (by decide +kernel), by decide +kernel, by decide +kernel, by decide +kernel⟩
theorem wv_X10_up : q_Wv m_X10_up := ⟨wd_698, wd_557, wd_699, wd_700⟩
theorem pk_X10_up : q_Pk m_X10_up 1 := ⟨rfl, rfl, rfl, plainFor_of_name (by decide +kernel), by decide +kernel, by decide +kernel, by decide +kernel⟩
theorem wv_X10_down : q_Wv m_X10_down := ⟨wd_701, wd_557, wd_702, wd_703⟩
theorem pk_X10_down : q_Pk m_X10_down 1 := ⟨rfl, rfl, rfl, plainFor_of_name (by decide +kernel), by decide +kernel, by decide +kernel, by decide +kernel⟩
theorem ws_X10_misfitOfTrial : Cond.selects RX10 yX10_misfitOfTrial yX10_misfitOfTrial ∈ q_tb := q_tb_of (q_tp 36 (by decide +kernel)) rfl
theorem wv_X10_misfitOfTrial : q_Wv m_X10_misfitOfTrial := ⟨wd_704, wd_557, wd_705, ws_X10_misfitOfTrial⟩
theorem pk_X10_misfitOfTrial : q_Pk m_X10_misfitOfTrial 2 := ⟨rfl, rfl, rfl, plainFor_of_name (by decide +kernel), by decide +kernel, by decide +kernel, by decide +kernel⟩
theorem ws_X10_bestPull : Cond.selects RX10 yX10_bestPull yX10_bestPull ∈ q_tb := q_tb_of (q_tp 35 (by decide +kernel)) rfl
theorem wv_X10_bestPull : q_Wv m_X10_bestPull := ⟨wd_706, wd_557, wd_707, ws_X10_bestPull⟩
theorem pk_X10_bestPull : q_Pk m_X10_bestPull 3 := ⟨rfl, rfl, rfl, plainFor_of_name (by decide +kernel), by decide +kernel, by decide +kernel, by decide +kernel⟩
theorem ws_X10_fitRefused : Cond.selects RX10 yX10_fitRefused yX10_fitRefused ∈ q_tb := q_tb_of (q_tp 34 (by decide +kernel)) rfl
theorem wv_X10_fitRefused : q_Wv m_X10_fitRefused := ⟨wd_708, wd_557, wd_709, ws_X10_fitRefused⟩
theorem pk_X10_fitRefused : q_Pk m_X10_fitRefused 4 := ⟨rfl, rfl, rfl, plainFor_of_name (by decide +kernel), by decide +kernel, by decide +kernel, by decide +kernel⟩
theorem wv_X10_fit : q_Wv m_X10_fit := ⟨wd_710, wd_557, wd_711, wd_712⟩
theorem pk_X10_fit : q_Pk m_X10_fit 3 := ⟨rfl, rfl, rfl, plainFor_of_name (by decide +kernel), by decide +kernel, by decide +kernel, by decide +kernel⟩
theorem wv_X10_ends : q_Wv m_X10_ends := ⟨wd_713, wd_557, wd_714, wd_715⟩
theorem pk_X10_ends : q_Pk m_X10_ends 4 := ⟨rfl, rfl, rfl, plainFor_of_name (by decide +kernel), by decide +kernel, by decide +kernel, by decide +kernel⟩
theorem wv_X10_play : q_Wv m_X10_play := ⟨wd_716, wd_557, wd_717, wd_718⟩
theorem pk_X10_play : q_Pk m_X10_play 2 := ⟨rfl, rfl, rfl, plainFor_of_name (by decide +kernel), by decide +kernel, by decide +kernel, by decide +kernel⟩
theorem wv_X10_world : q_Wv m_X10_world := ⟨wd_719, wd_557, wd_720, wd_721⟩
theorem pk_X10_world : q_Pk m_X10_world 2 := ⟨rfl, rfl, rfl, plainFor_of_name (by decide +kernel), by decide +kernel, by decide +kernel, by decide +kernel⟩
theorem wv_X10_forget : q_Wv m_X10_forget := ⟨wd_722, wd_557, wd_723, wd_724⟩
theorem pk_X10_forget : q_Pk m_X10_forget 0 := ⟨rfl, rfl, rfl, plainFor_of_name (by decide +kernel), by decide +kernel, by decide +kernel, by decide +kernel⟩
theorem ws_X10_allWeights : Cond.selects RX10 yX10_allWeights yX10_allWeights ∈ q_tb := q_tb_of (q_tp 38 (by decide +kernel)) rfl
theorem wv_X10_allWeights : q_Wv m_X10_allWeights := ⟨wd_725, wd_557, wd_726, ws_X10_allWeights⟩
theorem pk_X10_allWeights : q_Pk m_X10_allWeights 0 := ⟨rfl, rfl, rfl, plainFor_of_name (by decide +kernel), by decide +kernel, by decide +kernel, by decide +kernel⟩
theorem ws_X10_alarmRefused : Cond.selects RX10 yX10_alarmRefused yX10_alarmRefused ∈ q_tb := q_tb_of (q_tp 37 (by decide +kernel)) rfl
theorem wv_X10_alarmRefused : q_Wv m_X10_alarmRefused := ⟨wd_727, wd_557, wd_728, ws_X10_alarmRefused⟩
theorem pk_X10_alarmRefused : q_Pk m_X10_alarmRefused 3 := ⟨rfl, rfl, rfl, plainFor_of_name (by decide +kernel), by decide +kernel, by decide +kernel, by decide +kernel⟩
theorem ws_X10_trialComesTo : Cond.selects RX10 yX10_trialComesTo yX10_trialComesTo ∈ q_tb := q_tb_of (q_tp 40 (by decide +kernel)) rfl
theorem wv_X10_trialComesTo : q_Wv m_X10_trialComesTo := ⟨wd_729, wd_557, wd_730, ws_X10_trialComesTo⟩
theorem pk_X10_trialComesTo : q_Pk m_X10_trialComesTo 3 := ⟨rfl, rfl, rfl, plainFor_of_name (by decide +kernel), by decide +kernel, by decide +kernel, by decide +kernel⟩
theorem ws_X10_alarmedWeight : Cond.selects RX10 yX10_alarmedWeight yX10_alarmedWeight ∈ q_tb := q_tb_of (q_tp 39 (by decide +kernel)) rfl
theorem wv_X10_alarmedWeight : q_Wv m_X10_alarmedWeight := ⟨wd_731, wd_557, wd_732, ws_X10_alarmedWeight⟩
theorem pk_X10_alarmedWeight : q_Pk m_X10_alarmedWeight 4 := ⟨rfl, rfl, rfl, plainFor_of_name (by decide +kernel), by decide +kernel, by decide +kernel, by decide +kernel⟩
theorem ws_X10_tellFraction : Cond.selects RX10 yX10_tellFraction yX10_tellFraction ∈ q_tb := q_tb_of (q_tp 41 (by decide +kernel)) rfl
theorem wv_X10_tellFraction : q_Wv m_X10_tellFraction := ⟨wd_733, wd_557, wd_734, ws_X10_tellFraction⟩
theorem pk_X10_tellFraction : q_Pk m_X10_tellFraction 2 := ⟨rfl, rfl, rfl, plainFor_of_name (by decide +kernel), by decide +kernel, by decide +kernel, by decide +kernel⟩
theorem wv_X10_alarm : q_Wv m_X10_alarm := ⟨wd_735, wd_557, wd_736, wd_737⟩
theorem pk_X10_alarm : q_Pk m_X10_alarm 3 := ⟨rfl, rfl, rfl, plainFor_of_name (by decide +kernel), by decide +kernel, by decide +kernel, by decide +kernel⟩
theorem wv_X10_post : q_Wv m_X10_post := ⟨wd_738, wd_557, wd_739, wd_740⟩
theorem pk_X10_post : q_Pk m_X10_post 2 := ⟨rfl, rfl, rfl, plainFor_of_name (by decide +kernel), by decide +kernel, by decide +kernel, by decide +kernel⟩
theorem wv_J6_bitCount_0f7a4 : q_Wst m_J6_bitCount_0f7a4 := ⟨wd_741, wd_742, wd_743⟩
theorem pk_J6_bitCount_0f7a4 : q_Pk m_J6_bitCount_0f7a4 1 := ⟨rfl, rfl, rfl, by decide +kernel, by decide +kernel, by decide +kernel, by decide +kernel⟩
theorem wv_X10_gates : q_Wv m_X10_gates := ⟨wd_744, wd_557, wd_745, wd_746⟩
theorem pk_X10_gates : q_Pk m_X10_gates 3 := ⟨rfl, rfl, rfl, plainFor_of_name (by decide +kernel), by decide +kernel, by decide +kernel, by decide +kernel⟩
theorem wv_X10_asked : q_Wv m_X10_asked := ⟨wd_747, wd_557, wd_748, wd_749⟩
theorem pk_X10_asked : q_Pk m_X10_asked 0 := ⟨rfl, rfl, rfl, plainFor_of_name (by decide +kernel), by decide +kernel, by decide +kernel, by decide +kernel⟩
theorem wv_X10_strength : q_Wv m_X10_strength := ⟨wd_750, wd_557, wd_751, wd_752⟩
theorem pk_X10_strength : q_Pk m_X10_strength 0 := ⟨rfl, rfl, rfl, plainFor_of_name (by decide +kernel), by decide +kernel, by decide +kernel, by decide +kernel⟩
theorem wv_X10_upper : q_Wv m_X10_upper := ⟨wd_753, wd_557, wd_754, wd_755⟩
theorem pk_X10_upper : q_Pk m_X10_upper 0 := ⟨rfl, rfl, rfl, plainFor_of_name (by decide +kernel), by decide +kernel, by decide +kernel, by decide +kernel⟩
theorem wv_X10_lower : q_Wv m_X10_lower := ⟨wd_756, wd_557, wd_757, wd_758⟩
theorem pk_X10_lower : q_Pk m_X10_lower 0 := ⟨rfl, rfl, rfl, plainFor_of_name (by decide +kernel), by decide +kernel, by decide +kernel, by decide +kernel⟩
theorem wv_X10_count : q_Wv m_X10_count := ⟨wd_759, wd_557, wd_760, wd_761⟩
theorem pk_X10_count : q_Pk m_X10_count 1 := ⟨rfl, rfl, rfl, plainFor_of_name (by decide +kernel), by decide +kernel, by decide +kernel, by decide +kernel⟩
theorem wv_X10_finding : q_Wv m_X10_finding := ⟨wd_762, wd_557, wd_763, wd_764⟩
theorem pk_X10_finding : q_Pk m_X10_finding 0 := ⟨rfl, rfl, rfl, plainFor_of_name (by decide +kernel), by decide +kernel, by decide +kernel, by decide +kernel⟩
theorem wv_X10_findings : q_Wv m_X10_findings := ⟨wd_765, wd_557, wd_766, wd_767⟩
theorem pk_X10_findings : q_Pk m_X10_findings 1 := ⟨rfl, rfl, rfl, plainFor_of_name (by decide +kernel), by decide +kernel, by decide +kernel, by decide +kernel⟩
theorem wv_X10_digest : q_Wv m_X10_digest := ⟨wd_768, wd_557, wd_769, wd_770⟩
theorem pk_X10_digest : q_Pk m_X10_digest 0 := ⟨rfl, rfl, rfl, plainFor_of_name (by decide +kernel), by decide +kernel, by decide +kernel, by decide +kernel⟩
theorem wv_X11_in : q_Wst m_X11_in := ⟨wd_771, wd_772, wd_773⟩
theorem pk_X11_in : q_Pk m_X11_in 3 := ⟨rfl, rfl, rfl, plainFor_of_name (by decide +kernel), by decide +kernel, by decide +kernel, by decide +kernel⟩
theorem ws_X11_meets : Cond.selects RX11 yX11_meets yX11_meets ∈ q_tb := q_tb_of (q_tp 42 (by decide +kernel)) rfl
theorem wv_X11_meets : q_Wv m_X11_meets := ⟨wd_774, wd_772, wd_775, ws_X11_meets⟩
theorem pk_X11_meets : q_Pk m_X11_meets 1 := ⟨rfl, rfl, rfl, plainFor_of_name (by decide +kernel), by decide +kernel, by decide +kernel, by decide +kernel⟩
theorem ws_X11_ask : Cond.selects RX11 yX11_ask yX11_ask ∈ q_tb := q_tb_of (q_tp 45 (by decide +kernel)) rfl
theorem wv_X11_ask : q_Wv m_X11_ask := ⟨wd_776, wd_772, wd_777, ws_X11_ask⟩
theorem pk_X11_ask : q_Pk m_X11_ask 2 := ⟨rfl, rfl, rfl, plainFor_of_name (by decide +kernel), by decide +kernel, by decide +kernel, by decide +kernel⟩
theorem ws_X11_tell : Cond.selects RX11 yX11_tell yX11_tell ∈ q_tb := q_tb_of (q_tp 88 (by decide +kernel)) rfl
theorem wv_X11_tell : q_Wv m_X11_tell := ⟨wd_778, wd_772, wd_779, ws_X11_tell⟩
theorem pk_X11_tell : q_Pk m_X11_tell 3 := ⟨rfl, rfl, rfl, plainFor_of_name (by decide +kernel), by decide +kernel, by decide +kernel, by decide +kernel⟩
theorem wv_X11_isSix : q_Wst m_X11_isSix := ⟨wd_780, wd_772, wd_781⟩
theorem pk_X11_isSix : q_Pk m_X11_isSix 1 := ⟨rfl, rfl, rfl, plainFor_of_name (by decide +kernel), by decide +kernel, by decide +kernel, by decide +kernel⟩
theorem ws_X11_looked : Cond.selects RX11 yX11_looked yX11_looked ∈ q_tb := q_tb_of (q_tp 43 (by decide +kernel)) rfl
theorem wv_X11_looked : q_Wv m_X11_looked := ⟨wd_782, wd_772, wd_783, ws_X11_looked⟩
theorem pk_X11_looked : q_Pk m_X11_looked 1 := ⟨rfl, rfl, rfl, plainFor_of_name (by decide +kernel), by decide +kernel, by decide +kernel, by decide +kernel⟩
theorem wv_X11_row : q_Wv m_X11_row := ⟨wd_784, wd_772, wd_785, wd_786⟩
theorem pk_X11_row : q_Pk m_X11_row 2 := ⟨rfl, rfl, rfl, plainFor_of_name (by decide +kernel), by decide +kernel, by decide +kernel, by decide +kernel⟩
theorem wv_X11_lay : q_Wv m_X11_lay := ⟨wd_787, wd_772, wd_788, wd_789⟩
theorem pk_X11_lay : q_Pk m_X11_lay 3 := ⟨rfl, rfl, rfl, plainFor_of_name (by decide +kernel), by decide +kernel, by decide +kernel, by decide +kernel⟩
theorem wv_X11_tear : q_Wv m_X11_tear := ⟨wd_790, wd_772, wd_791, wd_792⟩
theorem pk_X11_tear : q_Pk m_X11_tear 1 := ⟨rfl, rfl, rfl, plainFor_of_name (by decide +kernel), by decide +kernel, by decide +kernel, by decide +kernel⟩
theorem wv_X11_copy : q_Wv m_X11_copy := ⟨wd_793, wd_772, wd_794, wd_795⟩
theorem pk_X11_copy : q_Pk m_X11_copy 5 := ⟨rfl, rfl, rfl, plainFor_of_name (by decide +kernel), by decide +kernel, by decide +kernel, by decide +kernel⟩
theorem ws_X11_countOf : Cond.selects RX11 yX11_countOf yX11_countOf ∈ q_tb := q_tb_of (q_tp 44 (by decide +kernel)) rfl
theorem wv_X11_countOf : q_Wv m_X11_countOf := ⟨wd_796, wd_772, wd_797, ws_X11_countOf⟩
theorem pk_X11_countOf : q_Pk m_X11_countOf 1 := ⟨rfl, rfl, rfl, plainFor_of_name (by decide +kernel), by decide +kernel, by decide +kernel, by decide +kernel⟩
theorem wv_X11_mean : q_Wv m_X11_mean := ⟨wd_798, wd_772, wd_799, wd_800⟩
theorem pk_X11_mean : q_Pk m_X11_mean 1 := ⟨rfl, rfl, rfl, plainFor_of_name (by decide +kernel), by decide +kernel, by decide +kernel, by decide +kernel⟩
theorem ws_X11_lookedText : Cond.selects RX11 yX11_lookedText yX11_lookedText ∈ q_tb := q_tb_of (q_tp 46 (by decide +kernel)) rfl
theorem wv_X11_lookedText : q_Wv m_X11_lookedText := ⟨wd_801, wd_772, wd_802, ws_X11_lookedText⟩
theorem pk_X11_lookedText : q_Pk m_X11_lookedText 1 := ⟨rfl, rfl, rfl, plainFor_of_name (by decide +kernel), by decide +kernel, by decide +kernel, by decide +kernel⟩
theorem wv_X11_text : q_Wv m_X11_text := ⟨wd_803, wd_772, wd_804, wd_805⟩
theorem pk_X11_text : q_Pk m_X11_text 2 := ⟨rfl, rfl, rfl, plainFor_of_name (by decide +kernel), by decide +kernel, by decide +kernel, by decide +kernel⟩
theorem wv_X11_put : q_Wv m_X11_put := ⟨wd_806, wd_772, wd_807, wd_808⟩
theorem pk_X11_put : q_Pk m_X11_put 3 := ⟨rfl, rfl, rfl, plainFor_of_name (by decide +kernel), by decide +kernel, by decide +kernel, by decide +kernel⟩
theorem wv_X11_burn : q_Wv m_X11_burn := ⟨wd_809, wd_772, wd_810, wd_811⟩
theorem pk_X11_burn : q_Pk m_X11_burn 1 := ⟨rfl, rfl, rfl, plainFor_of_name (by decide +kernel), by decide +kernel, by decide +kernel, by decide +kernel⟩
theorem wv_X11_isLetter : q_Wst m_X11_isLetter := ⟨wd_812, wd_772, wd_813⟩
theorem pk_X11_isLetter : q_Pk m_X11_isLetter 1 := ⟨rfl, rfl, rfl, plainFor_of_name (by decide +kernel), by decide +kernel, by decide +kernel, by decide +kernel⟩
theorem wv_X11_may : q_Wst m_X11_may := ⟨wd_814, wd_772, wd_815⟩
theorem pk_X11_may : q_Pk m_X11_may 2 := ⟨rfl, rfl, rfl, plainFor_of_name (by decide +kernel), by decide +kernel, by decide +kernel, by decide +kernel⟩
theorem ws_X11_reads : Cond.selects RX11 yX11_reads yX11_reads ∈ q_tb := q_tb_of (q_tp 47 (by decide +kernel)) rfl
theorem wv_X11_reads : q_Wv m_X11_reads := ⟨wd_816, wd_772, wd_817, ws_X11_reads⟩
theorem pk_X11_reads : q_Pk m_X11_reads 3 := ⟨rfl, rfl, rfl, plainFor_of_name (by decide +kernel), by decide +kernel, by decide +kernel, by decide +kernel⟩
theorem wv_X11_fault : q_Wv m_X11_fault := ⟨wd_818, wd_772, wd_819, wd_820⟩
theorem pk_X11_fault : q_Pk m_X11_fault 1 := ⟨rfl, rfl, rfl, plainFor_of_name (by decide +kernel), by decide +kernel, by decide +kernel, by decide +kernel⟩
theorem ws_X11_cells : Cond.selects RX11 yX11_cells yX11_cells ∈ q_tb := q_tb_of (q_tp 53 (by decide +kernel)) rfl
theorem wv_X11_cells : q_Wv m_X11_cells := ⟨wd_821, wd_772, wd_822, ws_X11_cells⟩
theorem pk_X11_cells : q_Pk m_X11_cells 1 := ⟨rfl, rfl, rfl, plainFor_of_name (by decide +kernel), by decide +kernel, by decide +kernel, by decide +kernel⟩
theorem ws_X11_level : Cond.selects RX11 yX11_level yX11_level ∈ q_tb := q_tb_of (q_tp 54 (by decide +kernel)) rfl
theorem wv_X11_level : q_Wv m_X11_level := ⟨wd_823, wd_772, wd_824, ws_X11_level⟩
theorem pk_X11_level : q_Pk m_X11_level 2 := ⟨rfl, rfl, rfl, plainFor_of_name (by decide +kernel), by decide +kernel, by decide +kernel, by decide +kernel⟩
theorem ws_X11_askedFor : Cond.selects RX11 yX11_askedFor yX11_askedFor ∈ q_tb := q_tb_of (q_tp 50 (by decide +kernel)) rfl
theorem wv_X11_askedFor : q_Wv m_X11_askedFor := ⟨wd_825, wd_772, wd_826, ws_X11_askedFor⟩
theorem pk_X11_askedFor : q_Pk m_X11_askedFor 1 := ⟨rfl, rfl, rfl, plainFor_of_name (by decide +kernel), by decide +kernel, by decide +kernel, by decide +kernel⟩
theorem ws_X11_isCell : Cond.selects RX11 yX11_isCell yX11_isCell ∈ q_tb := q_tb_of (q_tp 52 (by decide +kernel)) rfl
theorem wv_X11_isCell : q_Wv m_X11_isCell := ⟨wd_827, wd_772, wd_828, ws_X11_isCell⟩
theorem pk_X11_isCell : q_Pk m_X11_isCell 2 := ⟨rfl, rfl, rfl, plainFor_of_name (by decide +kernel), by decide +kernel, by decide +kernel, by decide +kernel⟩
theorem ws_X11_beyond : Cond.selects RX11 yX11_beyond yX11_beyond ∈ q_tb := q_tb_of (q_tp 56 (by decide +kernel)) rfl
theorem wv_X11_beyond : q_Wv m_X11_beyond := ⟨wd_829, wd_772, wd_830, ws_X11_beyond⟩
theorem pk_X11_beyond : q_Pk m_X11_beyond 2 := ⟨rfl, rfl, rfl, plainFor_of_name (by decide +kernel), by decide +kernel, by decide +kernel, by decide +kernel⟩
theorem ws_X11_clear : Cond.selects RX11 yX11_clear yX11_clear ∈ q_tb := q_tb_of (q_tp 48 (by decide +kernel)) rfl
theorem wv_X11_clear : q_Wv m_X11_clear := ⟨wd_831, wd_772, wd_832, ws_X11_clear⟩
theorem pk_X11_clear : q_Pk m_X11_clear 1 := ⟨rfl, rfl, rfl, plainFor_of_name (by decide +kernel), by decide +kernel, by decide +kernel, by decide +kernel⟩
theorem ws_X11_begin : Cond.selects RX11 yX11_begin yX11_begin ∈ q_tb := q_tb_of (q_tp 49 (by decide +kernel)) rfl
theorem wv_X11_begin : q_Wv m_X11_begin := ⟨wd_833, wd_772, wd_834, ws_X11_begin⟩
theorem pk_X11_begin : q_Pk m_X11_begin 4 := ⟨rfl, rfl, rfl, plainFor_of_name (by decide +kernel), by decide +kernel, by decide +kernel, by decide +kernel⟩
theorem wv_X11_board : q_Wv m_X11_board := ⟨wd_835, wd_772, wd_836, wd_837⟩
theorem pk_X11_board : q_Pk m_X11_board 4 := ⟨rfl, rfl, rfl, plainFor_of_name (by decide +kernel), by decide +kernel, by decide +kernel, by decide +kernel⟩
theorem wv_X11_drop : q_Wv m_X11_drop := ⟨wd_838, wd_772, wd_839, wd_840⟩
theorem pk_X11_drop : q_Pk m_X11_drop 1 := ⟨rfl, rfl, rfl, plainFor_of_name (by decide +kernel), by decide +kernel, by decide +kernel, by decide +kernel⟩
theorem ws_X11_askedCell : Cond.selects RX11 yX11_askedCell yX11_askedCell ∈ q_tb := q_tb_of (q_tp 51 (by decide +kernel)) rfl
theorem wv_X11_askedCell : q_Wv m_X11_askedCell := ⟨wd_841, wd_772, wd_842, ws_X11_askedCell⟩
theorem pk_X11_askedCell : q_Pk m_X11_askedCell 2 := ⟨rfl, rfl, rfl, plainFor_of_name (by decide +kernel), by decide +kernel, by decide +kernel, by decide +kernel⟩
theorem wv_X11_bottom : q_Wv m_X11_bottom := ⟨wd_843, wd_772, wd_844, wd_845⟩
theorem pk_X11_bottom : q_Pk m_X11_bottom 3 := ⟨rfl, rfl, rfl, plainFor_of_name (by decide +kernel), by decide +kernel, by decide +kernel, by decide +kernel⟩
theorem wv_X11_water : q_Wv m_X11_water := ⟨wd_846, wd_772, wd_847, wd_848⟩
theorem pk_X11_water : q_Pk m_X11_water 3 := ⟨rfl, rfl, rfl, plainFor_of_name (by decide +kernel), by decide +kernel, by decide +kernel, by decide +kernel⟩
theorem wv_X11_spill : q_Wv m_X11_spill := ⟨wd_849, wd_772, wd_850, wd_851⟩
theorem pk_X11_spill : q_Pk m_X11_spill 4 := ⟨rfl, rfl, rfl, plainFor_of_name (by decide +kernel), by decide +kernel, by decide +kernel, by decide +kernel⟩
theorem wv_X11_cell : q_Wv m_X11_cell := ⟨wd_852, wd_772, wd_853, wd_854⟩
theorem pk_X11_cell : q_Pk m_X11_cell 3 := ⟨rfl, rfl, rfl, plainFor_of_name (by decide +kernel), by decide +kernel, by decide +kernel, by decide +kernel⟩
theorem ws_X11_askedFace : Cond.selects RX11 yX11_askedFace yX11_askedFace ∈ q_tb := q_tb_of (q_tp 55 (by decide +kernel)) rfl
theorem wv_X11_askedFace : q_Wv m_X11_askedFace := ⟨wd_855, wd_772, wd_856, ws_X11_askedFace⟩
theorem pk_X11_askedFace : q_Pk m_X11_askedFace 2 := ⟨rfl, rfl, rfl, plainFor_of_name (by decide +kernel), by decide +kernel, by decide +kernel, by decide +kernel⟩
theorem wv_X11_flow : q_Wv m_X11_flow := ⟨wd_857, wd_772, wd_858, wd_859⟩
theorem pk_X11_flow : q_Pk m_X11_flow 2 := ⟨rfl, rfl, rfl, plainFor_of_name (by decide +kernel), by decide +kernel, by decide +kernel, by decide +kernel⟩
theorem wv_X11_gate : q_Wv m_X11_gate := ⟨wd_860, wd_772, wd_861, wd_862⟩
theorem pk_X11_gate : q_Pk m_X11_gate 3 := ⟨rfl, rfl, rfl, plainFor_of_name (by decide +kernel), by decide +kernel, by decide +kernel, by decide +kernel⟩
theorem wv_X11_law : q_Wv m_X11_law := ⟨wd_863, wd_772, wd_864, wd_865⟩
theorem pk_X11_law : q_Pk m_X11_law 3 := ⟨rfl, rfl, rfl, plainFor_of_name (by decide +kernel), by decide +kernel, by decide +kernel, by decide +kernel⟩
theorem wv_X11_wind : q_Wv m_X11_wind := ⟨wd_866, wd_772, wd_867, wd_868⟩
theorem pk_X11_wind : q_Pk m_X11_wind 3 := ⟨rfl, rfl, rfl, plainFor_of_name (by decide +kernel), by decide +kernel, by decide +kernel, by decide +kernel⟩
theorem wv_X11_river : q_Wv m_X11_river := ⟨wd_869, wd_772, wd_870, wd_871⟩
theorem pk_X11_river : q_Pk m_X11_river 3 := ⟨rfl, rfl, rfl, plainFor_of_name (by decide +kernel), by decide +kernel, by decide +kernel, by decide +kernel⟩
theorem ws_X11_isTidal : Cond.selects RX11 yX11_isTidal yX11_isTidal ∈ q_tb := q_tb_of (q_tp 57 (by decide +kernel)) rfl
theorem wv_X11_isTidal : q_Wv m_X11_isTidal := ⟨wd_872, wd_772, wd_873, ws_X11_isTidal⟩
theorem pk_X11_isTidal : q_Pk m_X11_isTidal 1 := ⟨rfl, rfl, rfl, plainFor_of_name (by decide +kernel), by decide +kernel, by decide +kernel, by decide +kernel⟩
theorem wv_X11_tide : q_Wv m_X11_tide := ⟨wd_874, wd_772, wd_875, wd_876⟩
theorem pk_X11_tide : q_Pk m_X11_tide 3 := ⟨rfl, rfl, rfl, plainFor_of_name (by decide +kernel), by decide +kernel, by decide +kernel, by decide +kernel⟩
theorem ws_X11_pushed : Cond.selects RX11 yX11_pushed yX11_pushed ∈ q_tb := q_tb_of (q_tp 60 (by decide +kernel)) rfl
theorem wv_X11_pushed : q_Wv m_X11_pushed := ⟨wd_877, wd_772, wd_878, ws_X11_pushed⟩
theorem pk_X11_pushed : q_Pk m_X11_pushed 3 := ⟨rfl, rfl, rfl, plainFor_of_name (by decide +kernel), by decide +kernel, by decide +kernel, by decide +kernel⟩
theorem ws_X11_pushAll : Cond.selects RX11 yX11_pushAll yX11_pushAll ∈ q_tb := q_tb_of (q_tp 59 (by decide +kernel)) rfl
theorem wv_X11_pushAll : q_Wv m_X11_pushAll := ⟨wd_879, wd_772, wd_880, ws_X11_pushAll⟩
theorem pk_X11_pushAll : q_Pk m_X11_pushAll 1 := ⟨rfl, rfl, rfl, plainFor_of_name (by decide +kernel), by decide +kernel, by decide +kernel, by decide +kernel⟩
theorem ws_X11_carryAll : Cond.selects RX11 yX11_carryAll yX11_carryAll ∈ q_tb := q_tb_of (q_tp 61 (by decide +kernel)) rfl
theorem wv_X11_carryAll : q_Wv m_X11_carryAll := ⟨wd_881, wd_772, wd_882, ws_X11_carryAll⟩
theorem pk_X11_carryAll : q_Pk m_X11_carryAll 1 := ⟨rfl, rfl, rfl, plainFor_of_name (by decide +kernel), by decide +kernel, by decide +kernel, by decide +kernel⟩
theorem ws_X11_hasTide : Cond.selects RX11 yX11_hasTide yX11_hasTide ∈ q_tb := q_tb_of (q_tp 62 (by decide +kernel)) rfl
theorem wv_X11_hasTide : q_Wv m_X11_hasTide := ⟨wd_883, wd_772, wd_884, ws_X11_hasTide⟩
theorem pk_X11_hasTide : q_Pk m_X11_hasTide 1 := ⟨rfl, rfl, rfl, plainFor_of_name (by decide +kernel), by decide +kernel, by decide +kernel, by decide +kernel⟩
theorem ws_X11_rimLevel : Cond.selects RX11 yX11_rimLevel yX11_rimLevel ∈ q_tb := q_tb_of (q_tp 64 (by decide +kernel)) rfl
theorem wv_X11_rimLevel : q_Wv m_X11_rimLevel := ⟨wd_885, wd_772, wd_886, ws_X11_rimLevel⟩
theorem pk_X11_rimLevel : q_Pk m_X11_rimLevel 1 := ⟨rfl, rfl, rfl, plainFor_of_name (by decide +kernel), by decide +kernel, by decide +kernel, by decide +kernel⟩
theorem ws_X11_leadRim : Cond.selects RX11 yX11_leadRim yX11_leadRim ∈ q_tb := q_tb_of (q_tp 63 (by decide +kernel)) rfl
theorem wv_X11_leadRim : q_Wv m_X11_leadRim := ⟨wd_887, wd_772, wd_888, ws_X11_leadRim⟩
theorem pk_X11_leadRim : q_Pk m_X11_leadRim 1 := ⟨rfl, rfl, rfl, plainFor_of_name (by decide +kernel), by decide +kernel, by decide +kernel, by decide +kernel⟩
theorem ws_X11_leading : Cond.selects RX11 yX11_leading yX11_leading ∈ q_tb := q_tb_of (q_tp 66 (by decide +kernel)) rfl
theorem wv_X11_leading : q_Wv m_X11_leading := ⟨wd_889, wd_772, wd_890, ws_X11_leading⟩
theorem pk_X11_leading : q_Pk m_X11_leading 3 := ⟨rfl, rfl, rfl, plainFor_of_name (by decide +kernel), by decide +kernel, by decide +kernel, by decide +kernel⟩
theorem ws_X11_drifts : Cond.selects RX11 yX11_drifts yX11_drifts ∈ q_tb := q_tb_of (q_tp 65 (by decide +kernel)) rfl
theorem wv_X11_drifts : q_Wv m_X11_drifts := ⟨wd_891, wd_772, wd_892, ws_X11_drifts⟩
theorem pk_X11_drifts : q_Pk m_X11_drifts 3 := ⟨rfl, rfl, rfl, plainFor_of_name (by decide +kernel), by decide +kernel, by decide +kernel, by decide +kernel⟩
theorem ws_X11_write : Cond.selects RX11 yX11_write yX11_write ∈ q_tb := q_tb_of (q_tp 67 (by decide +kernel)) rfl
theorem wv_X11_write : q_Wv m_X11_write := ⟨wd_893, wd_772, wd_894, ws_X11_write⟩
theorem pk_X11_write : q_Pk m_X11_write 2 := ⟨rfl, rfl, rfl, plainFor_of_name (by decide +kernel), by decide +kernel, by decide +kernel, by decide +kernel⟩
theorem ws_X11_stepOnce : Cond.selects RX11 yX11_stepOnce yX11_stepOnce ∈ q_tb := q_tb_of (q_tp 58 (by decide +kernel)) rfl
theorem wv_X11_stepOnce : q_Wv m_X11_stepOnce := ⟨wd_895, wd_772, wd_896, ws_X11_stepOnce⟩
theorem pk_X11_stepOnce : q_Pk m_X11_stepOnce 1 := ⟨rfl, rfl, rfl, plainFor_of_name (by decide +kernel), by decide +kernel, by decide +kernel, by decide +kernel⟩
theorem wv_X11_step : q_Wv m_X11_step := ⟨wd_897, wd_772, wd_898, wd_899⟩
theorem pk_X11_step : q_Pk m_X11_step 2 := ⟨rfl, rfl, rfl, plainFor_of_name (by decide +kernel), by decide +kernel, by decide +kernel, by decide +kernel⟩
theorem ws_X11_sumOf : Cond.selects RX11 yX11_sumOf yX11_sumOf ∈ q_tb := q_tb_of (q_tp 69 (by decide +kernel)) rfl
theorem wv_X11_sumOf : q_Wv m_X11_sumOf := ⟨wd_900, wd_772, wd_901, ws_X11_sumOf⟩
theorem pk_X11_sumOf : q_Pk m_X11_sumOf 3 := ⟨rfl, rfl, rfl, plainFor_of_name (by decide +kernel), by decide +kernel, by decide +kernel, by decide +kernel⟩
theorem ws_X11_dry : Cond.selects RX11 yX11_dry yX11_dry ∈ q_tb := q_tb_of (q_tp 70 (by decide +kernel)) rfl
theorem wv_X11_dry : q_Wv m_X11_dry := ⟨wd_902, wd_772, wd_903, ws_X11_dry⟩
theorem pk_X11_dry : q_Pk m_X11_dry 1 := ⟨rfl, rfl, rfl, plainFor_of_name (by decide +kernel), by decide +kernel, by decide +kernel, by decide +kernel⟩
theorem ws_X11_tells : Cond.selects RX11 yX11_tells yX11_tells ∈ q_tb := q_tb_of (q_tp 68 (by decide +kernel)) rfl
theorem wv_X11_tells : q_Wv m_X11_tells := ⟨wd_904, wd_772, wd_905, ws_X11_tells⟩
theorem pk_X11_tells : q_Pk m_X11_tells 2 := ⟨rfl, rfl, rfl, plainFor_of_name (by decide +kernel), by decide +kernel, by decide +kernel, by decide +kernel⟩
theorem wv_X11_told : q_Wv m_X11_told := ⟨wd_906, wd_772, wd_907, wd_908⟩
theorem pk_X11_told : q_Pk m_X11_told 2 := ⟨rfl, rfl, rfl, plainFor_of_name (by decide +kernel), by decide +kernel, by decide +kernel, by decide +kernel⟩
theorem wv_X11_mark : q_Wv m_X11_mark := ⟨wd_909, wd_772, wd_910, wd_911⟩
theorem pk_X11_mark : q_Pk m_X11_mark 2 := ⟨rfl, rfl, rfl, plainFor_of_name (by decide +kernel), by decide +kernel, by decide +kernel, by decide +kernel⟩
theorem ws_X11_bring : Cond.selects RX11 yX11_bring yX11_bring ∈ q_tb := q_tb_of (q_tp 72 (by decide +kernel)) rfl
theorem wv_X11_bring : q_Wv m_X11_bring := ⟨wd_912, wd_772, wd_913, ws_X11_bring⟩
theorem pk_X11_bring : q_Pk m_X11_bring 2 := ⟨rfl, rfl, rfl, plainFor_of_name (by decide +kernel), by decide +kernel, by decide +kernel, by decide +kernel⟩
theorem ws_X11_liesIn : Cond.selects RX11 yX11_liesIn yX11_liesIn ∈ q_tb := q_tb_of (q_tp 71 (by decide +kernel)) rfl
theorem wv_X11_liesIn : q_Wv m_X11_liesIn := ⟨wd_914, wd_772, wd_915, ws_X11_liesIn⟩
theorem pk_X11_liesIn : q_Pk m_X11_liesIn 2 := ⟨rfl, rfl, rfl, plainFor_of_name (by decide +kernel), by decide +kernel, by decide +kernel, by decide +kernel⟩
theorem wv_X11_keep : q_Wv m_X11_keep := ⟨wd_916, wd_772, wd_917, wd_918⟩
theorem pk_X11_keep : q_Pk m_X11_keep 2 := ⟨rfl, rfl, rfl, plainFor_of_name (by decide +kernel), by decide +kernel, by decide +kernel, by decide +kernel⟩
theorem ws_X11_turned : Cond.selects RX11 yX11_turned yX11_turned ∈ q_tb := q_tb_of (q_tp 73 (by decide +kernel)) rfl
theorem wv_X11_turned : q_Wv m_X11_turned := ⟨wd_919, wd_772, wd_920, ws_X11_turned⟩
theorem pk_X11_turned : q_Pk m_X11_turned 2 := ⟨rfl, rfl, rfl, plainFor_of_name (by decide +kernel), by decide +kernel, by decide +kernel, by decide +kernel⟩
theorem wv_X11_mirror : q_Wv m_X11_mirror := ⟨wd_921, wd_772, wd_922, wd_923⟩
theorem pk_X11_mirror : q_Pk m_X11_mirror 1 := ⟨rfl, rfl, rfl, plainFor_of_name (by decide +kernel), by decide +kernel, by decide +kernel, by decide +kernel⟩
theorem wv_X11_isEight : q_Wst m_X11_isEight := ⟨wd_924, wd_772, wd_925⟩
theorem pk_X11_isEight : q_Pk m_X11_isEight 1 := ⟨rfl, rfl, rfl, plainFor_of_name (by decide +kernel), by decide +kernel, by decide +kernel, by decide +kernel⟩
theorem wv_X11_boat : q_Wv m_X11_boat := ⟨wd_926, wd_772, wd_927, wd_928⟩
theorem pk_X11_boat : q_Pk m_X11_boat 4 := ⟨rfl, rfl, rfl, plainFor_of_name (by decide +kernel), by decide +kernel, by decide +kernel, by decide +kernel⟩
theorem wv_X11_where : q_Wv m_X11_where := ⟨wd_929, wd_772, wd_930, wd_931⟩
theorem pk_X11_where : q_Pk m_X11_where 1 := ⟨rfl, rfl, rfl, plainFor_of_name (by decide +kernel), by decide +kernel, by decide +kernel, by decide +kernel⟩
theorem wv_X11_gauge : q_Wv m_X11_gauge := ⟨wd_932, wd_772, wd_933, wd_934⟩
theorem pk_X11_gauge : q_Pk m_X11_gauge 3 := ⟨rfl, rfl, rfl, plainFor_of_name (by decide +kernel), by decide +kernel, by decide +kernel, by decide +kernel⟩
theorem ws_X11_has : Cond.selects RX11 yX11_has yX11_has ∈ q_tb := q_tb_of (q_tp 74 (by decide +kernel)) rfl
theorem wv_X11_has : q_Wv m_X11_has := ⟨wd_935, wd_772, wd_936, ws_X11_has⟩
theorem pk_X11_has : q_Pk m_X11_has 2 := ⟨rfl, rfl, rfl, plainFor_of_name (by decide +kernel), by decide +kernel, by decide +kernel, by decide +kernel⟩
theorem wv_X11_reading : q_Wv m_X11_reading := ⟨wd_937, wd_772, wd_938, wd_939⟩
theorem pk_X11_reading : q_Pk m_X11_reading 2 := ⟨rfl, rfl, rfl, plainFor_of_name (by decide +kernel), by decide +kernel, by decide +kernel, by decide +kernel⟩
theorem wv_X11_lose : q_Wv m_X11_lose := ⟨wd_940, wd_772, wd_941, wd_942⟩
theorem pk_X11_lose : q_Pk m_X11_lose 2 := ⟨rfl, rfl, rfl, plainFor_of_name (by decide +kernel), by decide +kernel, by decide +kernel, by decide +kernel⟩
theorem ws_X11_sums : Cond.selects RX11 yX11_sums yX11_sums ∈ q_tb := q_tb_of (q_tp 75 (by decide +kernel)) rfl
theorem wv_X11_sums : q_Wv m_X11_sums := ⟨wd_943, wd_772, wd_944, ws_X11_sums⟩
theorem pk_X11_sums : q_Pk m_X11_sums 2 := ⟨rfl, rfl, rfl, plainFor_of_name (by decide +kernel), by decide +kernel, by decide +kernel, by decide +kernel⟩
theorem ws_X11_strong : Cond.selects RX11 yX11_strong yX11_strong ∈ q_tb := q_tb_of (q_tp 76 (by decide +kernel)) rfl
theorem wv_X11_strong : q_Wv m_X11_strong := ⟨wd_945, wd_772, wd_946, ws_X11_strong⟩
theorem pk_X11_strong : q_Pk m_X11_strong 0 := ⟨rfl, rfl, rfl, plainFor_of_name (by decide +kernel), by decide +kernel, by decide +kernel, by decide +kernel⟩
theorem wv_X11_tone : q_Wv m_X11_tone := ⟨wd_947, wd_772, wd_948, wd_949⟩
theorem pk_X11_tone : q_Pk m_X11_tone 2 := ⟨rfl, rfl, rfl, plainFor_of_name (by decide +kernel), by decide +kernel, by decide +kernel, by decide +kernel⟩
theorem wv_X11_theTone : q_Wv m_X11_theTone := ⟨wd_950, wd_772, wd_951, wd_952⟩
theorem pk_X11_theTone : q_Pk m_X11_theTone 1 := ⟨rfl, rfl, rfl, plainFor_of_name (by decide +kernel), by decide +kernel, by decide +kernel, by decide +kernel⟩
theorem wv_X11_part : q_Wv m_X11_part := ⟨wd_953, wd_772, wd_954, wd_955⟩
theorem pk_X11_part : q_Pk m_X11_part 1 := ⟨rfl, rfl, rfl, plainFor_of_name (by decide +kernel), by decide +kernel, by decide +kernel, by decide +kernel⟩
theorem ws_X11_beneath : Cond.selects RX11 yX11_beneath yX11_beneath ∈ q_tb := q_tb_of (q_tp 77 (by decide +kernel)) rfl
theorem wv_X11_beneath : q_Wv m_X11_beneath := ⟨wd_956, wd_772, wd_957, ws_X11_beneath⟩
theorem pk_X11_beneath : q_Pk m_X11_beneath 2 := ⟨rfl, rfl, rfl, plainFor_of_name (by decide +kernel), by decide +kernel, by decide +kernel, by decide +kernel⟩
theorem ws_X11_fine : Cond.selects RX11 yX11_fine yX11_fine ∈ q_tb := q_tb_of (q_tp 78 (by decide +kernel)) rfl
theorem wv_X11_fine : q_Wv m_X11_fine := ⟨wd_958, wd_772, wd_959, ws_X11_fine⟩
theorem pk_X11_fine : q_Pk m_X11_fine 3 := ⟨rfl, rfl, rfl, plainFor_of_name (by decide +kernel), by decide +kernel, by decide +kernel, by decide +kernel⟩
theorem wv_X11_nest : q_Wv m_X11_nest := ⟨wd_960, wd_772, wd_961, wd_962⟩
theorem pk_X11_nest : q_Pk m_X11_nest 6 := ⟨rfl, rfl, rfl, plainFor_of_name (by decide +kernel), by decide +kernel, by decide +kernel, by decide +kernel⟩
theorem ws_X11_askedNest : Cond.selects RX11 yX11_askedNest yX11_askedNest ∈ q_tb := q_tb_of (q_tp 79 (by decide +kernel)) rfl
theorem wv_X11_askedNest : q_Wv m_X11_askedNest := ⟨wd_963, wd_772, wd_964, ws_X11_askedNest⟩
theorem pk_X11_askedNest : q_Pk m_X11_askedNest 1 := ⟨rfl, rfl, rfl, plainFor_of_name (by decide +kernel), by decide +kernel, by decide +kernel, by decide +kernel⟩
theorem wv_X11_up : q_Wv m_X11_up := ⟨wd_965, wd_772, wd_966, wd_967⟩
theorem pk_X11_up : q_Pk m_X11_up 1 := ⟨rfl, rfl, rfl, plainFor_of_name (by decide +kernel), by decide +kernel, by decide +kernel, by decide +kernel⟩
theorem wv_X11_down : q_Wv m_X11_down := ⟨wd_968, wd_772, wd_969, wd_970⟩
theorem pk_X11_down : q_Pk m_X11_down 1 := ⟨rfl, rfl, rfl, plainFor_of_name (by decide +kernel), by decide +kernel, by decide +kernel, by decide +kernel⟩
theorem ws_X11_tryPulls : Cond.selects RX11 yX11_tryPulls yX11_tryPulls ∈ q_tb := q_tb_of (q_tp 81 (by decide +kernel)) rfl
theorem wv_X11_tryPulls : q_Wv m_X11_tryPulls := ⟨wd_971, wd_772, wd_972, ws_X11_tryPulls⟩
theorem pk_X11_tryPulls : q_Pk m_X11_tryPulls 3 := ⟨rfl, rfl, rfl, plainFor_of_name (by decide +kernel), by decide +kernel, by decide +kernel, by decide +kernel⟩
theorem ws_X11_askedFit : Cond.selects RX11 yX11_askedFit yX11_askedFit ∈ q_tb := q_tb_of (q_tp 80 (by decide +kernel)) rfl
theorem wv_X11_askedFit : q_Wv m_X11_askedFit := ⟨wd_973, wd_772, wd_974, ws_X11_askedFit⟩
theorem pk_X11_askedFit : q_Pk m_X11_askedFit 3 := ⟨rfl, rfl, rfl, plainFor_of_name (by decide +kernel), by decide +kernel, by decide +kernel, by decide +kernel⟩
theorem ws_X11_bestPull : Cond.selects RX11 yX11_bestPull yX11_bestPull ∈ q_tb := q_tb_of (q_tp 82 (by decide +kernel)) rfl
theorem wv_X11_bestPull : q_Wv m_X11_bestPull := ⟨wd_975, wd_772, wd_976, ws_X11_bestPull⟩
theorem pk_X11_bestPull : q_Pk m_X11_bestPull 0 := ⟨rfl, rfl, rfl, plainFor_of_name (by decide +kernel), by decide +kernel, by decide +kernel, by decide +kernel⟩
theorem wv_X11_fit : q_Wv m_X11_fit := ⟨wd_977, wd_772, wd_978, wd_979⟩
theorem pk_X11_fit : q_Pk m_X11_fit 3 := ⟨rfl, rfl, rfl, plainFor_of_name (by decide +kernel), by decide +kernel, by decide +kernel, by decide +kernel⟩
theorem wv_X11_ends : q_Wv m_X11_ends := ⟨wd_980, wd_772, wd_981, wd_982⟩
theorem pk_X11_ends : q_Pk m_X11_ends 4 := ⟨rfl, rfl, rfl, plainFor_of_name (by decide +kernel), by decide +kernel, by decide +kernel, by decide +kernel⟩
theorem ws_X11_turnGate : Cond.selects RX11 yX11_turnGate yX11_turnGate ∈ q_tb := q_tb_of (q_tp 84 (by decide +kernel)) rfl
theorem wv_X11_turnGate : q_Wv m_X11_turnGate := ⟨wd_983, wd_772, wd_984, ws_X11_turnGate⟩
theorem pk_X11_turnGate : q_Pk m_X11_turnGate 2 := ⟨rfl, rfl, rfl, plainFor_of_name (by decide +kernel), by decide +kernel, by decide +kernel, by decide +kernel⟩
theorem ws_X11_plays : Cond.selects RX11 yX11_plays yX11_plays ∈ q_tb := q_tb_of (q_tp 83 (by decide +kernel)) rfl
theorem wv_X11_plays : q_Wv m_X11_plays := ⟨wd_985, wd_772, wd_986, ws_X11_plays⟩
theorem pk_X11_plays : q_Pk m_X11_plays 3 := ⟨rfl, rfl, rfl, plainFor_of_name (by decide +kernel), by decide +kernel, by decide +kernel, by decide +kernel⟩
theorem wv_X11_play : q_Wv m_X11_play := ⟨wd_987, wd_772, wd_988, wd_989⟩
theorem pk_X11_play : q_Pk m_X11_play 2 := ⟨rfl, rfl, rfl, plainFor_of_name (by decide +kernel), by decide +kernel, by decide +kernel, by decide +kernel⟩
theorem wv_X11_world : q_Wv m_X11_world := ⟨wd_990, wd_772, wd_991, wd_992⟩
theorem pk_X11_world : q_Pk m_X11_world 2 := ⟨rfl, rfl, rfl, plainFor_of_name (by decide +kernel), by decide +kernel, by decide +kernel, by decide +kernel⟩
theorem wv_X11_forget : q_Wv m_X11_forget := ⟨wd_993, wd_772, wd_994, wd_995⟩
theorem pk_X11_forget : q_Pk m_X11_forget 0 := ⟨rfl, rfl, rfl, plainFor_of_name (by decide +kernel), by decide +kernel, by decide +kernel, by decide +kernel⟩
theorem ws_X11_allWeights : Cond.selects RX11 yX11_allWeights yX11_allWeights ∈ q_tb := q_tb_of (q_tp 86 (by decide +kernel)) rfl
theorem wv_X11_allWeights : q_Wv m_X11_allWeights := ⟨wd_996, wd_772, wd_997, ws_X11_allWeights⟩
theorem pk_X11_allWeights : q_Pk m_X11_allWeights 0 := ⟨rfl, rfl, rfl, plainFor_of_name (by decide +kernel), by decide +kernel, by decide +kernel, by decide +kernel⟩
theorem ws_X11_alarmOf : Cond.selects RX11 yX11_alarmOf yX11_alarmOf ∈ q_tb := q_tb_of (q_tp 87 (by decide +kernel)) rfl
theorem wv_X11_alarmOf : q_Wv m_X11_alarmOf := ⟨wd_998, wd_772, wd_999, ws_X11_alarmOf⟩
theorem pk_X11_alarmOf : q_Pk m_X11_alarmOf 3 := ⟨rfl, rfl, rfl, plainFor_of_name (by decide +kernel), by decide +kernel, by decide +kernel, by decide +kernel⟩
theorem ws_X11_askedAlarm : Cond.selects RX11 yX11_askedAlarm yX11_askedAlarm ∈ q_tb := q_tb_of (q_tp 85 (by decide +kernel)) rfl
theorem wv_X11_askedAlarm : q_Wv m_X11_askedAlarm := ⟨wd_1000, wd_772, wd_1001, ws_X11_askedAlarm⟩
theorem pk_X11_askedAlarm : q_Pk m_X11_askedAlarm 3 := ⟨rfl, rfl, rfl, plainFor_of_name (by decide +kernel), by decide +kernel, by decide +kernel, by decide +kernel⟩
theorem wv_X11_alarm : q_Wv m_X11_alarm := ⟨wd_1002, wd_772, wd_1003, wd_1004⟩
theorem pk_X11_alarm : q_Pk m_X11_alarm 3 := ⟨rfl, rfl, rfl, plainFor_of_name (by decide +kernel), by decide +kernel, by decide +kernel, by decide +kernel⟩
theorem wv_X11_post : q_Wv m_X11_post := ⟨wd_1005, wd_772, wd_1006, wd_1007⟩
theorem pk_X11_post : q_Pk m_X11_post 2 := ⟨rfl, rfl, rfl, plainFor_of_name (by decide +kernel), by decide +kernel, by decide +kernel, by decide +kernel⟩
theorem wv_X11_bits : q_Wst m_X11_bits := ⟨wd_1008, wd_772, wd_1009⟩
theorem pk_X11_bits : q_Pk m_X11_bits 1 := ⟨rfl, rfl, rfl, plainFor_of_name (by decide +kernel), by decide +kernel, by decide +kernel, by decide +kernel⟩
theorem wv_X11_gates : q_Wv m_X11_gates := ⟨wd_1010, wd_772, wd_1011, wd_1012⟩
theorem pk_X11_gates : q_Pk m_X11_gates 3 := ⟨rfl, rfl, rfl, plainFor_of_name (by decide +kernel), by decide +kernel, by decide +kernel, by decide +kernel⟩
theorem wv_X11_asked : q_Wv m_X11_asked := ⟨wd_1013, wd_772, wd_1014, wd_1015⟩
theorem pk_X11_asked : q_Pk m_X11_asked 0 := ⟨rfl, rfl, rfl, plainFor_of_name (by decide +kernel), by decide +kernel, by decide +kernel, by decide +kernel⟩
theorem wv_X11_strength : q_Wv m_X11_strength := ⟨wd_1016, wd_772, wd_1017, wd_1018⟩
theorem pk_X11_strength : q_Pk m_X11_strength 0 := ⟨rfl, rfl, rfl, plainFor_of_name (by decide +kernel), by decide +kernel, by decide +kernel, by decide +kernel⟩
theorem wv_X11_upper : q_Wv m_X11_upper := ⟨wd_1019, wd_772, wd_1020, wd_1021⟩
theorem pk_X11_upper : q_Pk m_X11_upper 0 := ⟨rfl, rfl, rfl, plainFor_of_name (by decide +kernel), by decide +kernel, by decide +kernel, by decide +kernel⟩
theorem wv_X11_lower : q_Wv m_X11_lower := ⟨wd_1022, wd_772, wd_1023, wd_1024⟩
theorem pk_X11_lower : q_Pk m_X11_lower 0 := ⟨rfl, rfl, rfl, plainFor_of_name (by decide +kernel), by decide +kernel, by decide +kernel, by decide +kernel⟩
theorem wv_X11_count : q_Wv m_X11_count := ⟨wd_1025, wd_772, wd_1026, wd_1027⟩
theorem pk_X11_count : q_Pk m_X11_count 1 := ⟨rfl, rfl, rfl, plainFor_of_name (by decide +kernel), by decide +kernel, by decide +kernel, by decide +kernel⟩
theorem wv_X11_finding : q_Wv m_X11_finding := ⟨wd_1028, wd_772, wd_1029, wd_1030⟩
theorem pk_X11_finding : q_Pk m_X11_finding 0 := ⟨rfl, rfl, rfl, plainFor_of_name (by decide +kernel), by decide +kernel, by decide +kernel, by decide +kernel⟩
theorem wv_X11_findings : q_Wv m_X11_findings := ⟨wd_1031, wd_772, wd_1032, wd_1033⟩
theorem pk_X11_findings : q_Pk m_X11_findings 1 := ⟨rfl, rfl, rfl, plainFor_of_name (by decide +kernel), by decide +kernel, by decide +kernel, by decide +kernel⟩
theorem ws_X11_mix : Cond.selects RX11 yX11_mix yX11_mix ∈ q_tb := q_tb_of (q_tp 90 (by decide +kernel)) rfl
theorem wv_X11_mix : q_Wv m_X11_mix := ⟨wd_1034, wd_772, wd_1035, ws_X11_mix⟩
theorem pk_X11_mix : q_Pk m_X11_mix 1 := ⟨rfl, rfl, rfl, plainFor_of_name (by decide +kernel), by decide +kernel, by decide +kernel, by decide +kernel⟩
theorem ws_X11_mixBoard : Cond.selects RX11 yX11_mixBoard yX11_mixBoard ∈ q_tb := q_tb_of (q_tp 89 (by decide +kernel)) rfl
theorem wv_X11_mixBoard : q_Wv m_X11_mixBoard := ⟨wd_1036, wd_772, wd_1037, ws_X11_mixBoard⟩
theorem pk_X11_mixBoard : q_Pk m_X11_mixBoard 1 := ⟨rfl, rfl, rfl, plainFor_of_name (by decide +kernel), by decide +kernel, by decide +kernel, by decide +kernel⟩
theorem ws_X11_mixGauge : Cond.selects RX11 yX11_mixGauge yX11_mixGauge ∈ q_tb := q_tb_of (q_tp 91 (by decide +kernel)) rfl
theorem wv_X11_mixGauge : q_Wv m_X11_mixGauge := ⟨wd_1038, wd_772, wd_1039, ws_X11_mixGauge⟩
theorem pk_X11_mixGauge : q_Pk m_X11_mixGauge 1 := ⟨rfl, rfl, rfl, plainFor_of_name (by decide +kernel), by decide +kernel, by decide +kernel, by decide +kernel⟩
theorem wv_X11_digest : q_Wv m_X11_digest := ⟨wd_1040, wd_772, wd_1041, wd_1042⟩
theorem pk_X11_digest : q_Pk m_X11_digest 0 := ⟨rfl, rfl, rfl, plainFor_of_name (by decide +kernel), by decide +kernel, by decide +kernel, by decide +kernel⟩
theorem in_X0 : ∀ w ∈ u_ws RX0 TX0 19, w ∈ q_tb := by
  intro w hw
  obtain ⟨k, hk, rfl⟩ := List.mem_map.mp hw
  have hk := List.mem_range.mp hk
  match k, hk with
  | 0, _ => exact wd_1043
  | 1, _ => exact wd_1044
  | 2, _ => exact wd_1045
  | 3, _ => exact wd_1046
  | 4, _ => exact wd_1047
  | 5, _ => exact wd_1048
  | 6, _ => exact wd_1049
  | 7, _ => exact wd_1050
  | 8, _ => exact wd_1051
  | 9, _ => exact wd_1052
  | 10, _ => exact wd_1053
  | 11, _ => exact wd_1054
  | 12, _ => exact wd_1055
  | 13, _ => exact wd_1056
  | 14, _ => exact wd_1057
  | 15, _ => exact wd_1058
  | 16, _ => exact wd_1059
  | 17, _ => exact wd_1060
  | 18, _ => exact wd_1061
  | n + 19, h => exact absurd h (by omega)
theorem in_X1 : ∀ w ∈ u_ws RX1 TX1 3, w ∈ q_tb := by
  intro w hw
  obtain ⟨k, hk, rfl⟩ := List.mem_map.mp hw
  have hk := List.mem_range.mp hk
  match k, hk with
  | 0, _ => exact wd_1062
  | 1, _ => exact wd_1063
  | 2, _ => exact wd_1064
  | n + 3, h => exact absurd h (by omega)
theorem in_X2 : ∀ w ∈ u_ws RX2 TX2 6, w ∈ q_tb := by
  intro w hw
  obtain ⟨k, hk, rfl⟩ := List.mem_map.mp hw
  have hk := List.mem_range.mp hk
  match k, hk with
  | 0, _ => exact wd_1065
  | 1, _ => exact wd_1066
  | 2, _ => exact wd_1067
  | 3, _ => exact wd_1068
  | 4, _ => exact wd_1069
  | 5, _ => exact wd_1070
  | n + 6, h => exact absurd h (by omega)
theorem in_X3 : ∀ w ∈ u_ws RX3 TX3 4, w ∈ q_tb := by
  intro w hw
  obtain ⟨k, hk, rfl⟩ := List.mem_map.mp hw
  have hk := List.mem_range.mp hk
  match k, hk with
  | 0, _ => exact wd_1071
  | 1, _ => exact wd_1072
  | 2, _ => exact wd_1073
  | 3, _ => exact wd_1074
  | n + 4, h => exact absurd h (by omega)
theorem in_X4 : ∀ w ∈ u_ws RX4 TX4 5, w ∈ q_tb := by
  intro w hw
  obtain ⟨k, hk, rfl⟩ := List.mem_map.mp hw
  have hk := List.mem_range.mp hk
  match k, hk with
  | 0, _ => exact wd_1075
  | 1, _ => exact wd_1076
  | 2, _ => exact wd_1077
  | 3, _ => exact wd_1078
  | 4, _ => exact wd_1079
  | n + 5, h => exact absurd h (by omega)
theorem in_X5 : ∀ w ∈ u_ws RX5 TX5 3, w ∈ q_tb := by
  intro w hw
  obtain ⟨k, hk, rfl⟩ := List.mem_map.mp hw
  have hk := List.mem_range.mp hk
  match k, hk with
  | 0, _ => exact wd_1080
  | 1, _ => exact wd_1081
  | 2, _ => exact wd_1082
  | n + 3, h => exact absurd h (by omega)
theorem in_X6 : ∀ w ∈ u_ws RX6 TX6 7, w ∈ q_tb := by
  intro w hw
  obtain ⟨k, hk, rfl⟩ := List.mem_map.mp hw
  have hk := List.mem_range.mp hk
  match k, hk with
  | 0, _ => exact wd_1083
  | 1, _ => exact wd_1084
  | 2, _ => exact wd_1085
  | 3, _ => exact wd_1086
  | 4, _ => exact wd_1087
  | 5, _ => exact wd_1088
  | 6, _ => exact wd_1089
  | n + 7, h => exact absurd h (by omega)
theorem in_X7 : ∀ w ∈ u_ws RX7 TX7 2, w ∈ q_tb := by
  intro w hw
  obtain ⟨k, hk, rfl⟩ := List.mem_map.mp hw
  have hk := List.mem_range.mp hk
  match k, hk with
  | 0, _ => exact wd_1090
  | 1, _ => exact wd_1091
  | n + 2, h => exact absurd h (by omega)
theorem in_X8 : ∀ w ∈ u_ws RX8 TX8 4, w ∈ q_tb := by
  intro w hw
  obtain ⟨k, hk, rfl⟩ := List.mem_map.mp hw
  have hk := List.mem_range.mp hk
  match k, hk with
  | 0, _ => exact wd_1092
  | 1, _ => exact wd_1093
  | 2, _ => exact wd_1094
  | 3, _ => exact wd_1095
  | n + 4, h => exact absurd h (by omega)
theorem in_X9 : ∀ w ∈ u_ws RX9 TX9 3, w ∈ q_tb := by
  intro w hw
  obtain ⟨k, hk, rfl⟩ := List.mem_map.mp hw
  have hk := List.mem_range.mp hk
  match k, hk with
  | 0, _ => exact wd_1096
  | 1, _ => exact wd_1097
  | 2, _ => exact wd_1098
  | n + 3, h => exact absurd h (by omega)
theorem in_X10 : ∀ w ∈ u_ws RX10 TX10 19, w ∈ q_tb := by
  intro w hw
  obtain ⟨k, hk, rfl⟩ := List.mem_map.mp hw
  have hk := List.mem_range.mp hk
  match k, hk with
  | 0, _ => exact wd_1099
  | 1, _ => exact wd_1100
  | 2, _ => exact wd_1101
  | 3, _ => exact wd_1102
  | 4, _ => exact wd_1103
  | 5, _ => exact wd_1104
  | 6, _ => exact wd_1105
  | 7, _ => exact wd_1106
  | 8, _ => exact wd_1107
  | 9, _ => exact wd_1108
  | 10, _ => exact wd_1109
  | 11, _ => exact wd_1110
  | 12, _ => exact wd_1111
  | 13, _ => exact wd_1112
  | 14, _ => exact wd_1113
  | 15, _ => exact wd_1114
  | 16, _ => exact wd_1115
  | 17, _ => exact wd_1116
  | 18, _ => exact wd_1117
  | n + 19, h => exact absurd h (by omega)
theorem in_X11 : ∀ w ∈ u_ws RX11 TX11 66, w ∈ q_tb := by
  intro w hw
  obtain ⟨k, hk, rfl⟩ := List.mem_map.mp hw
  have hk := List.mem_range.mp hk
  match k, hk with
  | 0, _ => exact wd_1118
  | 1, _ => exact wd_1119
  | 2, _ => exact wd_1120
  | 3, _ => exact wd_1121
  | 4, _ => exact wd_1122
  | 5, _ => exact wd_1123
  | 6, _ => exact wd_1124
  | 7, _ => exact wd_1125
  | 8, _ => exact wd_1126
  | 9, _ => exact wd_1127
  | 10, _ => exact wd_1128
  | 11, _ => exact wd_1129
  | 12, _ => exact wd_1130
  | 13, _ => exact wd_1131
  | 14, _ => exact wd_1132
  | 15, _ => exact wd_1133
  | 16, _ => exact wd_1134
  | 17, _ => exact wd_1135
  | 18, _ => exact wd_1136
  | 19, _ => exact wd_1137
  | 20, _ => exact wd_1138
  | 21, _ => exact wd_1139
  | 22, _ => exact wd_1140
  | 23, _ => exact wd_1141
  | 24, _ => exact wd_1142
  | 25, _ => exact wd_1143
  | 26, _ => exact wd_1144
  | 27, _ => exact wd_1145
  | 28, _ => exact wd_1146
  | 29, _ => exact wd_1147
  | 30, _ => exact wd_1148
  | 31, _ => exact wd_1149
  | 32, _ => exact wd_1150
  | 33, _ => exact wd_1151
  | 34, _ => exact wd_1152
  | 35, _ => exact wd_1153
  | 36, _ => exact wd_1154
  | 37, _ => exact wd_1155
  | 38, _ => exact wd_1156
  | 39, _ => exact wd_1157
  | 40, _ => exact wd_1158
  | 41, _ => exact wd_1159
  | 42, _ => exact wd_1160
  | 43, _ => exact wd_1161
  | 44, _ => exact wd_1162
  | 45, _ => exact wd_1163
  | 46, _ => exact wd_1164
  | 47, _ => exact wd_1165
  | 48, _ => exact wd_1166
  | 49, _ => exact wd_1167
  | 50, _ => exact wd_1168
  | 51, _ => exact wd_1169
  | 52, _ => exact wd_1170
  | 53, _ => exact wd_1171
  | 54, _ => exact wd_1172
  | 55, _ => exact wd_1173
  | 56, _ => exact wd_1174
  | 57, _ => exact wd_1175
  | 58, _ => exact wd_1176
  | 59, _ => exact wd_1177
  | 60, _ => exact wd_1178
  | 61, _ => exact wd_1179
  | 62, _ => exact wd_1180
  | 63, _ => exact wd_1181
  | 64, _ => exact wd_1182
  | 65, _ => exact wd_1183
  | n + 66, h => exact absurd h (by omega)
theorem ns_0 : ("SeaCells", 112, "SeaCells$Shelf", "places", "[[I", "SeaCells") ∈ q_nsL := List.mem_of_getElem? (i := 0) (by decide +kernel)
theorem ns_1 : ("SeaCells$Board", 125, "SeaCells$Shelf", "places", "[[I", "SeaCells") ∈ q_nsL := List.mem_of_getElem? (i := 1) (by decide +kernel)
theorem ns_2 : ("SeaCells", 136, "SeaCells$Shelf", "sizes", "[I", "SeaCells") ∈ q_nsL := List.mem_of_getElem? (i := 2) (by decide +kernel)
theorem ns_3 : ("SeaCells$Board", 116, "SeaCells$Shelf", "sizes", "[I", "SeaCells") ∈ q_nsL := List.mem_of_getElem? (i := 3) (by decide +kernel)
theorem ns_4 : ("SeaCells$Stepper", 101, "SeaCells$Laws", "pull", "I", "SeaCells") ∈ q_nsL := List.mem_of_getElem? (i := 4) (by decide +kernel)
theorem ns_5 : ("SeaCells$Board", 138, "SeaCells$Laws", "pull", "I", "SeaCells") ∈ q_nsL := List.mem_of_getElem? (i := 5) (by decide +kernel)
theorem ns_6 : ("SeaCells", 205, "SeaCells$Laws", "pull", "I", "SeaCells") ∈ q_nsL := List.mem_of_getElem? (i := 6) (by decide +kernel)
theorem ns_7 : ("SeaCells$Stepper", 109, "SeaCells$Laws", "drag", "I", "SeaCells") ∈ q_nsL := List.mem_of_getElem? (i := 7) (by decide +kernel)
theorem ns_8 : ("SeaCells", 210, "SeaCells$Laws", "drag", "I", "SeaCells") ∈ q_nsL := List.mem_of_getElem? (i := 8) (by decide +kernel)
theorem ns_9 : ("SeaCells$Board", 132, "SeaCells$Laws", "windX", "I", "SeaCells") ∈ q_nsL := List.mem_of_getElem? (i := 9) (by decide +kernel)
theorem ns_10 : ("SeaCells", 213, "SeaCells$Laws", "windX", "I", "SeaCells") ∈ q_nsL := List.mem_of_getElem? (i := 10) (by decide +kernel)
theorem ns_11 : ("SeaCells$Board", 129, "SeaCells$Laws", "windY", "I", "SeaCells") ∈ q_nsL := List.mem_of_getElem? (i := 11) (by decide +kernel)
theorem ns_12 : ("SeaCells", 216, "SeaCells$Laws", "windY", "I", "SeaCells") ∈ q_nsL := List.mem_of_getElem? (i := 12) (by decide +kernel)
theorem ns_13 : ("SeaCells$Stepper", 136, "SeaCells$Rivers", "cell", "[I", "SeaCells") ∈ q_nsL := List.mem_of_getElem? (i := 13) (by decide +kernel)
theorem ns_14 : ("SeaCells$Board", 170, "SeaCells$Rivers", "cell", "[I", "SeaCells") ∈ q_nsL := List.mem_of_getElem? (i := 14) (by decide +kernel)
theorem ns_15 : ("SeaCells", 231, "SeaCells$Rivers", "cell", "[I", "SeaCells") ∈ q_nsL := List.mem_of_getElem? (i := 15) (by decide +kernel)
theorem ns_16 : ("SeaCells$Stepper", 139, "SeaCells$Rivers", "much", "[I", "SeaCells") ∈ q_nsL := List.mem_of_getElem? (i := 16) (by decide +kernel)
theorem ns_17 : ("SeaCells", 234, "SeaCells$Rivers", "much", "[I", "SeaCells") ∈ q_nsL := List.mem_of_getElem? (i := 17) (by decide +kernel)
theorem ns_18 : ("SeaCells$Board", 84, "SeaCells$Rivers", "count", "I", "SeaCells") ∈ q_nsL := List.mem_of_getElem? (i := 18) (by decide +kernel)
theorem ns_19 : ("SeaCells$Stepper", 131, "SeaCells$Rivers", "count", "I", "SeaCells") ∈ q_nsL := List.mem_of_getElem? (i := 19) (by decide +kernel)
theorem ns_20 : ("SeaCells", 223, "SeaCells$Rivers", "count", "I", "SeaCells") ∈ q_nsL := List.mem_of_getElem? (i := 20) (by decide +kernel)
theorem ns_21 : ("SeaCells$Board", 193, "SeaCells$Lie", "mark", "[I", "SeaCells") ∈ q_nsL := List.mem_of_getElem? (i := 21) (by decide +kernel)
theorem ns_22 : ("SeaCells$Board", 156, "SeaCells$Lie", "rest", "[I", "SeaCells") ∈ q_nsL := List.mem_of_getElem? (i := 22) (by decide +kernel)
theorem ns_23 : ("SeaCells$Board", 90, "SeaCells$Lie", "on", "I", "SeaCells") ∈ q_nsL := List.mem_of_getElem? (i := 23) (by decide +kernel)
theorem ns_24 : ("SeaCells", 313, "SeaCells$Lie", "on", "I", "SeaCells") ∈ q_nsL := List.mem_of_getElem? (i := 24) (by decide +kernel)
theorem ns_25 : ("SeaCells$Board", 183, "SeaCells$Lie", "x", "I", "SeaCells") ∈ q_nsL := List.mem_of_getElem? (i := 25) (by decide +kernel)
theorem ns_26 : ("SeaCells", 370, "SeaCells$Lie", "x", "I", "SeaCells") ∈ q_nsL := List.mem_of_getElem? (i := 26) (by decide +kernel)
theorem ns_27 : ("SeaCells$Board", 180, "SeaCells$Lie", "y", "I", "SeaCells") ∈ q_nsL := List.mem_of_getElem? (i := 27) (by decide +kernel)
theorem ns_28 : ("SeaCells", 373, "SeaCells$Lie", "y", "I", "SeaCells") ∈ q_nsL := List.mem_of_getElem? (i := 28) (by decide +kernel)
theorem ns_29 : ("SeaCells$Stepper", 112, "SeaCells$Board", "bottom", "[I", "SeaCells") ∈ q_nsL := List.mem_of_getElem? (i := 29) (by decide +kernel)
theorem ns_30 : ("SeaCells", 178, "SeaCells$Board", "bottom", "[I", "SeaCells") ∈ q_nsL := List.mem_of_getElem? (i := 30) (by decide +kernel)
theorem ns_31 : ("SeaCells$Stepper", 59, "SeaCells$Board", "water", "[I", "SeaCells") ∈ q_nsL := List.mem_of_getElem? (i := 31) (by decide +kernel)
theorem ns_32 : ("SeaCells", 181, "SeaCells$Board", "water", "[I", "SeaCells") ∈ q_nsL := List.mem_of_getElem? (i := 32) (by decide +kernel)
theorem ns_33 : ("SeaCells$Stepper", 143, "SeaCells$Board", "stuff", "[I", "SeaCells") ∈ q_nsL := List.mem_of_getElem? (i := 33) (by decide +kernel)
theorem ns_34 : ("SeaCells", 184, "SeaCells$Board", "stuff", "[I", "SeaCells") ∈ q_nsL := List.mem_of_getElem? (i := 34) (by decide +kernel)
theorem ns_35 : ("SeaCells$Boat", 15, "SeaCells$Board", "flow", "[I", "SeaCells") ∈ q_nsL := List.mem_of_getElem? (i := 35) (by decide +kernel)
theorem ns_36 : ("SeaCells$Stepper", 46, "SeaCells$Board", "flow", "[I", "SeaCells") ∈ q_nsL := List.mem_of_getElem? (i := 36) (by decide +kernel)
theorem ns_37 : ("SeaCells", 194, "SeaCells$Board", "flow", "[I", "SeaCells") ∈ q_nsL := List.mem_of_getElem? (i := 37) (by decide +kernel)
theorem ns_38 : ("SeaCells$Stepper", 82, "SeaCells$Board", "shut", "[Z", "SeaCells") ∈ q_nsL := List.mem_of_getElem? (i := 38) (by decide +kernel)
theorem ns_39 : ("SeaCells", 197, "SeaCells$Board", "shut", "[Z", "SeaCells") ∈ q_nsL := List.mem_of_getElem? (i := 39) (by decide +kernel)
theorem ns_40 : ("SeaCells$Stepper", 97, "SeaCells$Board", "laws", "LSeaCells$Laws;", "SeaCells") ∈ q_nsL := List.mem_of_getElem? (i := 40) (by decide +kernel)
theorem ns_41 : ("SeaCells", 201, "SeaCells$Board", "laws", "LSeaCells$Laws;", "SeaCells") ∈ q_nsL := List.mem_of_getElem? (i := 41) (by decide +kernel)
theorem ns_42 : ("SeaCells$Stepper", 127, "SeaCells$Board", "rivers", "LSeaCells$Rivers;", "SeaCells") ∈ q_nsL := List.mem_of_getElem? (i := 42) (by decide +kernel)
theorem ns_43 : ("SeaCells", 219, "SeaCells$Board", "rivers", "LSeaCells$Rivers;", "SeaCells") ∈ q_nsL := List.mem_of_getElem? (i := 43) (by decide +kernel)
theorem ns_44 : ("SeaCells", 309, "SeaCells$Board", "lie", "LSeaCells$Lie;", "SeaCells") ∈ q_nsL := List.mem_of_getElem? (i := 44) (by decide +kernel)
theorem ns_45 : ("SeaCells", 431, "SeaCells$Board", "posts", "[I", "SeaCells") ∈ q_nsL := List.mem_of_getElem? (i := 45) (by decide +kernel)
theorem ns_46 : ("SeaCells", 428, "SeaCells$Board", "postCount", "I", "SeaCells") ∈ q_nsL := List.mem_of_getElem? (i := 46) (by decide +kernel)
theorem ns_47 : ("SeaCells", 305, "SeaCells$Board", "there", "Z", "SeaCells") ∈ q_nsL := List.mem_of_getElem? (i := 47) (by decide +kernel)
theorem ns_48 : ("SeaCells", 276, "SeaCells$Board", "kind", "I", "SeaCells") ∈ q_nsL := List.mem_of_getElem? (i := 48) (by decide +kernel)
theorem ns_49 : ("SeaCells$Boat", 31, "SeaCells$Board", "w", "I", "SeaCells") ∈ q_nsL := List.mem_of_getElem? (i := 49) (by decide +kernel)
theorem ns_50 : ("SeaCells$Stepper", 147, "SeaCells$Board", "w", "I", "SeaCells") ∈ q_nsL := List.mem_of_getElem? (i := 50) (by decide +kernel)
theorem ns_51 : ("SeaCells", 364, "SeaCells$Board", "w", "I", "SeaCells") ∈ q_nsL := List.mem_of_getElem? (i := 51) (by decide +kernel)
theorem ns_52 : ("SeaCells$Stepper", 144, "SeaCells$Board", "h", "I", "SeaCells") ∈ q_nsL := List.mem_of_getElem? (i := 52) (by decide +kernel)
theorem ns_53 : ("SeaCells", 367, "SeaCells$Board", "h", "I", "SeaCells") ∈ q_nsL := List.mem_of_getElem? (i := 53) (by decide +kernel)
theorem ns_54 : ("SeaCells$Stepper", 75, "SeaCells$Board", "steps", "I", "SeaCells") ∈ q_nsL := List.mem_of_getElem? (i := 54) (by decide +kernel)
theorem ns_55 : ("SeaCells$Stepper", 60, "SeaCells$Board", "rain", "I", "SeaCells") ∈ q_nsL := List.mem_of_getElem? (i := 55) (by decide +kernel)
theorem ns_56 : ("SeaCells$Stepper", 157, "SeaCells$Board", "lent", "I", "SeaCells") ∈ q_nsL := List.mem_of_getElem? (i := 56) (by decide +kernel)
theorem ns_57 : ("SeaCells", 240, "SeaCells$Board", "tideRow", "I", "SeaCells") ∈ q_nsL := List.mem_of_getElem? (i := 57) (by decide +kernel)
theorem ns_58 : ("SeaCells", 243, "SeaCells$Board", "tideMore", "I", "SeaCells") ∈ q_nsL := List.mem_of_getElem? (i := 58) (by decide +kernel)
theorem ns_59 : ("SeaCells", 400, "SeaCells$Script", "letter", "I", "SeaCells") ∈ q_nsL := List.mem_of_getElem? (i := 59) (by decide +kernel)
theorem ns_60 : ("SeaCells", 403, "SeaCells$Script", "number", "I", "SeaCells") ∈ q_nsL := List.mem_of_getElem? (i := 60) (by decide +kernel)
theorem ns_61 : ("SeaCells", 154, "SeaCells$Script", "fault", "I", "SeaCells") ∈ q_nsL := List.mem_of_getElem? (i := 61) (by decide +kernel)
theorem ns_62 : ("SeaCells", 361, "SeaCells$Tone", "c", "J", "SeaCells") ∈ q_nsL := List.mem_of_getElem? (i := 62) (by decide +kernel)
theorem ns_63 : ("SeaCells", 358, "SeaCells$Tone", "s", "J", "SeaCells") ∈ q_nsL := List.mem_of_getElem? (i := 63) (by decide +kernel)
theorem ns_64 : ("SeaCells", 355, "SeaCells$Tone", "heard", "Z", "SeaCells") ∈ q_nsL := List.mem_of_getElem? (i := 64) (by decide +kernel)
theorem ns_65 : ("SeaCells", 285, "SeaCells$Boat", "board", "I", "SeaCells") ∈ q_nsL := List.mem_of_getElem? (i := 65) (by decide +kernel)
theorem ns_66 : ("SeaCells", 288, "SeaCells$Boat", "cell", "I", "SeaCells") ∈ q_nsL := List.mem_of_getElem? (i := 66) (by decide +kernel)
theorem ns_67 : ("SeaCells", 324, "SeaCells$Boat", "draught", "I", "SeaCells") ∈ q_nsL := List.mem_of_getElem? (i := 67) (by decide +kernel)
theorem ns_68 : ("SeaCells$Tone", 34, "SeaCells$Gauge", "levels", "[I", "SeaCells") ∈ q_nsL := List.mem_of_getElem? (i := 68) (by decide +kernel)
theorem ns_69 : ("SeaCells", 336, "SeaCells$Gauge", "levels", "[I", "SeaCells") ∈ q_nsL := List.mem_of_getElem? (i := 69) (by decide +kernel)
theorem ns_70 : ("SeaCells$Tone", 30, "SeaCells$Gauge", "lost", "[Z", "SeaCells") ∈ q_nsL := List.mem_of_getElem? (i := 70) (by decide +kernel)
theorem ns_71 : ("SeaCells", 339, "SeaCells$Gauge", "lost", "[Z", "SeaCells") ∈ q_nsL := List.mem_of_getElem? (i := 71) (by decide +kernel)
theorem ns_72 : ("SeaCells", 293, "SeaCells$Gauge", "board", "I", "SeaCells") ∈ q_nsL := List.mem_of_getElem? (i := 72) (by decide +kernel)
theorem ns_73 : ("SeaCells", 294, "SeaCells$Gauge", "cell", "I", "SeaCells") ∈ q_nsL := List.mem_of_getElem? (i := 73) (by decide +kernel)
theorem ns_74 : ("SeaCells$Tone", 20, "SeaCells$Gauge", "size", "I", "SeaCells") ∈ q_nsL := List.mem_of_getElem? (i := 74) (by decide +kernel)
def q_fu : Nat := 4000
def q_ia (q : Nat × Nat) : Bool := decide (q_at q.1 = 0) && q_ok q.1 q.2
theorem q_ia_at {q : Nat × Nat} (h : q_ia q = true) : q_at q.1 = 0 := of_decide_eq_true (Bool.and_eq_true _ _ ▸ h).1
theorem q_ia_ok {q : Nat × Nat} (h : q_ia q = true) : q_ok q.1 q.2 = true := (Bool.and_eq_true _ _ ▸ h).2
def q_rlen (j : Nat) : Nat := if j = 0 then 48 else 40
theorem row_at {j : Nat} (h : j < 3) : q_at (30 + j) = 0 := by
  match j, h with
  | 0, _ => exact at_30
  | 1, _ => exact at_31
  | 2, _ => exact at_32
theorem row_al {j : Nat} (h : j < 3) (e : Nat) : q_al (30 + j) e = q_rlen j := by
  match j, h with
  | 0, _ => exact al_30 e
  | 1, _ => exact al_31 e
  | 2, _ => exact al_32 e
theorem row_ok {j e : Nat} (h : j < 3) (he : e < q_slen j) : q_ok (30 + j) e = true := by
  match j, h with
  | 0, _ => exact ok_30 he
  | 1, _ => exact ok_31 he
  | 2, _ => exact ok_32 he
theorem q_rep_spx {G : qG} {μ : qM} {q : Nat × Nat} (a b : Nat) (hm : (a, b) ∈ q_objs) (h : ¬ (a = 7 ∧ b = 0)) : q_rep G (q_sp μ q) a b = q_rep G μ a b := by
  refine q_rep_sp a b (fun h7 => ?_)
  subst h7
  have h1 : b < q_cn 7 := of_decide_eq_true (q_mem_ok hm)
  rw [cn_7] at h1
  exact h ⟨rfl, by omega⟩
section FR
variable {ρ : Type} {l : Launch} {G : qG} {M : qMd} {X : qX ρ} {pc : Nat} {lv : List (Nat × Value)} {st : List Value} {μ : qM} {r : Option (ρ × qM)}
theorem pf_X3_0 {idx o : Nat} {x : Int32} (d : decode M.2.2.2.1 pc = .ok (.putfield idx, 3)) (n : Nat) (hn : pc + 3 = n) (hw : Cond.fieldLink M.2.1 idx (TX3 0).1 (TX3 0).2.1 (TX3 0).2.2.1 ∈ q_tb) (hok : q_ok 3 o = true) (K : qAW l G M X n lv st (q_si μ 3 o 0 x) r) : qAW l G M X pc lv (.int x :: .ref (q_ad G 3 o) :: st) μ r :=
  aw_put d n hn hw (T := TX3) (f := 0) (N := 4) (μ2 := q_si μ 3 o 0 x) in_X3 tyX3_ok nmX3 at_3 hok rfl rfl (by decide) (Nat.le_of_ble_eq_true rfl) rfl rfl rfl rfl (by simp [q_fl, q_si]) (fun a b _ h => q_rep_si a b h) K
theorem pf_X3_1 {idx o : Nat} {x : Int32} (d : decode M.2.2.2.1 pc = .ok (.putfield idx, 3)) (n : Nat) (hn : pc + 3 = n) (hw : Cond.fieldLink M.2.1 idx (TX3 1).1 (TX3 1).2.1 (TX3 1).2.2.1 ∈ q_tb) (hok : q_ok 3 o = true) (K : qAW l G M X n lv st (q_si μ 3 o 1 x) r) : qAW l G M X pc lv (.int x :: .ref (q_ad G 3 o) :: st) μ r :=
  aw_put d n hn hw (T := TX3) (f := 1) (N := 4) (μ2 := q_si μ 3 o 1 x) in_X3 tyX3_ok nmX3 at_3 hok rfl rfl (by decide) (Nat.le_of_ble_eq_true rfl) rfl rfl rfl rfl (by simp [q_fl, q_si]) (fun a b _ h => q_rep_si a b h) K
theorem pf_X3_2 {idx o : Nat} {x : Int32} (d : decode M.2.2.2.1 pc = .ok (.putfield idx, 3)) (n : Nat) (hn : pc + 3 = n) (hw : Cond.fieldLink M.2.1 idx (TX3 2).1 (TX3 2).2.1 (TX3 2).2.2.1 ∈ q_tb) (hok : q_ok 3 o = true) (K : qAW l G M X n lv st (q_si μ 3 o 2 x) r) : qAW l G M X pc lv (.int x :: .ref (q_ad G 3 o) :: st) μ r :=
  aw_put d n hn hw (T := TX3) (f := 2) (N := 4) (μ2 := q_si μ 3 o 2 x) in_X3 tyX3_ok nmX3 at_3 hok rfl rfl (by decide) (Nat.le_of_ble_eq_true rfl) rfl rfl rfl rfl (by simp [q_fl, q_si]) (fun a b _ h => q_rep_si a b h) K
theorem pf_X3_3 {idx o : Nat} {x : Int32} (d : decode M.2.2.2.1 pc = .ok (.putfield idx, 3)) (n : Nat) (hn : pc + 3 = n) (hw : Cond.fieldLink M.2.1 idx (TX3 3).1 (TX3 3).2.1 (TX3 3).2.2.1 ∈ q_tb) (hok : q_ok 3 o = true) (K : qAW l G M X n lv st (q_si μ 3 o 3 x) r) : qAW l G M X pc lv (.int x :: .ref (q_ad G 3 o) :: st) μ r :=
  aw_put d n hn hw (T := TX3) (f := 3) (N := 4) (μ2 := q_si μ 3 o 3 x) in_X3 tyX3_ok nmX3 at_3 hok rfl rfl (by decide) (Nat.le_of_ble_eq_true rfl) rfl rfl rfl rfl (by simp [q_fl, q_si]) (fun a b _ h => q_rep_si a b h) K
theorem pf_X0_10 {idx o : Nat} {x : Int32} (d : decode M.2.2.2.1 pc = .ok (.putfield idx, 3)) (n : Nat) (hn : pc + 3 = n) (hw : Cond.fieldLink M.2.1 idx (TX0 10).1 (TX0 10).2.1 (TX0 10).2.2.1 ∈ q_tb) (hok : q_ok 2 o = true) (hb : q_b x = true) (K : qAW l G M X n lv st (q_si μ 2 o 10 x) r) : qAW l G M X pc lv (.int x :: .ref (q_ad G 2 o) :: st) μ r :=
  aw_put d n hn hw (T := TX0) (f := 10) (N := 19) (μ2 := q_si μ 2 o 10 x) in_X0 tyX0_ok nmX0 at_2 hok rfl rfl (by decide) (Nat.le_of_ble_eq_true rfl) rfl rfl (q_nb hb).1 (q_nb hb).2 (by simp [q_fl, q_si]) (fun a b _ h => q_rep_si a b h) K
theorem pf_X0_11 {idx o : Nat} {x : Int32} (d : decode M.2.2.2.1 pc = .ok (.putfield idx, 3)) (n : Nat) (hn : pc + 3 = n) (hw : Cond.fieldLink M.2.1 idx (TX0 11).1 (TX0 11).2.1 (TX0 11).2.2.1 ∈ q_tb) (hok : q_ok 2 o = true) (K : qAW l G M X n lv st (q_si μ 2 o 11 x) r) : qAW l G M X pc lv (.int x :: .ref (q_ad G 2 o) :: st) μ r :=
  aw_put d n hn hw (T := TX0) (f := 11) (N := 19) (μ2 := q_si μ 2 o 11 x) in_X0 tyX0_ok nmX0 at_2 hok rfl rfl (by decide) (Nat.le_of_ble_eq_true rfl) rfl rfl rfl rfl (by simp [q_fl, q_si]) (fun a b _ h => q_rep_si a b h) K
theorem pf_X0_12 {idx o : Nat} {x : Int32} (d : decode M.2.2.2.1 pc = .ok (.putfield idx, 3)) (n : Nat) (hn : pc + 3 = n) (hw : Cond.fieldLink M.2.1 idx (TX0 12).1 (TX0 12).2.1 (TX0 12).2.2.1 ∈ q_tb) (hok : q_ok 2 o = true) (K : qAW l G M X n lv st (q_si μ 2 o 12 x) r) : qAW l G M X pc lv (.int x :: .ref (q_ad G 2 o) :: st) μ r :=
  aw_put d n hn hw (T := TX0) (f := 12) (N := 19) (μ2 := q_si μ 2 o 12 x) in_X0 tyX0_ok nmX0 at_2 hok rfl rfl (by decide) (Nat.le_of_ble_eq_true rfl) rfl rfl rfl rfl (by simp [q_fl, q_si]) (fun a b _ h => q_rep_si a b h) K
theorem pf_X0_13 {idx o : Nat} {x : Int32} (d : decode M.2.2.2.1 pc = .ok (.putfield idx, 3)) (n : Nat) (hn : pc + 3 = n) (hw : Cond.fieldLink M.2.1 idx (TX0 13).1 (TX0 13).2.1 (TX0 13).2.2.1 ∈ q_tb) (hok : q_ok 2 o = true) (K : qAW l G M X n lv st (q_si μ 2 o 13 x) r) : qAW l G M X pc lv (.int x :: .ref (q_ad G 2 o) :: st) μ r :=
  aw_put d n hn hw (T := TX0) (f := 13) (N := 19) (μ2 := q_si μ 2 o 13 x) in_X0 tyX0_ok nmX0 at_2 hok rfl rfl (by decide) (Nat.le_of_ble_eq_true rfl) rfl rfl rfl rfl (by simp [q_fl, q_si]) (fun a b _ h => q_rep_si a b h) K
theorem pf_X0_14 {idx o : Nat} {x : Int32} (d : decode M.2.2.2.1 pc = .ok (.putfield idx, 3)) (n : Nat) (hn : pc + 3 = n) (hw : Cond.fieldLink M.2.1 idx (TX0 14).1 (TX0 14).2.1 (TX0 14).2.2.1 ∈ q_tb) (hok : q_ok 2 o = true) (K : qAW l G M X n lv st (q_si μ 2 o 14 x) r) : qAW l G M X pc lv (.int x :: .ref (q_ad G 2 o) :: st) μ r :=
  aw_put d n hn hw (T := TX0) (f := 14) (N := 19) (μ2 := q_si μ 2 o 14 x) in_X0 tyX0_ok nmX0 at_2 hok rfl rfl (by decide) (Nat.le_of_ble_eq_true rfl) rfl rfl rfl rfl (by simp [q_fl, q_si]) (fun a b _ h => q_rep_si a b h) K
theorem pf_X0_15 {idx o : Nat} {x : Int32} (d : decode M.2.2.2.1 pc = .ok (.putfield idx, 3)) (n : Nat) (hn : pc + 3 = n) (hw : Cond.fieldLink M.2.1 idx (TX0 15).1 (TX0 15).2.1 (TX0 15).2.2.1 ∈ q_tb) (hok : q_ok 2 o = true) (K : qAW l G M X n lv st (q_si μ 2 o 15 x) r) : qAW l G M X pc lv (.int x :: .ref (q_ad G 2 o) :: st) μ r :=
  aw_put d n hn hw (T := TX0) (f := 15) (N := 19) (μ2 := q_si μ 2 o 15 x) in_X0 tyX0_ok nmX0 at_2 hok rfl rfl (by decide) (Nat.le_of_ble_eq_true rfl) rfl rfl rfl rfl (by simp [q_fl, q_si]) (fun a b _ h => q_rep_si a b h) K
theorem pf_X0_16 {idx o : Nat} {x : Int32} (d : decode M.2.2.2.1 pc = .ok (.putfield idx, 3)) (n : Nat) (hn : pc + 3 = n) (hw : Cond.fieldLink M.2.1 idx (TX0 16).1 (TX0 16).2.1 (TX0 16).2.2.1 ∈ q_tb) (hok : q_ok 2 o = true) (K : qAW l G M X n lv st (q_si μ 2 o 16 x) r) : qAW l G M X pc lv (.int x :: .ref (q_ad G 2 o) :: st) μ r :=
  aw_put d n hn hw (T := TX0) (f := 16) (N := 19) (μ2 := q_si μ 2 o 16 x) in_X0 tyX0_ok nmX0 at_2 hok rfl rfl (by decide) (Nat.le_of_ble_eq_true rfl) rfl rfl rfl rfl (by simp [q_fl, q_si]) (fun a b _ h => q_rep_si a b h) K
theorem pf_X0_17 {idx o : Nat} {x : Int32} (d : decode M.2.2.2.1 pc = .ok (.putfield idx, 3)) (n : Nat) (hn : pc + 3 = n) (hw : Cond.fieldLink M.2.1 idx (TX0 17).1 (TX0 17).2.1 (TX0 17).2.2.1 ∈ q_tb) (hok : q_ok 2 o = true) (K : qAW l G M X n lv st (q_si μ 2 o 17 x) r) : qAW l G M X pc lv (.int x :: .ref (q_ad G 2 o) :: st) μ r :=
  aw_put d n hn hw (T := TX0) (f := 17) (N := 19) (μ2 := q_si μ 2 o 17 x) in_X0 tyX0_ok nmX0 at_2 hok rfl rfl (by decide) (Nat.le_of_ble_eq_true rfl) rfl rfl rfl rfl (by simp [q_fl, q_si]) (fun a b _ h => q_rep_si a b h) K
theorem pf_X0_18 {idx o : Nat} {x : Int32} (d : decode M.2.2.2.1 pc = .ok (.putfield idx, 3)) (n : Nat) (hn : pc + 3 = n) (hw : Cond.fieldLink M.2.1 idx (TX0 18).1 (TX0 18).2.1 (TX0 18).2.2.1 ∈ q_tb) (hok : q_ok 2 o = true) (K : qAW l G M X n lv st (q_si μ 2 o 18 x) r) : qAW l G M X pc lv (.int x :: .ref (q_ad G 2 o) :: st) μ r :=
  aw_put d n hn hw (T := TX0) (f := 18) (N := 19) (μ2 := q_si μ 2 o 18 x) in_X0 tyX0_ok nmX0 at_2 hok rfl rfl (by decide) (Nat.le_of_ble_eq_true rfl) rfl rfl rfl rfl (by simp [q_fl, q_si]) (fun a b _ h => q_rep_si a b h) K
theorem pf_X0_9 {idx o : Nat} {x : Int32} (d : decode M.2.2.2.1 pc = .ok (.putfield idx, 3)) (n : Nat) (hn : pc + 3 = n) (hw : Cond.fieldLink M.2.1 idx (TX0 9).1 (TX0 9).2.1 (TX0 9).2.2.1 ∈ q_tb) (hok : q_ok 2 o = true) (K : qAW l G M X n lv st (q_si μ 2 o 9 x) r) : qAW l G M X pc lv (.int x :: .ref (q_ad G 2 o) :: st) μ r :=
  aw_put d n hn hw (T := TX0) (f := 9) (N := 19) (μ2 := q_si μ 2 o 9 x) in_X0 tyX0_ok nmX0 at_2 hok rfl rfl (by decide) (Nat.le_of_ble_eq_true rfl) rfl rfl rfl rfl (by simp [q_fl, q_si]) (fun a b _ h => q_rep_si a b h) K
theorem gf_X0_6 {idx o : Nat} (d : decode M.2.2.2.1 pc = .ok (.getfield idx, 3)) (n : Nat) (hn : pc + 3 = n) (hw : Cond.fieldLink M.2.1 idx (TX0 6).1 (TX0 6).2.1 (TX0 6).2.2.1 ∈ q_tb) (hok : q_ok 2 o = true) (K : qAW l G M X n lv (.ref (q_ad G 4 o) :: st) μ r) : qAW l G M X pc lv (.ref (q_ad G 2 o) :: st) μ r :=
  aw_get d n hn hw (T := TX0) (f := 6) (N := 19) in_X0 at_2 hok rfl rfl (by decide) rfl K
theorem pfN_X5_2 {idx o : Nat} {x : Int32} (d : decode M.2.2.2.1 pc = .ok (.putfield idx, 3)) (n : Nat) (hn : pc + 3 = n) (host : String) (hw : (M.2.1, idx, (TX5 2).1, (TX5 2).2.1, (TX5 2).2.2.1, host) ∈ q_nsL) (hok : q_ok 4 o = true) (K : qAW l G M X n lv st (q_si μ 4 o 2 x) r) : qAW l G M X pc lv (.int x :: .ref (q_ad G 4 o) :: st) μ r :=
  aw_putN d n hn host hw (T := TX5) (f := 2) (N := 3) (μ2 := q_si μ 4 o 2 x) in_X5 tyX5_ok nmX5 at_4 hok rfl rfl (by decide) (Nat.le_of_ble_eq_true rfl) rfl rfl rfl rfl (by simp [q_fl, q_si]) (fun a b _ h => q_rep_si a b h) K
theorem gf_X0_5 {idx o : Nat} (d : decode M.2.2.2.1 pc = .ok (.getfield idx, 3)) (n : Nat) (hn : pc + 3 = n) (hw : Cond.fieldLink M.2.1 idx (TX0 5).1 (TX0 5).2.1 (TX0 5).2.2.1 ∈ q_tb) (hok : q_ok 2 o = true) (K : qAW l G M X n lv (.ref (q_ad G 3 o) :: st) μ r) : qAW l G M X pc lv (.ref (q_ad G 2 o) :: st) μ r :=
  aw_get d n hn hw (T := TX0) (f := 5) (N := 19) in_X0 at_2 hok rfl rfl (by decide) rfl K
theorem gf_X0_7 {idx o : Nat} (d : decode M.2.2.2.1 pc = .ok (.getfield idx, 3)) (n : Nat) (hn : pc + 3 = n) (hw : Cond.fieldLink M.2.1 idx (TX0 7).1 (TX0 7).2.1 (TX0 7).2.2.1 ∈ q_tb) (hok : q_ok 2 o = true) (K : qAW l G M X n lv (.ref (q_ad G 5 o) :: st) μ r) : qAW l G M X pc lv (.ref (q_ad G 2 o) :: st) μ r :=
  aw_get d n hn hw (T := TX0) (f := 7) (N := 19) in_X0 at_2 hok rfl rfl (by decide) rfl K
theorem pfN_X4_2 {idx o : Nat} {x : Int32} (d : decode M.2.2.2.1 pc = .ok (.putfield idx, 3)) (n : Nat) (hn : pc + 3 = n) (host : String) (hw : (M.2.1, idx, (TX4 2).1, (TX4 2).2.1, (TX4 2).2.2.1, host) ∈ q_nsL) (hok : q_ok 5 o = true) (K : qAW l G M X n lv st (q_si μ 5 o 2 x) r) : qAW l G M X pc lv (.int x :: .ref (q_ad G 5 o) :: st) μ r :=
  aw_putN d n hn host hw (T := TX4) (f := 2) (N := 5) (μ2 := q_si μ 5 o 2 x) in_X4 tyX4_ok nmX4 at_5 hok rfl rfl (by decide) (Nat.le_of_ble_eq_true rfl) rfl rfl rfl rfl (by simp [q_fl, q_si]) (fun a b _ h => q_rep_si a b h) K
theorem gf_X0_0 {idx o : Nat} (d : decode M.2.2.2.1 pc = .ok (.getfield idx, 3)) (n : Nat) (hn : pc + 3 = n) (hw : Cond.fieldLink M.2.1 idx (TX0 0).1 (TX0 0).2.1 (TX0 0).2.2.1 ∈ q_tb) (hok : q_ok 2 o = true) (K : qAW l G M X n lv (.ref (q_ad G 37 o) :: st) μ r) : qAW l G M X pc lv (.ref (q_ad G 2 o) :: st) μ r :=
  aw_get d n hn hw (T := TX0) (f := 0) (N := 19) in_X0 at_2 hok rfl rfl (by decide) rfl K
theorem gf_X0_1 {idx o : Nat} (d : decode M.2.2.2.1 pc = .ok (.getfield idx, 3)) (n : Nat) (hn : pc + 3 = n) (hw : Cond.fieldLink M.2.1 idx (TX0 1).1 (TX0 1).2.1 (TX0 1).2.2.1 ∈ q_tb) (hok : q_ok 2 o = true) (K : qAW l G M X n lv (.ref (q_ad G 38 o) :: st) μ r) : qAW l G M X pc lv (.ref (q_ad G 2 o) :: st) μ r :=
  aw_get d n hn hw (T := TX0) (f := 1) (N := 19) in_X0 at_2 hok rfl rfl (by decide) rfl K
theorem gf_X0_2 {idx o : Nat} (d : decode M.2.2.2.1 pc = .ok (.getfield idx, 3)) (n : Nat) (hn : pc + 3 = n) (hw : Cond.fieldLink M.2.1 idx (TX0 2).1 (TX0 2).2.1 (TX0 2).2.2.1 ∈ q_tb) (hok : q_ok 2 o = true) (K : qAW l G M X n lv (.ref (q_ad G 39 o) :: st) μ r) : qAW l G M X pc lv (.ref (q_ad G 2 o) :: st) μ r :=
  aw_get d n hn hw (T := TX0) (f := 2) (N := 19) in_X0 at_2 hok rfl rfl (by decide) rfl K
theorem gf_X0_3 {idx o : Nat} (d : decode M.2.2.2.1 pc = .ok (.getfield idx, 3)) (n : Nat) (hn : pc + 3 = n) (hw : Cond.fieldLink M.2.1 idx (TX0 3).1 (TX0 3).2.1 (TX0 3).2.2.1 ∈ q_tb) (hok : q_ok 2 o = true) (K : qAW l G M X n lv (.ref (q_ad G 40 o) :: st) μ r) : qAW l G M X pc lv (.ref (q_ad G 2 o) :: st) μ r :=
  aw_get d n hn hw (T := TX0) (f := 3) (N := 19) in_X0 at_2 hok rfl rfl (by decide) rfl K
theorem gf_X0_4 {idx o : Nat} (d : decode M.2.2.2.1 pc = .ok (.getfield idx, 3)) (n : Nat) (hn : pc + 3 = n) (hw : Cond.fieldLink M.2.1 idx (TX0 4).1 (TX0 4).2.1 (TX0 4).2.2.1 ∈ q_tb) (hok : q_ok 2 o = true) (K : qAW l G M X n lv (.ref (q_ad G 41 o) :: st) μ r) : qAW l G M X pc lv (.ref (q_ad G 2 o) :: st) μ r :=
  aw_get d n hn hw (T := TX0) (f := 4) (N := 19) in_X0 at_2 hok rfl rfl (by decide) rfl K
theorem gf_X3_0 {idx o : Nat} (d : decode M.2.2.2.1 pc = .ok (.getfield idx, 3)) (n : Nat) (hn : pc + 3 = n) (hw : Cond.fieldLink M.2.1 idx (TX3 0).1 (TX3 0).2.1 (TX3 0).2.2.1 ∈ q_tb) (hok : q_ok 3 o = true) (K : qAW l G M X n lv (.int (μ.1 3 o 0) :: st) μ r) : qAW l G M X pc lv (.ref (q_ad G 3 o) :: st) μ r :=
  aw_get d n hn hw (T := TX3) (f := 0) (N := 4) in_X3 at_3 hok rfl rfl (by decide) rfl K
theorem gf_X3_1 {idx o : Nat} (d : decode M.2.2.2.1 pc = .ok (.getfield idx, 3)) (n : Nat) (hn : pc + 3 = n) (hw : Cond.fieldLink M.2.1 idx (TX3 1).1 (TX3 1).2.1 (TX3 1).2.2.1 ∈ q_tb) (hok : q_ok 3 o = true) (K : qAW l G M X n lv (.int (μ.1 3 o 1) :: st) μ r) : qAW l G M X pc lv (.ref (q_ad G 3 o) :: st) μ r :=
  aw_get d n hn hw (T := TX3) (f := 1) (N := 4) in_X3 at_3 hok rfl rfl (by decide) rfl K
theorem gf_X3_2 {idx o : Nat} (d : decode M.2.2.2.1 pc = .ok (.getfield idx, 3)) (n : Nat) (hn : pc + 3 = n) (hw : Cond.fieldLink M.2.1 idx (TX3 2).1 (TX3 2).2.1 (TX3 2).2.2.1 ∈ q_tb) (hok : q_ok 3 o = true) (K : qAW l G M X n lv (.int (μ.1 3 o 2) :: st) μ r) : qAW l G M X pc lv (.ref (q_ad G 3 o) :: st) μ r :=
  aw_get d n hn hw (T := TX3) (f := 2) (N := 4) in_X3 at_3 hok rfl rfl (by decide) rfl K
theorem gf_X3_3 {idx o : Nat} (d : decode M.2.2.2.1 pc = .ok (.getfield idx, 3)) (n : Nat) (hn : pc + 3 = n) (hw : Cond.fieldLink M.2.1 idx (TX3 3).1 (TX3 3).2.1 (TX3 3).2.2.1 ∈ q_tb) (hok : q_ok 3 o = true) (K : qAW l G M X n lv (.int (μ.1 3 o 3) :: st) μ r) : qAW l G M X pc lv (.ref (q_ad G 3 o) :: st) μ r :=
  aw_get d n hn hw (T := TX3) (f := 3) (N := 4) in_X3 at_3 hok rfl rfl (by decide) rfl K
theorem gf_X5_2 {idx o : Nat} (d : decode M.2.2.2.1 pc = .ok (.getfield idx, 3)) (n : Nat) (hn : pc + 3 = n) (hw : Cond.fieldLink M.2.1 idx (TX5 2).1 (TX5 2).2.1 (TX5 2).2.2.1 ∈ q_tb) (hok : q_ok 4 o = true) (K : qAW l G M X n lv (.int (μ.1 4 o 2) :: st) μ r) : qAW l G M X pc lv (.ref (q_ad G 4 o) :: st) μ r :=
  aw_get d n hn hw (T := TX5) (f := 2) (N := 3) in_X5 at_4 hok rfl rfl (by decide) rfl K
theorem pf_X5_2 {idx o : Nat} {x : Int32} (d : decode M.2.2.2.1 pc = .ok (.putfield idx, 3)) (n : Nat) (hn : pc + 3 = n) (hw : Cond.fieldLink M.2.1 idx (TX5 2).1 (TX5 2).2.1 (TX5 2).2.2.1 ∈ q_tb) (hok : q_ok 4 o = true) (K : qAW l G M X n lv st (q_si μ 4 o 2 x) r) : qAW l G M X pc lv (.int x :: .ref (q_ad G 4 o) :: st) μ r :=
  aw_put d n hn hw (T := TX5) (f := 2) (N := 3) (μ2 := q_si μ 4 o 2 x) in_X5 tyX5_ok nmX5 at_4 hok rfl rfl (by decide) (Nat.le_of_ble_eq_true rfl) rfl rfl rfl rfl (by simp [q_fl, q_si]) (fun a b _ h => q_rep_si a b h) K
theorem gf_X5_0 {idx o : Nat} (d : decode M.2.2.2.1 pc = .ok (.getfield idx, 3)) (n : Nat) (hn : pc + 3 = n) (hw : Cond.fieldLink M.2.1 idx (TX5 0).1 (TX5 0).2.1 (TX5 0).2.2.1 ∈ q_tb) (hok : q_ok 4 o = true) (K : qAW l G M X n lv (.ref (q_ad G 43 o) :: st) μ r) : qAW l G M X pc lv (.ref (q_ad G 4 o) :: st) μ r :=
  aw_get d n hn hw (T := TX5) (f := 0) (N := 3) in_X5 at_4 hok rfl rfl (by decide) rfl K
theorem gf_X5_1 {idx o : Nat} (d : decode M.2.2.2.1 pc = .ok (.getfield idx, 3)) (n : Nat) (hn : pc + 3 = n) (hw : Cond.fieldLink M.2.1 idx (TX5 1).1 (TX5 1).2.1 (TX5 1).2.2.1 ∈ q_tb) (hok : q_ok 4 o = true) (K : qAW l G M X n lv (.ref (q_ad G 44 o) :: st) μ r) : qAW l G M X pc lv (.ref (q_ad G 4 o) :: st) μ r :=
  aw_get d n hn hw (T := TX5) (f := 1) (N := 3) in_X5 at_4 hok rfl rfl (by decide) rfl K
theorem gf_X0_10 {idx o : Nat} (d : decode M.2.2.2.1 pc = .ok (.getfield idx, 3)) (n : Nat) (hn : pc + 3 = n) (hw : Cond.fieldLink M.2.1 idx (TX0 10).1 (TX0 10).2.1 (TX0 10).2.2.1 ∈ q_tb) (hok : q_ok 2 o = true) (K : qAW l G M X n lv (.int (μ.1 2 o 10) :: st) μ r) : qAW l G M X pc lv (.ref (q_ad G 2 o) :: st) μ r :=
  aw_get d n hn hw (T := TX0) (f := 10) (N := 19) in_X0 at_2 hok rfl rfl (by decide) rfl K
theorem gf_X0_11 {idx o : Nat} (d : decode M.2.2.2.1 pc = .ok (.getfield idx, 3)) (n : Nat) (hn : pc + 3 = n) (hw : Cond.fieldLink M.2.1 idx (TX0 11).1 (TX0 11).2.1 (TX0 11).2.2.1 ∈ q_tb) (hok : q_ok 2 o = true) (K : qAW l G M X n lv (.int (μ.1 2 o 11) :: st) μ r) : qAW l G M X pc lv (.ref (q_ad G 2 o) :: st) μ r :=
  aw_get d n hn hw (T := TX0) (f := 11) (N := 19) in_X0 at_2 hok rfl rfl (by decide) rfl K
theorem gf_X0_12 {idx o : Nat} (d : decode M.2.2.2.1 pc = .ok (.getfield idx, 3)) (n : Nat) (hn : pc + 3 = n) (hw : Cond.fieldLink M.2.1 idx (TX0 12).1 (TX0 12).2.1 (TX0 12).2.2.1 ∈ q_tb) (hok : q_ok 2 o = true) (K : qAW l G M X n lv (.int (μ.1 2 o 12) :: st) μ r) : qAW l G M X pc lv (.ref (q_ad G 2 o) :: st) μ r :=
  aw_get d n hn hw (T := TX0) (f := 12) (N := 19) in_X0 at_2 hok rfl rfl (by decide) rfl K
theorem gf_X0_13 {idx o : Nat} (d : decode M.2.2.2.1 pc = .ok (.getfield idx, 3)) (n : Nat) (hn : pc + 3 = n) (hw : Cond.fieldLink M.2.1 idx (TX0 13).1 (TX0 13).2.1 (TX0 13).2.2.1 ∈ q_tb) (hok : q_ok 2 o = true) (K : qAW l G M X n lv (.int (μ.1 2 o 13) :: st) μ r) : qAW l G M X pc lv (.ref (q_ad G 2 o) :: st) μ r :=
  aw_get d n hn hw (T := TX0) (f := 13) (N := 19) in_X0 at_2 hok rfl rfl (by decide) rfl K
theorem gf_X0_14 {idx o : Nat} (d : decode M.2.2.2.1 pc = .ok (.getfield idx, 3)) (n : Nat) (hn : pc + 3 = n) (hw : Cond.fieldLink M.2.1 idx (TX0 14).1 (TX0 14).2.1 (TX0 14).2.2.1 ∈ q_tb) (hok : q_ok 2 o = true) (K : qAW l G M X n lv (.int (μ.1 2 o 14) :: st) μ r) : qAW l G M X pc lv (.ref (q_ad G 2 o) :: st) μ r :=
  aw_get d n hn hw (T := TX0) (f := 14) (N := 19) in_X0 at_2 hok rfl rfl (by decide) rfl K
theorem gf_X0_15 {idx o : Nat} (d : decode M.2.2.2.1 pc = .ok (.getfield idx, 3)) (n : Nat) (hn : pc + 3 = n) (hw : Cond.fieldLink M.2.1 idx (TX0 15).1 (TX0 15).2.1 (TX0 15).2.2.1 ∈ q_tb) (hok : q_ok 2 o = true) (K : qAW l G M X n lv (.int (μ.1 2 o 15) :: st) μ r) : qAW l G M X pc lv (.ref (q_ad G 2 o) :: st) μ r :=
  aw_get d n hn hw (T := TX0) (f := 15) (N := 19) in_X0 at_2 hok rfl rfl (by decide) rfl K
theorem gf_X0_16 {idx o : Nat} (d : decode M.2.2.2.1 pc = .ok (.getfield idx, 3)) (n : Nat) (hn : pc + 3 = n) (hw : Cond.fieldLink M.2.1 idx (TX0 16).1 (TX0 16).2.1 (TX0 16).2.2.1 ∈ q_tb) (hok : q_ok 2 o = true) (K : qAW l G M X n lv (.int (μ.1 2 o 16) :: st) μ r) : qAW l G M X pc lv (.ref (q_ad G 2 o) :: st) μ r :=
  aw_get d n hn hw (T := TX0) (f := 16) (N := 19) in_X0 at_2 hok rfl rfl (by decide) rfl K
theorem gf_X0_17 {idx o : Nat} (d : decode M.2.2.2.1 pc = .ok (.getfield idx, 3)) (n : Nat) (hn : pc + 3 = n) (hw : Cond.fieldLink M.2.1 idx (TX0 17).1 (TX0 17).2.1 (TX0 17).2.2.1 ∈ q_tb) (hok : q_ok 2 o = true) (K : qAW l G M X n lv (.int (μ.1 2 o 17) :: st) μ r) : qAW l G M X pc lv (.ref (q_ad G 2 o) :: st) μ r :=
  aw_get d n hn hw (T := TX0) (f := 17) (N := 19) in_X0 at_2 hok rfl rfl (by decide) rfl K
theorem gf_X0_18 {idx o : Nat} (d : decode M.2.2.2.1 pc = .ok (.getfield idx, 3)) (n : Nat) (hn : pc + 3 = n) (hw : Cond.fieldLink M.2.1 idx (TX0 18).1 (TX0 18).2.1 (TX0 18).2.2.1 ∈ q_tb) (hok : q_ok 2 o = true) (K : qAW l G M X n lv (.int (μ.1 2 o 18) :: st) μ r) : qAW l G M X pc lv (.ref (q_ad G 2 o) :: st) μ r :=
  aw_get d n hn hw (T := TX0) (f := 18) (N := 19) in_X0 at_2 hok rfl rfl (by decide) rfl K
theorem gf_X0_9 {idx o : Nat} (d : decode M.2.2.2.1 pc = .ok (.getfield idx, 3)) (n : Nat) (hn : pc + 3 = n) (hw : Cond.fieldLink M.2.1 idx (TX0 9).1 (TX0 9).2.1 (TX0 9).2.2.1 ∈ q_tb) (hok : q_ok 2 o = true) (K : qAW l G M X n lv (.int (μ.1 2 o 9) :: st) μ r) : qAW l G M X pc lv (.ref (q_ad G 2 o) :: st) μ r :=
  aw_get d n hn hw (T := TX0) (f := 9) (N := 19) in_X0 at_2 hok rfl rfl (by decide) rfl K
theorem gf_X0_8 {idx o : Nat} (d : decode M.2.2.2.1 pc = .ok (.getfield idx, 3)) (n : Nat) (hn : pc + 3 = n) (hw : Cond.fieldLink M.2.1 idx (TX0 8).1 (TX0 8).2.1 (TX0 8).2.2.1 ∈ q_tb) (hok : q_ok 2 o = true) (K : qAW l G M X n lv (.ref (q_ad G 42 o) :: st) μ r) : qAW l G M X pc lv (.ref (q_ad G 2 o) :: st) μ r :=
  aw_get d n hn hw (T := TX0) (f := 8) (N := 19) in_X0 at_2 hok rfl rfl (by decide) rfl K
theorem gf_X7_1 {idx o : Nat} (d : decode M.2.2.2.1 pc = .ok (.getfield idx, 3)) (n : Nat) (hn : pc + 3 = n) (hw : Cond.fieldLink M.2.1 idx (TX7 1).1 (TX7 1).2.1 (TX7 1).2.2.1 ∈ q_tb) (hok : q_ok 1 o = true) (K : qAW l G M X n lv (.ref (q_ad G 33 o) :: st) μ r) : qAW l G M X pc lv (.ref (q_ad G 1 o) :: st) μ r :=
  aw_get d n hn hw (T := TX7) (f := 1) (N := 2) in_X7 at_1 hok rfl rfl (by decide) rfl K
theorem gfN_X7_1 {idx o : Nat} (d : decode M.2.2.2.1 pc = .ok (.getfield idx, 3)) (n : Nat) (hn : pc + 3 = n) (host : String) (hw : (M.2.1, idx, (TX7 1).1, (TX7 1).2.1, (TX7 1).2.2.1, host) ∈ q_nsL) (hok : q_ok 1 o = true) (K : qAW l G M X n lv (.ref (q_ad G 33 o) :: st) μ r) : qAW l G M X pc lv (.ref (q_ad G 1 o) :: st) μ r :=
  aw_getN d n hn host hw (T := TX7) (f := 1) (N := 2) in_X7 at_1 hok rfl rfl (by decide) rfl K
theorem gfN_X7_0 {idx o : Nat} (d : decode M.2.2.2.1 pc = .ok (.getfield idx, 3)) (n : Nat) (hn : pc + 3 = n) (host : String) (hw : (M.2.1, idx, (TX7 0).1, (TX7 0).2.1, (TX7 0).2.2.1, host) ∈ q_nsL) (hok : q_ok 1 o = true) (K : qAW l G M X n lv (.ref (q_ad G 20 o) :: st) μ r) : qAW l G M X pc lv (.ref (q_ad G 1 o) :: st) μ r :=
  aw_getN d n hn host hw (T := TX7) (f := 0) (N := 2) in_X7 at_1 hok rfl rfl (by decide) rfl K
theorem gfN_X3_2 {idx o : Nat} (d : decode M.2.2.2.1 pc = .ok (.getfield idx, 3)) (n : Nat) (hn : pc + 3 = n) (host : String) (hw : (M.2.1, idx, (TX3 2).1, (TX3 2).2.1, (TX3 2).2.2.1, host) ∈ q_nsL) (hok : q_ok 3 o = true) (K : qAW l G M X n lv (.int (μ.1 3 o 2) :: st) μ r) : qAW l G M X pc lv (.ref (q_ad G 3 o) :: st) μ r :=
  aw_getN d n hn host hw (T := TX3) (f := 2) (N := 4) in_X3 at_3 hok rfl rfl (by decide) rfl K
theorem gfN_X3_3 {idx o : Nat} (d : decode M.2.2.2.1 pc = .ok (.getfield idx, 3)) (n : Nat) (hn : pc + 3 = n) (host : String) (hw : (M.2.1, idx, (TX3 3).1, (TX3 3).2.1, (TX3 3).2.2.1, host) ∈ q_nsL) (hok : q_ok 3 o = true) (K : qAW l G M X n lv (.int (μ.1 3 o 3) :: st) μ r) : qAW l G M X pc lv (.ref (q_ad G 3 o) :: st) μ r :=
  aw_getN d n hn host hw (T := TX3) (f := 3) (N := 4) in_X3 at_3 hok rfl rfl (by decide) rfl K
theorem pfN_X3_0 {idx o : Nat} {x : Int32} (d : decode M.2.2.2.1 pc = .ok (.putfield idx, 3)) (n : Nat) (hn : pc + 3 = n) (host : String) (hw : (M.2.1, idx, (TX3 0).1, (TX3 0).2.1, (TX3 0).2.2.1, host) ∈ q_nsL) (hok : q_ok 3 o = true) (K : qAW l G M X n lv st (q_si μ 3 o 0 x) r) : qAW l G M X pc lv (.int x :: .ref (q_ad G 3 o) :: st) μ r :=
  aw_putN d n hn host hw (T := TX3) (f := 0) (N := 4) (μ2 := q_si μ 3 o 0 x) in_X3 tyX3_ok nmX3 at_3 hok rfl rfl (by decide) (Nat.le_of_ble_eq_true rfl) rfl rfl rfl rfl (by simp [q_fl, q_si]) (fun a b _ h => q_rep_si a b h) K
theorem pfN_X3_3 {idx o : Nat} {x : Int32} (d : decode M.2.2.2.1 pc = .ok (.putfield idx, 3)) (n : Nat) (hn : pc + 3 = n) (host : String) (hw : (M.2.1, idx, (TX3 3).1, (TX3 3).2.1, (TX3 3).2.2.1, host) ∈ q_nsL) (hok : q_ok 3 o = true) (K : qAW l G M X n lv st (q_si μ 3 o 3 x) r) : qAW l G M X pc lv (.int x :: .ref (q_ad G 3 o) :: st) μ r :=
  aw_putN d n hn host hw (T := TX3) (f := 3) (N := 4) (μ2 := q_si μ 3 o 3 x) in_X3 tyX3_ok nmX3 at_3 hok rfl rfl (by decide) (Nat.le_of_ble_eq_true rfl) rfl rfl rfl rfl (by simp [q_fl, q_si]) (fun a b _ h => q_rep_si a b h) K
theorem pfN_X3_2 {idx o : Nat} {x : Int32} (d : decode M.2.2.2.1 pc = .ok (.putfield idx, 3)) (n : Nat) (hn : pc + 3 = n) (host : String) (hw : (M.2.1, idx, (TX3 2).1, (TX3 2).2.1, (TX3 2).2.2.1, host) ∈ q_nsL) (hok : q_ok 3 o = true) (K : qAW l G M X n lv st (q_si μ 3 o 2 x) r) : qAW l G M X pc lv (.int x :: .ref (q_ad G 3 o) :: st) μ r :=
  aw_putN d n hn host hw (T := TX3) (f := 2) (N := 4) (μ2 := q_si μ 3 o 2 x) in_X3 tyX3_ok nmX3 at_3 hok rfl rfl (by decide) (Nat.le_of_ble_eq_true rfl) rfl rfl rfl rfl (by simp [q_fl, q_si]) (fun a b _ h => q_rep_si a b h) K
theorem gfN_X4_1 {idx o : Nat} (d : decode M.2.2.2.1 pc = .ok (.getfield idx, 3)) (n : Nat) (hn : pc + 3 = n) (host : String) (hw : (M.2.1, idx, (TX4 1).1, (TX4 1).2.1, (TX4 1).2.2.1, host) ∈ q_nsL) (hok : q_ok 5 o = true) (K : qAW l G M X n lv (.ref (q_ad G 46 o) :: st) μ r) : qAW l G M X pc lv (.ref (q_ad G 5 o) :: st) μ r :=
  aw_getN d n hn host hw (T := TX4) (f := 1) (N := 5) in_X4 at_5 hok rfl rfl (by decide) rfl K
theorem gfN_X5_2 {idx o : Nat} (d : decode M.2.2.2.1 pc = .ok (.getfield idx, 3)) (n : Nat) (hn : pc + 3 = n) (host : String) (hw : (M.2.1, idx, (TX5 2).1, (TX5 2).2.1, (TX5 2).2.2.1, host) ∈ q_nsL) (hok : q_ok 4 o = true) (K : qAW l G M X n lv (.int (μ.1 4 o 2) :: st) μ r) : qAW l G M X pc lv (.ref (q_ad G 4 o) :: st) μ r :=
  aw_getN d n hn host hw (T := TX5) (f := 2) (N := 3) in_X5 at_4 hok rfl rfl (by decide) rfl K
theorem gfN_X5_0 {idx o : Nat} (d : decode M.2.2.2.1 pc = .ok (.getfield idx, 3)) (n : Nat) (hn : pc + 3 = n) (host : String) (hw : (M.2.1, idx, (TX5 0).1, (TX5 0).2.1, (TX5 0).2.2.1, host) ∈ q_nsL) (hok : q_ok 4 o = true) (K : qAW l G M X n lv (.ref (q_ad G 43 o) :: st) μ r) : qAW l G M X pc lv (.ref (q_ad G 4 o) :: st) μ r :=
  aw_getN d n hn host hw (T := TX5) (f := 0) (N := 3) in_X5 at_4 hok rfl rfl (by decide) rfl K
theorem gfN_X4_4 {idx o : Nat} (d : decode M.2.2.2.1 pc = .ok (.getfield idx, 3)) (n : Nat) (hn : pc + 3 = n) (host : String) (hw : (M.2.1, idx, (TX4 4).1, (TX4 4).2.1, (TX4 4).2.2.1, host) ∈ q_nsL) (hok : q_ok 5 o = true) (K : qAW l G M X n lv (.int (μ.1 5 o 4) :: st) μ r) : qAW l G M X pc lv (.ref (q_ad G 5 o) :: st) μ r :=
  aw_getN d n hn host hw (T := TX4) (f := 4) (N := 5) in_X4 at_5 hok rfl rfl (by decide) rfl K
theorem gfN_X4_3 {idx o : Nat} (d : decode M.2.2.2.1 pc = .ok (.getfield idx, 3)) (n : Nat) (hn : pc + 3 = n) (host : String) (hw : (M.2.1, idx, (TX4 3).1, (TX4 3).2.1, (TX4 3).2.2.1, host) ∈ q_nsL) (hok : q_ok 5 o = true) (K : qAW l G M X n lv (.int (μ.1 5 o 3) :: st) μ r) : qAW l G M X pc lv (.ref (q_ad G 5 o) :: st) μ r :=
  aw_getN d n hn host hw (T := TX4) (f := 3) (N := 5) in_X4 at_5 hok rfl rfl (by decide) rfl K
theorem gfN_X4_0 {idx o : Nat} (d : decode M.2.2.2.1 pc = .ok (.getfield idx, 3)) (n : Nat) (hn : pc + 3 = n) (host : String) (hw : (M.2.1, idx, (TX4 0).1, (TX4 0).2.1, (TX4 0).2.2.1, host) ∈ q_nsL) (hok : q_ok 5 o = true) (K : qAW l G M X n lv (.ref (q_ad G 45 o) :: st) μ r) : qAW l G M X pc lv (.ref (q_ad G 5 o) :: st) μ r :=
  aw_getN d n hn host hw (T := TX4) (f := 0) (N := 5) in_X4 at_5 hok rfl rfl (by decide) rfl K
theorem gfN_X0_3 {idx o : Nat} (d : decode M.2.2.2.1 pc = .ok (.getfield idx, 3)) (n : Nat) (hn : pc + 3 = n) (host : String) (hw : (M.2.1, idx, (TX0 3).1, (TX0 3).2.1, (TX0 3).2.2.1, host) ∈ q_nsL) (hok : q_ok 2 o = true) (K : qAW l G M X n lv (.ref (q_ad G 40 o) :: st) μ r) : qAW l G M X pc lv (.ref (q_ad G 2 o) :: st) μ r :=
  aw_getN d n hn host hw (T := TX0) (f := 3) (N := 19) in_X0 at_2 hok rfl rfl (by decide) rfl K
theorem gf_X1_1 {idx o : Nat} (d : decode M.2.2.2.1 pc = .ok (.getfield idx, 3)) (n : Nat) (hn : pc + 3 = n) (hw : Cond.fieldLink M.2.1 idx (TX1 1).1 (TX1 1).2.1 (TX1 1).2.2.1 ∈ q_tb) (hok : q_ok 8 o = true) (K : qAW l G M X n lv (.int (μ.1 8 o 1) :: st) μ r) : qAW l G M X pc lv (.ref (q_ad G 8 o) :: st) μ r :=
  aw_get d n hn hw (T := TX1) (f := 1) (N := 3) in_X1 at_8 hok rfl rfl (by decide) rfl K
theorem gf_X1_2 {idx o : Nat} (d : decode M.2.2.2.1 pc = .ok (.getfield idx, 3)) (n : Nat) (hn : pc + 3 = n) (hw : Cond.fieldLink M.2.1 idx (TX1 2).1 (TX1 2).2.1 (TX1 2).2.2.1 ∈ q_tb) (hok : q_ok 8 o = true) (K : qAW l G M X n lv (.int (μ.1 8 o 2) :: st) μ r) : qAW l G M X pc lv (.ref (q_ad G 8 o) :: st) μ r :=
  aw_get d n hn hw (T := TX1) (f := 2) (N := 3) in_X1 at_8 hok rfl rfl (by decide) rfl K
theorem gfN_X0_12 {idx o : Nat} (d : decode M.2.2.2.1 pc = .ok (.getfield idx, 3)) (n : Nat) (hn : pc + 3 = n) (host : String) (hw : (M.2.1, idx, (TX0 12).1, (TX0 12).2.1, (TX0 12).2.2.1, host) ∈ q_nsL) (hok : q_ok 2 o = true) (K : qAW l G M X n lv (.int (μ.1 2 o 12) :: st) μ r) : qAW l G M X pc lv (.ref (q_ad G 2 o) :: st) μ r :=
  aw_getN d n hn host hw (T := TX0) (f := 12) (N := 19) in_X0 at_2 hok rfl rfl (by decide) rfl K
theorem pf_X1_1 {idx o : Nat} {x : Int32} (d : decode M.2.2.2.1 pc = .ok (.putfield idx, 3)) (n : Nat) (hn : pc + 3 = n) (hw : Cond.fieldLink M.2.1 idx (TX1 1).1 (TX1 1).2.1 (TX1 1).2.2.1 ∈ q_tb) (hok : q_ok 8 o = true) (K : qAW l G M X n lv st (q_si μ 8 o 1 x) r) : qAW l G M X pc lv (.int x :: .ref (q_ad G 8 o) :: st) μ r :=
  aw_put d n hn hw (T := TX1) (f := 1) (N := 3) (μ2 := q_si μ 8 o 1 x) in_X1 tyX1_ok nmX1 at_8 hok rfl rfl (by decide) (Nat.le_of_ble_eq_true rfl) rfl rfl rfl rfl (by simp [q_fl, q_si]) (fun a b _ h => q_rep_si a b h) K
theorem gf_X1_0 {idx o : Nat} (d : decode M.2.2.2.1 pc = .ok (.getfield idx, 3)) (n : Nat) (hn : pc + 3 = n) (hw : Cond.fieldLink M.2.1 idx (TX1 0).1 (TX1 0).2.1 (TX1 0).2.2.1 ∈ q_tb) (hok : q_ok 8 o = true) (K : qAW l G M X n lv (.int (μ.1 8 o 0) :: st) μ r) : qAW l G M X pc lv (.ref (q_ad G 8 o) :: st) μ r :=
  aw_get d n hn hw (T := TX1) (f := 0) (N := 3) in_X1 at_8 hok rfl rfl (by decide) rfl K
theorem pf_X2_2 {idx o : Nat} {x : Int32} (d : decode M.2.2.2.1 pc = .ok (.putfield idx, 3)) (n : Nat) (hn : pc + 3 = n) (hw : Cond.fieldLink M.2.1 idx (TX2 2).1 (TX2 2).2.1 (TX2 2).2.2.1 ∈ q_tb) (hok : q_ok 9 o = true) (K : qAW l G M X n lv st (q_si μ 9 o 2 x) r) : qAW l G M X pc lv (.int x :: .ref (q_ad G 9 o) :: st) μ r :=
  aw_put d n hn hw (T := TX2) (f := 2) (N := 6) (μ2 := q_si μ 9 o 2 x) in_X2 tyX2_ok nmX2 at_9 hok rfl rfl (by decide) (Nat.le_of_ble_eq_true rfl) rfl rfl rfl rfl (by simp [q_fl, q_si]) (fun a b _ h => q_rep_si a b h) K
theorem pf_X2_3 {idx o : Nat} {x : Int32} (d : decode M.2.2.2.1 pc = .ok (.putfield idx, 3)) (n : Nat) (hn : pc + 3 = n) (hw : Cond.fieldLink M.2.1 idx (TX2 3).1 (TX2 3).2.1 (TX2 3).2.2.1 ∈ q_tb) (hok : q_ok 9 o = true) (K : qAW l G M X n lv st (q_si μ 9 o 3 x) r) : qAW l G M X pc lv (.int x :: .ref (q_ad G 9 o) :: st) μ r :=
  aw_put d n hn hw (T := TX2) (f := 3) (N := 6) (μ2 := q_si μ 9 o 3 x) in_X2 tyX2_ok nmX2 at_9 hok rfl rfl (by decide) (Nat.le_of_ble_eq_true rfl) rfl rfl rfl rfl (by simp [q_fl, q_si]) (fun a b _ h => q_rep_si a b h) K
theorem pf_X2_4 {idx o : Nat} {x : Int32} (d : decode M.2.2.2.1 pc = .ok (.putfield idx, 3)) (n : Nat) (hn : pc + 3 = n) (hw : Cond.fieldLink M.2.1 idx (TX2 4).1 (TX2 4).2.1 (TX2 4).2.2.1 ∈ q_tb) (hok : q_ok 9 o = true) (K : qAW l G M X n lv st (q_si μ 9 o 4 x) r) : qAW l G M X pc lv (.int x :: .ref (q_ad G 9 o) :: st) μ r :=
  aw_put d n hn hw (T := TX2) (f := 4) (N := 6) (μ2 := q_si μ 9 o 4 x) in_X2 tyX2_ok nmX2 at_9 hok rfl rfl (by decide) (Nat.le_of_ble_eq_true rfl) rfl rfl rfl rfl (by simp [q_fl, q_si]) (fun a b _ h => q_rep_si a b h) K
theorem pf_X2_5 {idx o : Nat} {x : Int32} (d : decode M.2.2.2.1 pc = .ok (.putfield idx, 3)) (n : Nat) (hn : pc + 3 = n) (hw : Cond.fieldLink M.2.1 idx (TX2 5).1 (TX2 5).2.1 (TX2 5).2.2.1 ∈ q_tb) (hok : q_ok 9 o = true) (K : qAW l G M X n lv st (q_si μ 9 o 5 x) r) : qAW l G M X pc lv (.int x :: .ref (q_ad G 9 o) :: st) μ r :=
  aw_put d n hn hw (T := TX2) (f := 5) (N := 6) (μ2 := q_si μ 9 o 5 x) in_X2 tyX2_ok nmX2 at_9 hok rfl rfl (by decide) (Nat.le_of_ble_eq_true rfl) rfl rfl rfl rfl (by simp [q_fl, q_si]) (fun a b _ h => q_rep_si a b h) K
theorem gf_X2_4 {idx o : Nat} (d : decode M.2.2.2.1 pc = .ok (.getfield idx, 3)) (n : Nat) (hn : pc + 3 = n) (hw : Cond.fieldLink M.2.1 idx (TX2 4).1 (TX2 4).2.1 (TX2 4).2.2.1 ∈ q_tb) (hok : q_ok 9 o = true) (K : qAW l G M X n lv (.int (μ.1 9 o 4) :: st) μ r) : qAW l G M X pc lv (.ref (q_ad G 9 o) :: st) μ r :=
  aw_get d n hn hw (T := TX2) (f := 4) (N := 6) in_X2 at_9 hok rfl rfl (by decide) rfl K
theorem gf_X2_5 {idx o : Nat} (d : decode M.2.2.2.1 pc = .ok (.getfield idx, 3)) (n : Nat) (hn : pc + 3 = n) (hw : Cond.fieldLink M.2.1 idx (TX2 5).1 (TX2 5).2.1 (TX2 5).2.2.1 ∈ q_tb) (hok : q_ok 9 o = true) (K : qAW l G M X n lv (.int (μ.1 9 o 5) :: st) μ r) : qAW l G M X pc lv (.ref (q_ad G 9 o) :: st) μ r :=
  aw_get d n hn hw (T := TX2) (f := 5) (N := 6) in_X2 at_9 hok rfl rfl (by decide) rfl K
theorem gf_X2_0 {idx o : Nat} (d : decode M.2.2.2.1 pc = .ok (.getfield idx, 3)) (n : Nat) (hn : pc + 3 = n) (hw : Cond.fieldLink M.2.1 idx (TX2 0).1 (TX2 0).2.1 (TX2 0).2.2.1 ∈ q_tb) (hok : q_ok 9 o = true) (K : qAW l G M X n lv (.ref (q_ad G 52 o) :: st) μ r) : qAW l G M X pc lv (.ref (q_ad G 9 o) :: st) μ r :=
  aw_get d n hn hw (T := TX2) (f := 0) (N := 6) in_X2 at_9 hok rfl rfl (by decide) rfl K
theorem gf_X2_1 {idx o : Nat} (d : decode M.2.2.2.1 pc = .ok (.getfield idx, 3)) (n : Nat) (hn : pc + 3 = n) (hw : Cond.fieldLink M.2.1 idx (TX2 1).1 (TX2 1).2.1 (TX2 1).2.2.1 ∈ q_tb) (hok : q_ok 9 o = true) (K : qAW l G M X n lv (.ref (q_ad G 53 o) :: st) μ r) : qAW l G M X pc lv (.ref (q_ad G 9 o) :: st) μ r :=
  aw_get d n hn hw (T := TX2) (f := 1) (N := 6) in_X2 at_9 hok rfl rfl (by decide) rfl K
theorem gf_X2_2 {idx o : Nat} (d : decode M.2.2.2.1 pc = .ok (.getfield idx, 3)) (n : Nat) (hn : pc + 3 = n) (hw : Cond.fieldLink M.2.1 idx (TX2 2).1 (TX2 2).2.1 (TX2 2).2.2.1 ∈ q_tb) (hok : q_ok 9 o = true) (K : qAW l G M X n lv (.int (μ.1 9 o 2) :: st) μ r) : qAW l G M X pc lv (.ref (q_ad G 9 o) :: st) μ r :=
  aw_get d n hn hw (T := TX2) (f := 2) (N := 6) in_X2 at_9 hok rfl rfl (by decide) rfl K
theorem gf_X2_3 {idx o : Nat} (d : decode M.2.2.2.1 pc = .ok (.getfield idx, 3)) (n : Nat) (hn : pc + 3 = n) (hw : Cond.fieldLink M.2.1 idx (TX2 3).1 (TX2 3).2.1 (TX2 3).2.2.1 ∈ q_tb) (hok : q_ok 9 o = true) (K : qAW l G M X n lv (.int (μ.1 9 o 3) :: st) μ r) : qAW l G M X pc lv (.ref (q_ad G 9 o) :: st) μ r :=
  aw_get d n hn hw (T := TX2) (f := 3) (N := 6) in_X2 at_9 hok rfl rfl (by decide) rfl K
theorem pf_X6_0 {idx : Nat} {ka ia : Nat} (d : decode M.2.2.2.1 pc = .ok (.putfield idx, 3)) (n : Nat) (hn : pc + 3 = n) (hw : Cond.fieldLink M.2.1 idx (TX6 0).1 (TX6 0).2.1 (TX6 0).2.2.1 ∈ q_tb) (hok : q_ok 7 0 = true) (K : qAW l G M X n lv st (q_sp μ (ka, ia)) r) : qAW l G M X pc lv (.ref (q_ad G ka ia) :: .ref (q_ad G 7 0) :: st) μ r :=
  aw_put d n hn hw (T := TX6) (f := 0) (N := 7) (μ2 := q_sp μ (ka, ia)) in_X6 tyX6_ok nmX6 at_7 hok rfl rfl (by decide) (Nat.le_of_ble_eq_true rfl) rfl rfl rfl rfl (by simp [q_fl, q_sp]) (q_rep_spx) K
theorem pf_X6_1 {idx o : Nat} {x : Int32} (d : decode M.2.2.2.1 pc = .ok (.putfield idx, 3)) (n : Nat) (hn : pc + 3 = n) (hw : Cond.fieldLink M.2.1 idx (TX6 1).1 (TX6 1).2.1 (TX6 1).2.2.1 ∈ q_tb) (hok : q_ok 7 o = true) (K : qAW l G M X n lv st (q_si μ 7 o 1 x) r) : qAW l G M X pc lv (.int x :: .ref (q_ad G 7 o) :: st) μ r :=
  aw_put d n hn hw (T := TX6) (f := 1) (N := 7) (μ2 := q_si μ 7 o 1 x) in_X6 tyX6_ok nmX6 at_7 hok rfl rfl (by decide) (Nat.le_of_ble_eq_true rfl) rfl rfl rfl rfl (by simp [q_fl, q_si]) (fun a b _ h => q_rep_si a b h) K
theorem pf_X6_2 {idx o : Nat} {x : Int32} (d : decode M.2.2.2.1 pc = .ok (.putfield idx, 3)) (n : Nat) (hn : pc + 3 = n) (hw : Cond.fieldLink M.2.1 idx (TX6 2).1 (TX6 2).2.1 (TX6 2).2.2.1 ∈ q_tb) (hok : q_ok 7 o = true) (K : qAW l G M X n lv st (q_si μ 7 o 2 x) r) : qAW l G M X pc lv (.int x :: .ref (q_ad G 7 o) :: st) μ r :=
  aw_put d n hn hw (T := TX6) (f := 2) (N := 7) (μ2 := q_si μ 7 o 2 x) in_X6 tyX6_ok nmX6 at_7 hok rfl rfl (by decide) (Nat.le_of_ble_eq_true rfl) rfl rfl rfl rfl (by simp [q_fl, q_si]) (fun a b _ h => q_rep_si a b h) K
theorem pf_X6_5 {idx o : Nat} {x : Int32} (d : decode M.2.2.2.1 pc = .ok (.putfield idx, 3)) (n : Nat) (hn : pc + 3 = n) (hw : Cond.fieldLink M.2.1 idx (TX6 5).1 (TX6 5).2.1 (TX6 5).2.2.1 ∈ q_tb) (hok : q_ok 7 o = true) (K : qAW l G M X n lv st (q_si μ 7 o 5 x) r) : qAW l G M X pc lv (.int x :: .ref (q_ad G 7 o) :: st) μ r :=
  aw_put d n hn hw (T := TX6) (f := 5) (N := 7) (μ2 := q_si μ 7 o 5 x) in_X6 tyX6_ok nmX6 at_7 hok rfl rfl (by decide) (Nat.le_of_ble_eq_true rfl) rfl rfl rfl rfl (by simp [q_fl, q_si]) (fun a b _ h => q_rep_si a b h) K
theorem pf_X6_6 {idx o : Nat} {x : Int32} (d : decode M.2.2.2.1 pc = .ok (.putfield idx, 3)) (n : Nat) (hn : pc + 3 = n) (hw : Cond.fieldLink M.2.1 idx (TX6 6).1 (TX6 6).2.1 (TX6 6).2.2.1 ∈ q_tb) (hok : q_ok 7 o = true) (K : qAW l G M X n lv st (q_si μ 7 o 6 x) r) : qAW l G M X pc lv (.int x :: .ref (q_ad G 7 o) :: st) μ r :=
  aw_put d n hn hw (T := TX6) (f := 6) (N := 7) (μ2 := q_si μ 7 o 6 x) in_X6 tyX6_ok nmX6 at_7 hok rfl rfl (by decide) (Nat.le_of_ble_eq_true rfl) rfl rfl rfl rfl (by simp [q_fl, q_si]) (fun a b _ h => q_rep_si a b h) K
theorem gf_X6_2 {idx o : Nat} (d : decode M.2.2.2.1 pc = .ok (.getfield idx, 3)) (n : Nat) (hn : pc + 3 = n) (hw : Cond.fieldLink M.2.1 idx (TX6 2).1 (TX6 2).2.1 (TX6 2).2.2.1 ∈ q_tb) (hok : q_ok 7 o = true) (K : qAW l G M X n lv (.int (μ.1 7 o 2) :: st) μ r) : qAW l G M X pc lv (.ref (q_ad G 7 o) :: st) μ r :=
  aw_get d n hn hw (T := TX6) (f := 2) (N := 7) in_X6 at_7 hok rfl rfl (by decide) rfl K
theorem gf_X6_1 {idx o : Nat} (d : decode M.2.2.2.1 pc = .ok (.getfield idx, 3)) (n : Nat) (hn : pc + 3 = n) (hw : Cond.fieldLink M.2.1 idx (TX6 1).1 (TX6 1).2.1 (TX6 1).2.2.1 ∈ q_tb) (hok : q_ok 7 o = true) (K : qAW l G M X n lv (.int (μ.1 7 o 1) :: st) μ r) : qAW l G M X pc lv (.ref (q_ad G 7 o) :: st) μ r :=
  aw_get d n hn hw (T := TX6) (f := 1) (N := 7) in_X6 at_7 hok rfl rfl (by decide) rfl K
theorem gf_X6_0 {idx o : Nat} (d : decode M.2.2.2.1 pc = .ok (.getfield idx, 3)) (n : Nat) (hn : pc + 3 = n) (hw : Cond.fieldLink M.2.1 idx (TX6 0).1 (TX6 0).2.1 (TX6 0).2.2.1 ∈ q_tb) (hok : q_ok 7 o = true) (K : qAW l G M X n lv (.ref (q_ad G μ.2.2.1 μ.2.2.2) :: st) μ r) : qAW l G M X pc lv (.ref (q_ad G 7 o) :: st) μ r :=
  aw_get d n hn hw (T := TX6) (f := 0) (N := 7) in_X6 at_7 hok rfl rfl (by decide) rfl K
theorem gf_X6_3 {idx o : Nat} (d : decode M.2.2.2.1 pc = .ok (.getfield idx, 3)) (n : Nat) (hn : pc + 3 = n) (hw : Cond.fieldLink M.2.1 idx (TX6 3).1 (TX6 3).2.1 (TX6 3).2.2.1 ∈ q_tb) (hok : q_ok 7 o = true) (K : qAW l G M X n lv (.int (μ.1 7 o 3) :: st) μ r) : qAW l G M X pc lv (.ref (q_ad G 7 o) :: st) μ r :=
  aw_get d n hn hw (T := TX6) (f := 3) (N := 7) in_X6 at_7 hok rfl rfl (by decide) rfl K
theorem gf_X6_4 {idx o : Nat} (d : decode M.2.2.2.1 pc = .ok (.getfield idx, 3)) (n : Nat) (hn : pc + 3 = n) (hw : Cond.fieldLink M.2.1 idx (TX6 4).1 (TX6 4).2.1 (TX6 4).2.2.1 ∈ q_tb) (hok : q_ok 7 o = true) (K : qAW l G M X n lv (.int (μ.1 7 o 4) :: st) μ r) : qAW l G M X pc lv (.ref (q_ad G 7 o) :: st) μ r :=
  aw_get d n hn hw (T := TX6) (f := 4) (N := 7) in_X6 at_7 hok rfl rfl (by decide) rfl K
theorem gf_X6_6 {idx o : Nat} (d : decode M.2.2.2.1 pc = .ok (.getfield idx, 3)) (n : Nat) (hn : pc + 3 = n) (hw : Cond.fieldLink M.2.1 idx (TX6 6).1 (TX6 6).2.1 (TX6 6).2.2.1 ∈ q_tb) (hok : q_ok 7 o = true) (K : qAW l G M X n lv (.int (μ.1 7 o 6) :: st) μ r) : qAW l G M X pc lv (.ref (q_ad G 7 o) :: st) μ r :=
  aw_get d n hn hw (T := TX6) (f := 6) (N := 7) in_X6 at_7 hok rfl rfl (by decide) rfl K
theorem pf_X6_3 {idx o : Nat} {x : Int32} (d : decode M.2.2.2.1 pc = .ok (.putfield idx, 3)) (n : Nat) (hn : pc + 3 = n) (hw : Cond.fieldLink M.2.1 idx (TX6 3).1 (TX6 3).2.1 (TX6 3).2.2.1 ∈ q_tb) (hok : q_ok 7 o = true) (K : qAW l G M X n lv st (q_si μ 7 o 3 x) r) : qAW l G M X pc lv (.int x :: .ref (q_ad G 7 o) :: st) μ r :=
  aw_put d n hn hw (T := TX6) (f := 3) (N := 7) (μ2 := q_si μ 7 o 3 x) in_X6 tyX6_ok nmX6 at_7 hok rfl rfl (by decide) (Nat.le_of_ble_eq_true rfl) rfl rfl rfl rfl (by simp [q_fl, q_si]) (fun a b _ h => q_rep_si a b h) K
theorem pf_X6_4 {idx o : Nat} {x : Int32} (d : decode M.2.2.2.1 pc = .ok (.putfield idx, 3)) (n : Nat) (hn : pc + 3 = n) (hw : Cond.fieldLink M.2.1 idx (TX6 4).1 (TX6 4).2.1 (TX6 4).2.2.1 ∈ q_tb) (hok : q_ok 7 o = true) (K : qAW l G M X n lv st (q_si μ 7 o 4 x) r) : qAW l G M X pc lv (.int x :: .ref (q_ad G 7 o) :: st) μ r :=
  aw_put d n hn hw (T := TX6) (f := 4) (N := 7) (μ2 := q_si μ 7 o 4 x) in_X6 tyX6_ok nmX6 at_7 hok rfl rfl (by decide) (Nat.le_of_ble_eq_true rfl) rfl rfl rfl rfl (by simp [q_fl, q_si]) (fun a b _ h => q_rep_si a b h) K
theorem gf_X6_5 {idx o : Nat} (d : decode M.2.2.2.1 pc = .ok (.getfield idx, 3)) (n : Nat) (hn : pc + 3 = n) (hw : Cond.fieldLink M.2.1 idx (TX6 5).1 (TX6 5).2.1 (TX6 5).2.2.1 ∈ q_tb) (hok : q_ok 7 o = true) (K : qAW l G M X n lv (.int (μ.1 7 o 5) :: st) μ r) : qAW l G M X pc lv (.ref (q_ad G 7 o) :: st) μ r :=
  aw_get d n hn hw (T := TX6) (f := 5) (N := 7) in_X6 at_7 hok rfl rfl (by decide) rfl K
theorem gf_X7_0 {idx o : Nat} (d : decode M.2.2.2.1 pc = .ok (.getfield idx, 3)) (n : Nat) (hn : pc + 3 = n) (hw : Cond.fieldLink M.2.1 idx (TX7 0).1 (TX7 0).2.1 (TX7 0).2.2.1 ∈ q_tb) (hok : q_ok 1 o = true) (K : qAW l G M X n lv (.ref (q_ad G 20 o) :: st) μ r) : qAW l G M X pc lv (.ref (q_ad G 1 o) :: st) μ r :=
  aw_get d n hn hw (T := TX7) (f := 0) (N := 2) in_X7 at_1 hok rfl rfl (by decide) rfl K
theorem gfN_X0_6 {idx o : Nat} (d : decode M.2.2.2.1 pc = .ok (.getfield idx, 3)) (n : Nat) (hn : pc + 3 = n) (host : String) (hw : (M.2.1, idx, (TX0 6).1, (TX0 6).2.1, (TX0 6).2.2.1, host) ∈ q_nsL) (hok : q_ok 2 o = true) (K : qAW l G M X n lv (.ref (q_ad G 4 o) :: st) μ r) : qAW l G M X pc lv (.ref (q_ad G 2 o) :: st) μ r :=
  aw_getN d n hn host hw (T := TX0) (f := 6) (N := 19) in_X0 at_2 hok rfl rfl (by decide) rfl K
theorem gf_X8_2 {idx o : Nat} (d : decode M.2.2.2.1 pc = .ok (.getfield idx, 3)) (n : Nat) (hn : pc + 3 = n) (hw : Cond.fieldLink M.2.1 idx (TX8 2).1 (TX8 2).2.1 (TX8 2).2.2.1 ∈ q_tb) (hok : q_ok 6 o = true) (K : qAW l G M X n lv (.ref (q_ad G 49 0) :: st) μ r) : qAW l G M X pc lv (.ref (q_ad G 6 o) :: st) μ r :=
  aw_get d n hn hw (T := TX8) (f := 2) (N := 4) in_X8 at_6 hok rfl rfl (by decide) rfl K
theorem gfN_X5_1 {idx o : Nat} (d : decode M.2.2.2.1 pc = .ok (.getfield idx, 3)) (n : Nat) (hn : pc + 3 = n) (host : String) (hw : (M.2.1, idx, (TX5 1).1, (TX5 1).2.1, (TX5 1).2.2.1, host) ∈ q_nsL) (hok : q_ok 4 o = true) (K : qAW l G M X n lv (.ref (q_ad G 44 o) :: st) μ r) : qAW l G M X pc lv (.ref (q_ad G 4 o) :: st) μ r :=
  aw_getN d n hn host hw (T := TX5) (f := 1) (N := 3) in_X5 at_4 hok rfl rfl (by decide) rfl K
theorem gf_X8_0 {idx o : Nat} (d : decode M.2.2.2.1 pc = .ok (.getfield idx, 3)) (n : Nat) (hn : pc + 3 = n) (hw : Cond.fieldLink M.2.1 idx (TX8 0).1 (TX8 0).2.1 (TX8 0).2.2.1 ∈ q_tb) (hok : q_ok 6 o = true) (K : qAW l G M X n lv (.ref (q_ad G 47 0) :: st) μ r) : qAW l G M X pc lv (.ref (q_ad G 6 o) :: st) μ r :=
  aw_get d n hn hw (T := TX8) (f := 0) (N := 4) in_X8 at_6 hok rfl rfl (by decide) rfl K
theorem gfN_X0_2 {idx o : Nat} (d : decode M.2.2.2.1 pc = .ok (.getfield idx, 3)) (n : Nat) (hn : pc + 3 = n) (host : String) (hw : (M.2.1, idx, (TX0 2).1, (TX0 2).2.1, (TX0 2).2.2.1, host) ∈ q_nsL) (hok : q_ok 2 o = true) (K : qAW l G M X n lv (.ref (q_ad G 39 o) :: st) μ r) : qAW l G M X pc lv (.ref (q_ad G 2 o) :: st) μ r :=
  aw_getN d n hn host hw (T := TX0) (f := 2) (N := 19) in_X0 at_2 hok rfl rfl (by decide) rfl K
theorem gf_X8_3 {idx o : Nat} (d : decode M.2.2.2.1 pc = .ok (.getfield idx, 3)) (n : Nat) (hn : pc + 3 = n) (hw : Cond.fieldLink M.2.1 idx (TX8 3).1 (TX8 3).2.1 (TX8 3).2.2.1 ∈ q_tb) (hok : q_ok 6 o = true) (K : qAW l G M X n lv (.ref (q_ad G 50 0) :: st) μ r) : qAW l G M X pc lv (.ref (q_ad G 6 o) :: st) μ r :=
  aw_get d n hn hw (T := TX8) (f := 3) (N := 4) in_X8 at_6 hok rfl rfl (by decide) rfl K
theorem gfN_X0_1 {idx o : Nat} (d : decode M.2.2.2.1 pc = .ok (.getfield idx, 3)) (n : Nat) (hn : pc + 3 = n) (host : String) (hw : (M.2.1, idx, (TX0 1).1, (TX0 1).2.1, (TX0 1).2.2.1, host) ∈ q_nsL) (hok : q_ok 2 o = true) (K : qAW l G M X n lv (.ref (q_ad G 38 o) :: st) μ r) : qAW l G M X pc lv (.ref (q_ad G 2 o) :: st) μ r :=
  aw_getN d n hn host hw (T := TX0) (f := 1) (N := 19) in_X0 at_2 hok rfl rfl (by decide) rfl K
theorem gfN_X0_13 {idx o : Nat} (d : decode M.2.2.2.1 pc = .ok (.getfield idx, 3)) (n : Nat) (hn : pc + 3 = n) (host : String) (hw : (M.2.1, idx, (TX0 13).1, (TX0 13).2.1, (TX0 13).2.2.1, host) ∈ q_nsL) (hok : q_ok 2 o = true) (K : qAW l G M X n lv (.int (μ.1 2 o 13) :: st) μ r) : qAW l G M X pc lv (.ref (q_ad G 2 o) :: st) μ r :=
  aw_getN d n hn host hw (T := TX0) (f := 13) (N := 19) in_X0 at_2 hok rfl rfl (by decide) rfl K
theorem gfN_X0_0 {idx o : Nat} (d : decode M.2.2.2.1 pc = .ok (.getfield idx, 3)) (n : Nat) (hn : pc + 3 = n) (host : String) (hw : (M.2.1, idx, (TX0 0).1, (TX0 0).2.1, (TX0 0).2.2.1, host) ∈ q_nsL) (hok : q_ok 2 o = true) (K : qAW l G M X n lv (.ref (q_ad G 37 o) :: st) μ r) : qAW l G M X pc lv (.ref (q_ad G 2 o) :: st) μ r :=
  aw_getN d n hn host hw (T := TX0) (f := 0) (N := 19) in_X0 at_2 hok rfl rfl (by decide) rfl K
theorem gfN_X0_16 {idx o : Nat} (d : decode M.2.2.2.1 pc = .ok (.getfield idx, 3)) (n : Nat) (hn : pc + 3 = n) (host : String) (hw : (M.2.1, idx, (TX0 16).1, (TX0 16).2.1, (TX0 16).2.2.1, host) ∈ q_nsL) (hok : q_ok 2 o = true) (K : qAW l G M X n lv (.int (μ.1 2 o 16) :: st) μ r) : qAW l G M X pc lv (.ref (q_ad G 2 o) :: st) μ r :=
  aw_getN d n hn host hw (T := TX0) (f := 16) (N := 19) in_X0 at_2 hok rfl rfl (by decide) rfl K
theorem pfN_X0_16 {idx o : Nat} {x : Int32} (d : decode M.2.2.2.1 pc = .ok (.putfield idx, 3)) (n : Nat) (hn : pc + 3 = n) (host : String) (hw : (M.2.1, idx, (TX0 16).1, (TX0 16).2.1, (TX0 16).2.2.1, host) ∈ q_nsL) (hok : q_ok 2 o = true) (K : qAW l G M X n lv st (q_si μ 2 o 16 x) r) : qAW l G M X pc lv (.int x :: .ref (q_ad G 2 o) :: st) μ r :=
  aw_putN d n hn host hw (T := TX0) (f := 16) (N := 19) (μ2 := q_si μ 2 o 16 x) in_X0 tyX0_ok nmX0 at_2 hok rfl rfl (by decide) (Nat.le_of_ble_eq_true rfl) rfl rfl rfl rfl (by simp [q_fl, q_si]) (fun a b _ h => q_rep_si a b h) K
theorem gf_X8_1 {idx o : Nat} (d : decode M.2.2.2.1 pc = .ok (.getfield idx, 3)) (n : Nat) (hn : pc + 3 = n) (hw : Cond.fieldLink M.2.1 idx (TX8 1).1 (TX8 1).2.1 (TX8 1).2.2.1 ∈ q_tb) (hok : q_ok 6 o = true) (K : qAW l G M X n lv (.ref (q_ad G 48 0) :: st) μ r) : qAW l G M X pc lv (.ref (q_ad G 6 o) :: st) μ r :=
  aw_get d n hn hw (T := TX8) (f := 1) (N := 4) in_X8 at_6 hok rfl rfl (by decide) rfl K
theorem gfN_X0_5 {idx o : Nat} (d : decode M.2.2.2.1 pc = .ok (.getfield idx, 3)) (n : Nat) (hn : pc + 3 = n) (host : String) (hw : (M.2.1, idx, (TX0 5).1, (TX0 5).2.1, (TX0 5).2.2.1, host) ∈ q_nsL) (hok : q_ok 2 o = true) (K : qAW l G M X n lv (.ref (q_ad G 3 o) :: st) μ r) : qAW l G M X pc lv (.ref (q_ad G 2 o) :: st) μ r :=
  aw_getN d n hn host hw (T := TX0) (f := 5) (N := 19) in_X0 at_2 hok rfl rfl (by decide) rfl K
theorem gfN_X3_0 {idx o : Nat} (d : decode M.2.2.2.1 pc = .ok (.getfield idx, 3)) (n : Nat) (hn : pc + 3 = n) (host : String) (hw : (M.2.1, idx, (TX3 0).1, (TX3 0).2.1, (TX3 0).2.2.1, host) ∈ q_nsL) (hok : q_ok 3 o = true) (K : qAW l G M X n lv (.int (μ.1 3 o 0) :: st) μ r) : qAW l G M X pc lv (.ref (q_ad G 3 o) :: st) μ r :=
  aw_getN d n hn host hw (T := TX3) (f := 0) (N := 4) in_X3 at_3 hok rfl rfl (by decide) rfl K
theorem gfN_X3_1 {idx o : Nat} (d : decode M.2.2.2.1 pc = .ok (.getfield idx, 3)) (n : Nat) (hn : pc + 3 = n) (host : String) (hw : (M.2.1, idx, (TX3 1).1, (TX3 1).2.1, (TX3 1).2.2.1, host) ∈ q_nsL) (hok : q_ok 3 o = true) (K : qAW l G M X n lv (.int (μ.1 3 o 1) :: st) μ r) : qAW l G M X pc lv (.ref (q_ad G 3 o) :: st) μ r :=
  aw_getN d n hn host hw (T := TX3) (f := 1) (N := 4) in_X3 at_3 hok rfl rfl (by decide) rfl K
theorem gfN_X0_4 {idx o : Nat} (d : decode M.2.2.2.1 pc = .ok (.getfield idx, 3)) (n : Nat) (hn : pc + 3 = n) (host : String) (hw : (M.2.1, idx, (TX0 4).1, (TX0 4).2.1, (TX0 4).2.2.1, host) ∈ q_nsL) (hok : q_ok 2 o = true) (K : qAW l G M X n lv (.ref (q_ad G 41 o) :: st) μ r) : qAW l G M X pc lv (.ref (q_ad G 2 o) :: st) μ r :=
  aw_getN d n hn host hw (T := TX0) (f := 4) (N := 19) in_X0 at_2 hok rfl rfl (by decide) rfl K
theorem gfN_X0_15 {idx o : Nat} (d : decode M.2.2.2.1 pc = .ok (.getfield idx, 3)) (n : Nat) (hn : pc + 3 = n) (host : String) (hw : (M.2.1, idx, (TX0 15).1, (TX0 15).2.1, (TX0 15).2.2.1, host) ∈ q_nsL) (hok : q_ok 2 o = true) (K : qAW l G M X n lv (.int (μ.1 2 o 15) :: st) μ r) : qAW l G M X pc lv (.ref (q_ad G 2 o) :: st) μ r :=
  aw_getN d n hn host hw (T := TX0) (f := 15) (N := 19) in_X0 at_2 hok rfl rfl (by decide) rfl K
theorem pfN_X0_15 {idx o : Nat} {x : Int32} (d : decode M.2.2.2.1 pc = .ok (.putfield idx, 3)) (n : Nat) (hn : pc + 3 = n) (host : String) (hw : (M.2.1, idx, (TX0 15).1, (TX0 15).2.1, (TX0 15).2.2.1, host) ∈ q_nsL) (hok : q_ok 2 o = true) (K : qAW l G M X n lv st (q_si μ 2 o 15 x) r) : qAW l G M X pc lv (.int x :: .ref (q_ad G 2 o) :: st) μ r :=
  aw_putN d n hn host hw (T := TX0) (f := 15) (N := 19) (μ2 := q_si μ 2 o 15 x) in_X0 tyX0_ok nmX0 at_2 hok rfl rfl (by decide) (Nat.le_of_ble_eq_true rfl) rfl rfl rfl rfl (by simp [q_fl, q_si]) (fun a b _ h => q_rep_si a b h) K
theorem gfN_X0_14 {idx o : Nat} (d : decode M.2.2.2.1 pc = .ok (.getfield idx, 3)) (n : Nat) (hn : pc + 3 = n) (host : String) (hw : (M.2.1, idx, (TX0 14).1, (TX0 14).2.1, (TX0 14).2.2.1, host) ∈ q_nsL) (hok : q_ok 2 o = true) (K : qAW l G M X n lv (.int (μ.1 2 o 14) :: st) μ r) : qAW l G M X pc lv (.ref (q_ad G 2 o) :: st) μ r :=
  aw_getN d n hn host hw (T := TX0) (f := 14) (N := 19) in_X0 at_2 hok rfl rfl (by decide) rfl K
theorem pfN_X0_14 {idx o : Nat} {x : Int32} (d : decode M.2.2.2.1 pc = .ok (.putfield idx, 3)) (n : Nat) (hn : pc + 3 = n) (host : String) (hw : (M.2.1, idx, (TX0 14).1, (TX0 14).2.1, (TX0 14).2.2.1, host) ∈ q_nsL) (hok : q_ok 2 o = true) (K : qAW l G M X n lv st (q_si μ 2 o 14 x) r) : qAW l G M X pc lv (.int x :: .ref (q_ad G 2 o) :: st) μ r :=
  aw_putN d n hn host hw (T := TX0) (f := 14) (N := 19) (μ2 := q_si μ 2 o 14 x) in_X0 tyX0_ok nmX0 at_2 hok rfl rfl (by decide) (Nat.le_of_ble_eq_true rfl) rfl rfl rfl rfl (by simp [q_fl, q_si]) (fun a b _ h => q_rep_si a b h) K
theorem pf_X9_0 {idx o : Nat} {x : Int64} (d : decode M.2.2.2.1 pc = .ok (.putfield idx, 3)) (n : Nat) (hn : pc + 3 = n) (hw : Cond.fieldLink M.2.1 idx (TX9 0).1 (TX9 0).2.1 (TX9 0).2.2.1 ∈ q_tb) (hok : q_ok 10 o = true) (K : qAW l G M X n lv st (q_sl μ 10 o 0 x) r) : qAW l G M X pc lv (.long x :: .ref (q_ad G 10 o) :: st) μ r :=
  aw_put d n hn hw (T := TX9) (f := 0) (N := 3) (μ2 := q_sl μ 10 o 0 x) in_X9 tyX9_ok nmX9 at_10 hok rfl rfl (by decide) (Nat.le_of_ble_eq_true rfl) rfl rfl rfl rfl (by simp [q_fl, q_sl]) (fun a b _ h => q_rep_sl a b h) K
theorem pf_X9_1 {idx o : Nat} {x : Int64} (d : decode M.2.2.2.1 pc = .ok (.putfield idx, 3)) (n : Nat) (hn : pc + 3 = n) (hw : Cond.fieldLink M.2.1 idx (TX9 1).1 (TX9 1).2.1 (TX9 1).2.2.1 ∈ q_tb) (hok : q_ok 10 o = true) (K : qAW l G M X n lv st (q_sl μ 10 o 1 x) r) : qAW l G M X pc lv (.long x :: .ref (q_ad G 10 o) :: st) μ r :=
  aw_put d n hn hw (T := TX9) (f := 1) (N := 3) (μ2 := q_sl μ 10 o 1 x) in_X9 tyX9_ok nmX9 at_10 hok rfl rfl (by decide) (Nat.le_of_ble_eq_true rfl) rfl rfl rfl rfl (by simp [q_fl, q_sl]) (fun a b _ h => q_rep_sl a b h) K
theorem pf_X9_2 {idx o : Nat} {x : Int32} (d : decode M.2.2.2.1 pc = .ok (.putfield idx, 3)) (n : Nat) (hn : pc + 3 = n) (hw : Cond.fieldLink M.2.1 idx (TX9 2).1 (TX9 2).2.1 (TX9 2).2.2.1 ∈ q_tb) (hok : q_ok 10 o = true) (hb : q_b x = true) (K : qAW l G M X n lv st (q_si μ 10 o 2 x) r) : qAW l G M X pc lv (.int x :: .ref (q_ad G 10 o) :: st) μ r :=
  aw_put d n hn hw (T := TX9) (f := 2) (N := 3) (μ2 := q_si μ 10 o 2 x) in_X9 tyX9_ok nmX9 at_10 hok rfl rfl (by decide) (Nat.le_of_ble_eq_true rfl) rfl rfl (q_nb hb).1 (q_nb hb).2 (by simp [q_fl, q_si]) (fun a b _ h => q_rep_si a b h) K
theorem gfN_X2_5 {idx o : Nat} (d : decode M.2.2.2.1 pc = .ok (.getfield idx, 3)) (n : Nat) (hn : pc + 3 = n) (host : String) (hw : (M.2.1, idx, (TX2 5).1, (TX2 5).2.1, (TX2 5).2.2.1, host) ∈ q_nsL) (hok : q_ok 9 o = true) (K : qAW l G M X n lv (.int (μ.1 9 o 5) :: st) μ r) : qAW l G M X pc lv (.ref (q_ad G 9 o) :: st) μ r :=
  aw_getN d n hn host hw (T := TX2) (f := 5) (N := 6) in_X2 at_9 hok rfl rfl (by decide) rfl K
theorem gfN_X2_1 {idx o : Nat} (d : decode M.2.2.2.1 pc = .ok (.getfield idx, 3)) (n : Nat) (hn : pc + 3 = n) (host : String) (hw : (M.2.1, idx, (TX2 1).1, (TX2 1).2.1, (TX2 1).2.2.1, host) ∈ q_nsL) (hok : q_ok 9 o = true) (K : qAW l G M X n lv (.ref (q_ad G 53 o) :: st) μ r) : qAW l G M X pc lv (.ref (q_ad G 9 o) :: st) μ r :=
  aw_getN d n hn host hw (T := TX2) (f := 1) (N := 6) in_X2 at_9 hok rfl rfl (by decide) rfl K
theorem gf_X9_0 {idx o : Nat} (d : decode M.2.2.2.1 pc = .ok (.getfield idx, 3)) (n : Nat) (hn : pc + 3 = n) (hw : Cond.fieldLink M.2.1 idx (TX9 0).1 (TX9 0).2.1 (TX9 0).2.2.1 ∈ q_tb) (hok : q_ok 10 o = true) (K : qAW l G M X n lv (.long (μ.2.1 10 o 0) :: st) μ r) : qAW l G M X pc lv (.ref (q_ad G 10 o) :: st) μ r :=
  aw_get d n hn hw (T := TX9) (f := 0) (N := 3) in_X9 at_10 hok rfl rfl (by decide) rfl K
theorem gfN_X2_0 {idx o : Nat} (d : decode M.2.2.2.1 pc = .ok (.getfield idx, 3)) (n : Nat) (hn : pc + 3 = n) (host : String) (hw : (M.2.1, idx, (TX2 0).1, (TX2 0).2.1, (TX2 0).2.2.1, host) ∈ q_nsL) (hok : q_ok 9 o = true) (K : qAW l G M X n lv (.ref (q_ad G 52 o) :: st) μ r) : qAW l G M X pc lv (.ref (q_ad G 9 o) :: st) μ r :=
  aw_getN d n hn host hw (T := TX2) (f := 0) (N := 6) in_X2 at_9 hok rfl rfl (by decide) rfl K
theorem gf_X9_1 {idx o : Nat} (d : decode M.2.2.2.1 pc = .ok (.getfield idx, 3)) (n : Nat) (hn : pc + 3 = n) (hw : Cond.fieldLink M.2.1 idx (TX9 1).1 (TX9 1).2.1 (TX9 1).2.2.1 ∈ q_tb) (hok : q_ok 10 o = true) (K : qAW l G M X n lv (.long (μ.2.1 10 o 1) :: st) μ r) : qAW l G M X pc lv (.ref (q_ad G 10 o) :: st) μ r :=
  aw_get d n hn hw (T := TX9) (f := 1) (N := 3) in_X9 at_10 hok rfl rfl (by decide) rfl K
theorem pf_X10_16 {idx o : Nat} {x : Int32} (d : decode M.2.2.2.1 pc = .ok (.putfield idx, 3)) (n : Nat) (hn : pc + 3 = n) (hw : Cond.fieldLink M.2.1 idx (TX10 16).1 (TX10 16).2.1 (TX10 16).2.2.1 ∈ q_tb) (hok : q_ok 0 o = true) (K : qAW l G M X n lv st (q_si μ 0 o 16 x) r) : qAW l G M X pc lv (.int x :: .ref (q_ad G 0 o) :: st) μ r :=
  aw_put d n hn hw (T := TX10) (f := 16) (N := 19) (μ2 := q_si μ 0 o 16 x) in_X10 tyX10_ok nmX10 at_0 hok rfl rfl (by decide) (Nat.le_of_ble_eq_true rfl) rfl rfl rfl rfl (by simp [q_fl, q_si]) (fun a b _ h => q_rep_si a b h) K
theorem gf_X10_13 {idx o : Nat} (d : decode M.2.2.2.1 pc = .ok (.getfield idx, 3)) (n : Nat) (hn : pc + 3 = n) (hw : Cond.fieldLink M.2.1 idx (TX10 13).1 (TX10 13).2.1 (TX10 13).2.2.1 ∈ q_tb) (hok : q_ok 0 o = true) (K : qAW l G M X n lv (.ref (q_ad G 36 0) :: st) μ r) : qAW l G M X pc lv (.ref (q_ad G 0 o) :: st) μ r :=
  aw_get d n hn hw (T := TX10) (f := 13) (N := 19) in_X10 at_0 hok rfl rfl (by decide) rfl K
theorem gf_X10_0 {idx o : Nat} (d : decode M.2.2.2.1 pc = .ok (.getfield idx, 3)) (n : Nat) (hn : pc + 3 = n) (hw : Cond.fieldLink M.2.1 idx (TX10 0).1 (TX10 0).2.1 (TX10 0).2.2.1 ∈ q_tb) (hok : q_ok 0 o = true) (K : qAW l G M X n lv (.ref (q_ad G 1 0) :: st) μ r) : qAW l G M X pc lv (.ref (q_ad G 0 o) :: st) μ r :=
  aw_get d n hn hw (T := TX10) (f := 0) (N := 19) in_X10 at_0 hok rfl rfl (by decide) rfl K
theorem pf_X10_15 {idx o : Nat} {x : Int32} (d : decode M.2.2.2.1 pc = .ok (.putfield idx, 3)) (n : Nat) (hn : pc + 3 = n) (hw : Cond.fieldLink M.2.1 idx (TX10 15).1 (TX10 15).2.1 (TX10 15).2.2.1 ∈ q_tb) (hok : q_ok 0 o = true) (K : qAW l G M X n lv st (q_si μ 0 o 15 x) r) : qAW l G M X pc lv (.int x :: .ref (q_ad G 0 o) :: st) μ r :=
  aw_put d n hn hw (T := TX10) (f := 15) (N := 19) (μ2 := q_si μ 0 o 15 x) in_X10 tyX10_ok nmX10 at_0 hok rfl rfl (by decide) (Nat.le_of_ble_eq_true rfl) rfl rfl rfl rfl (by simp [q_fl, q_si]) (fun a b _ h => q_rep_si a b h) K
theorem gf_X10_1 {idx o : Nat} (d : decode M.2.2.2.1 pc = .ok (.getfield idx, 3)) (n : Nat) (hn : pc + 3 = n) (hw : Cond.fieldLink M.2.1 idx (TX10 1).1 (TX10 1).2.1 (TX10 1).2.2.1 ∈ q_tb) (hok : q_ok 0 o = true) (K : qAW l G M X n lv (.ref (q_ad G 1 1) :: st) μ r) : qAW l G M X pc lv (.ref (q_ad G 0 o) :: st) μ r :=
  aw_get d n hn hw (T := TX10) (f := 1) (N := 19) in_X10 at_0 hok rfl rfl (by decide) rfl K
theorem gf_X10_7 {idx o : Nat} (d : decode M.2.2.2.1 pc = .ok (.getfield idx, 3)) (n : Nat) (hn : pc + 3 = n) (hw : Cond.fieldLink M.2.1 idx (TX10 7).1 (TX10 7).2.1 (TX10 7).2.2.1 ∈ q_tb) (hok : q_ok 0 o = true) (K : qAW l G M X n lv (.ref (q_ad G 7 0) :: st) μ r) : qAW l G M X pc lv (.ref (q_ad G 0 o) :: st) μ r :=
  aw_get d n hn hw (T := TX10) (f := 7) (N := 19) in_X10 at_0 hok rfl rfl (by decide) rfl K
theorem gfN_X6_6 {idx o : Nat} (d : decode M.2.2.2.1 pc = .ok (.getfield idx, 3)) (n : Nat) (hn : pc + 3 = n) (host : String) (hw : (M.2.1, idx, (TX6 6).1, (TX6 6).2.1, (TX6 6).2.2.1, host) ∈ q_nsL) (hok : q_ok 7 o = true) (K : qAW l G M X n lv (.int (μ.1 7 o 6) :: st) μ r) : qAW l G M X pc lv (.ref (q_ad G 7 o) :: st) μ r :=
  aw_getN d n hn host hw (T := TX6) (f := 6) (N := 7) in_X6 at_7 hok rfl rfl (by decide) rfl K
theorem gf_X10_4 {idx o : Nat} (d : decode M.2.2.2.1 pc = .ok (.getfield idx, 3)) (n : Nat) (hn : pc + 3 = n) (hw : Cond.fieldLink M.2.1 idx (TX10 4).1 (TX10 4).2.1 (TX10 4).2.2.1 ∈ q_tb) (hok : q_ok 0 o = true) (K : qAW l G M X n lv (.ref (q_ad G 21 0) :: st) μ r) : qAW l G M X pc lv (.ref (q_ad G 0 o) :: st) μ r :=
  aw_get d n hn hw (T := TX10) (f := 4) (N := 19) in_X10 at_0 hok rfl rfl (by decide) rfl K
theorem gfN_X0_7 {idx o : Nat} (d : decode M.2.2.2.1 pc = .ok (.getfield idx, 3)) (n : Nat) (hn : pc + 3 = n) (host : String) (hw : (M.2.1, idx, (TX0 7).1, (TX0 7).2.1, (TX0 7).2.2.1, host) ∈ q_nsL) (hok : q_ok 2 o = true) (K : qAW l G M X n lv (.ref (q_ad G 5 o) :: st) μ r) : qAW l G M X pc lv (.ref (q_ad G 2 o) :: st) μ r :=
  aw_getN d n hn host hw (T := TX0) (f := 7) (N := 19) in_X0 at_2 hok rfl rfl (by decide) rfl K
theorem gfN_X4_2 {idx o : Nat} (d : decode M.2.2.2.1 pc = .ok (.getfield idx, 3)) (n : Nat) (hn : pc + 3 = n) (host : String) (hw : (M.2.1, idx, (TX4 2).1, (TX4 2).2.1, (TX4 2).2.2.1, host) ∈ q_nsL) (hok : q_ok 5 o = true) (K : qAW l G M X n lv (.int (μ.1 5 o 2) :: st) μ r) : qAW l G M X pc lv (.ref (q_ad G 5 o) :: st) μ r :=
  aw_getN d n hn host hw (T := TX4) (f := 2) (N := 5) in_X4 at_5 hok rfl rfl (by decide) rfl K
theorem gfN_X0_10 {idx o : Nat} (d : decode M.2.2.2.1 pc = .ok (.getfield idx, 3)) (n : Nat) (hn : pc + 3 = n) (host : String) (hw : (M.2.1, idx, (TX0 10).1, (TX0 10).2.1, (TX0 10).2.2.1, host) ∈ q_nsL) (hok : q_ok 2 o = true) (K : qAW l G M X n lv (.int (μ.1 2 o 10) :: st) μ r) : qAW l G M X pc lv (.ref (q_ad G 2 o) :: st) μ r :=
  aw_getN d n hn host hw (T := TX0) (f := 10) (N := 19) in_X0 at_2 hok rfl rfl (by decide) rfl K
theorem pfN_X0_10 {idx o : Nat} {x : Int32} (d : decode M.2.2.2.1 pc = .ok (.putfield idx, 3)) (n : Nat) (hn : pc + 3 = n) (host : String) (hw : (M.2.1, idx, (TX0 10).1, (TX0 10).2.1, (TX0 10).2.2.1, host) ∈ q_nsL) (hok : q_ok 2 o = true) (hb : q_b x = true) (K : qAW l G M X n lv st (q_si μ 2 o 10 x) r) : qAW l G M X pc lv (.int x :: .ref (q_ad G 2 o) :: st) μ r :=
  aw_putN d n hn host hw (T := TX0) (f := 10) (N := 19) (μ2 := q_si μ 2 o 10 x) in_X0 tyX0_ok nmX0 at_2 hok rfl rfl (by decide) (Nat.le_of_ble_eq_true rfl) rfl rfl (q_nb hb).1 (q_nb hb).2 (by simp [q_fl, q_si]) (fun a b _ h => q_rep_si a b h) K
theorem gf_X10_8 {idx o : Nat} (d : decode M.2.2.2.1 pc = .ok (.getfield idx, 3)) (n : Nat) (hn : pc + 3 = n) (hw : Cond.fieldLink M.2.1 idx (TX10 8).1 (TX10 8).2.1 (TX10 8).2.2.1 ∈ q_tb) (hok : q_ok 0 o = true) (K : qAW l G M X n lv (.ref (q_ad G 22 0) :: st) μ r) : qAW l G M X pc lv (.ref (q_ad G 0 o) :: st) μ r :=
  aw_get d n hn hw (T := TX10) (f := 8) (N := 19) in_X10 at_0 hok rfl rfl (by decide) rfl K
theorem gfN_X1_0 {idx o : Nat} (d : decode M.2.2.2.1 pc = .ok (.getfield idx, 3)) (n : Nat) (hn : pc + 3 = n) (host : String) (hw : (M.2.1, idx, (TX1 0).1, (TX1 0).2.1, (TX1 0).2.2.1, host) ∈ q_nsL) (hok : q_ok 8 o = true) (K : qAW l G M X n lv (.int (μ.1 8 o 0) :: st) μ r) : qAW l G M X pc lv (.ref (q_ad G 8 o) :: st) μ r :=
  aw_getN d n hn host hw (T := TX1) (f := 0) (N := 3) in_X1 at_8 hok rfl rfl (by decide) rfl K
theorem pfN_X1_0 {idx o : Nat} {x : Int32} (d : decode M.2.2.2.1 pc = .ok (.putfield idx, 3)) (n : Nat) (hn : pc + 3 = n) (host : String) (hw : (M.2.1, idx, (TX1 0).1, (TX1 0).2.1, (TX1 0).2.2.1, host) ∈ q_nsL) (hok : q_ok 8 o = true) (K : qAW l G M X n lv st (q_si μ 8 o 0 x) r) : qAW l G M X pc lv (.int x :: .ref (q_ad G 8 o) :: st) μ r :=
  aw_putN d n hn host hw (T := TX1) (f := 0) (N := 3) (μ2 := q_si μ 8 o 0 x) in_X1 tyX1_ok nmX1 at_8 hok rfl rfl (by decide) (Nat.le_of_ble_eq_true rfl) rfl rfl rfl rfl (by simp [q_fl, q_si]) (fun a b _ h => q_rep_si a b h) K
theorem gf_X10_9 {idx o : Nat} (d : decode M.2.2.2.1 pc = .ok (.getfield idx, 3)) (n : Nat) (hn : pc + 3 = n) (hw : Cond.fieldLink M.2.1 idx (TX10 9).1 (TX10 9).2.1 (TX10 9).2.2.1 ∈ q_tb) (hok : q_ok 0 o = true) (K : qAW l G M X n lv (.ref (q_ad G 23 0) :: st) μ r) : qAW l G M X pc lv (.ref (q_ad G 0 o) :: st) μ r :=
  aw_get d n hn hw (T := TX10) (f := 9) (N := 19) in_X10 at_0 hok rfl rfl (by decide) rfl K
theorem gfN_X2_2 {idx o : Nat} (d : decode M.2.2.2.1 pc = .ok (.getfield idx, 3)) (n : Nat) (hn : pc + 3 = n) (host : String) (hw : (M.2.1, idx, (TX2 2).1, (TX2 2).2.1, (TX2 2).2.2.1, host) ∈ q_nsL) (hok : q_ok 9 o = true) (K : qAW l G M X n lv (.int (μ.1 9 o 2) :: st) μ r) : qAW l G M X pc lv (.ref (q_ad G 9 o) :: st) μ r :=
  aw_getN d n hn host hw (T := TX2) (f := 2) (N := 6) in_X2 at_9 hok rfl rfl (by decide) rfl K
theorem pfN_X2_2 {idx o : Nat} {x : Int32} (d : decode M.2.2.2.1 pc = .ok (.putfield idx, 3)) (n : Nat) (hn : pc + 3 = n) (host : String) (hw : (M.2.1, idx, (TX2 2).1, (TX2 2).2.1, (TX2 2).2.2.1, host) ∈ q_nsL) (hok : q_ok 9 o = true) (K : qAW l G M X n lv st (q_si μ 9 o 2 x) r) : qAW l G M X pc lv (.int x :: .ref (q_ad G 9 o) :: st) μ r :=
  aw_putN d n hn host hw (T := TX2) (f := 2) (N := 6) (μ2 := q_si μ 9 o 2 x) in_X2 tyX2_ok nmX2 at_9 hok rfl rfl (by decide) (Nat.le_of_ble_eq_true rfl) rfl rfl rfl rfl (by simp [q_fl, q_si]) (fun a b _ h => q_rep_si a b h) K
theorem gfN_X0_11 {idx o : Nat} (d : decode M.2.2.2.1 pc = .ok (.getfield idx, 3)) (n : Nat) (hn : pc + 3 = n) (host : String) (hw : (M.2.1, idx, (TX0 11).1, (TX0 11).2.1, (TX0 11).2.2.1, host) ∈ q_nsL) (hok : q_ok 2 o = true) (K : qAW l G M X n lv (.int (μ.1 2 o 11) :: st) μ r) : qAW l G M X pc lv (.ref (q_ad G 2 o) :: st) μ r :=
  aw_getN d n hn host hw (T := TX0) (f := 11) (N := 19) in_X0 at_2 hok rfl rfl (by decide) rfl K
theorem pfN_X3_1 {idx o : Nat} {x : Int32} (d : decode M.2.2.2.1 pc = .ok (.putfield idx, 3)) (n : Nat) (hn : pc + 3 = n) (host : String) (hw : (M.2.1, idx, (TX3 1).1, (TX3 1).2.1, (TX3 1).2.2.1, host) ∈ q_nsL) (hok : q_ok 3 o = true) (K : qAW l G M X n lv st (q_si μ 3 o 1 x) r) : qAW l G M X pc lv (.int x :: .ref (q_ad G 3 o) :: st) μ r :=
  aw_putN d n hn host hw (T := TX3) (f := 1) (N := 4) (μ2 := q_si μ 3 o 1 x) in_X3 tyX3_ok nmX3 at_3 hok rfl rfl (by decide) (Nat.le_of_ble_eq_true rfl) rfl rfl rfl rfl (by simp [q_fl, q_si]) (fun a b _ h => q_rep_si a b h) K
theorem pfN_X0_17 {idx o : Nat} {x : Int32} (d : decode M.2.2.2.1 pc = .ok (.putfield idx, 3)) (n : Nat) (hn : pc + 3 = n) (host : String) (hw : (M.2.1, idx, (TX0 17).1, (TX0 17).2.1, (TX0 17).2.2.1, host) ∈ q_nsL) (hok : q_ok 2 o = true) (K : qAW l G M X n lv st (q_si μ 2 o 17 x) r) : qAW l G M X pc lv (.int x :: .ref (q_ad G 2 o) :: st) μ r :=
  aw_putN d n hn host hw (T := TX0) (f := 17) (N := 19) (μ2 := q_si μ 2 o 17 x) in_X0 tyX0_ok nmX0 at_2 hok rfl rfl (by decide) (Nat.le_of_ble_eq_true rfl) rfl rfl rfl rfl (by simp [q_fl, q_si]) (fun a b _ h => q_rep_si a b h) K
theorem pfN_X0_18 {idx o : Nat} {x : Int32} (d : decode M.2.2.2.1 pc = .ok (.putfield idx, 3)) (n : Nat) (hn : pc + 3 = n) (host : String) (hw : (M.2.1, idx, (TX0 18).1, (TX0 18).2.1, (TX0 18).2.2.1, host) ∈ q_nsL) (hok : q_ok 2 o = true) (K : qAW l G M X n lv st (q_si μ 2 o 18 x) r) : qAW l G M X pc lv (.int x :: .ref (q_ad G 2 o) :: st) μ r :=
  aw_putN d n hn host hw (T := TX0) (f := 18) (N := 19) (μ2 := q_si μ 2 o 18 x) in_X0 tyX0_ok nmX0 at_2 hok rfl rfl (by decide) (Nat.le_of_ble_eq_true rfl) rfl rfl rfl rfl (by simp [q_fl, q_si]) (fun a b _ h => q_rep_si a b h) K
theorem gf_X10_6 {idx o : Nat} (d : decode M.2.2.2.1 pc = .ok (.getfield idx, 3)) (n : Nat) (hn : pc + 3 = n) (hw : Cond.fieldLink M.2.1 idx (TX10 6).1 (TX10 6).2.1 (TX10 6).2.2.1 ∈ q_tb) (hok : q_ok 0 o = true) (K : qAW l G M X n lv (.ref (q_ad G 6 0) :: st) μ r) : qAW l G M X pc lv (.ref (q_ad G 0 o) :: st) μ r :=
  aw_get d n hn hw (T := TX10) (f := 6) (N := 19) in_X10 at_0 hok rfl rfl (by decide) rfl K
theorem gfN_X2_3 {idx o : Nat} (d : decode M.2.2.2.1 pc = .ok (.getfield idx, 3)) (n : Nat) (hn : pc + 3 = n) (host : String) (hw : (M.2.1, idx, (TX2 3).1, (TX2 3).2.1, (TX2 3).2.2.1, host) ∈ q_nsL) (hok : q_ok 9 o = true) (K : qAW l G M X n lv (.int (μ.1 9 o 3) :: st) μ r) : qAW l G M X pc lv (.ref (q_ad G 9 o) :: st) μ r :=
  aw_getN d n hn host hw (T := TX2) (f := 3) (N := 6) in_X2 at_9 hok rfl rfl (by decide) rfl K
theorem pfN_X0_11 {idx o : Nat} {x : Int32} (d : decode M.2.2.2.1 pc = .ok (.putfield idx, 3)) (n : Nat) (hn : pc + 3 = n) (host : String) (hw : (M.2.1, idx, (TX0 11).1, (TX0 11).2.1, (TX0 11).2.2.1, host) ∈ q_nsL) (hok : q_ok 2 o = true) (K : qAW l G M X n lv st (q_si μ 2 o 11 x) r) : qAW l G M X pc lv (.int x :: .ref (q_ad G 2 o) :: st) μ r :=
  aw_putN d n hn host hw (T := TX0) (f := 11) (N := 19) (μ2 := q_si μ 2 o 11 x) in_X0 tyX0_ok nmX0 at_2 hok rfl rfl (by decide) (Nat.le_of_ble_eq_true rfl) rfl rfl rfl rfl (by simp [q_fl, q_si]) (fun a b _ h => q_rep_si a b h) K
theorem gfN_X1_1 {idx o : Nat} (d : decode M.2.2.2.1 pc = .ok (.getfield idx, 3)) (n : Nat) (hn : pc + 3 = n) (host : String) (hw : (M.2.1, idx, (TX1 1).1, (TX1 1).2.1, (TX1 1).2.2.1, host) ∈ q_nsL) (hok : q_ok 8 o = true) (K : qAW l G M X n lv (.int (μ.1 8 o 1) :: st) μ r) : qAW l G M X pc lv (.ref (q_ad G 8 o) :: st) μ r :=
  aw_getN d n hn host hw (T := TX1) (f := 1) (N := 3) in_X1 at_8 hok rfl rfl (by decide) rfl K
theorem pfN_X1_1 {idx o : Nat} {x : Int32} (d : decode M.2.2.2.1 pc = .ok (.putfield idx, 3)) (n : Nat) (hn : pc + 3 = n) (host : String) (hw : (M.2.1, idx, (TX1 1).1, (TX1 1).2.1, (TX1 1).2.2.1, host) ∈ q_nsL) (hok : q_ok 8 o = true) (K : qAW l G M X n lv st (q_si μ 8 o 1 x) r) : qAW l G M X pc lv (.int x :: .ref (q_ad G 8 o) :: st) μ r :=
  aw_putN d n hn host hw (T := TX1) (f := 1) (N := 3) (μ2 := q_si μ 8 o 1 x) in_X1 tyX1_ok nmX1 at_8 hok rfl rfl (by decide) (Nat.le_of_ble_eq_true rfl) rfl rfl rfl rfl (by simp [q_fl, q_si]) (fun a b _ h => q_rep_si a b h) K
theorem pfN_X2_3 {idx o : Nat} {x : Int32} (d : decode M.2.2.2.1 pc = .ok (.putfield idx, 3)) (n : Nat) (hn : pc + 3 = n) (host : String) (hw : (M.2.1, idx, (TX2 3).1, (TX2 3).2.1, (TX2 3).2.2.1, host) ∈ q_nsL) (hok : q_ok 9 o = true) (K : qAW l G M X n lv st (q_si μ 9 o 3 x) r) : qAW l G M X pc lv (.int x :: .ref (q_ad G 9 o) :: st) μ r :=
  aw_putN d n hn host hw (T := TX2) (f := 3) (N := 6) (μ2 := q_si μ 9 o 3 x) in_X2 tyX2_ok nmX2 at_9 hok rfl rfl (by decide) (Nat.le_of_ble_eq_true rfl) rfl rfl rfl rfl (by simp [q_fl, q_si]) (fun a b _ h => q_rep_si a b h) K
theorem pfN_X1_2 {idx o : Nat} {x : Int32} (d : decode M.2.2.2.1 pc = .ok (.putfield idx, 3)) (n : Nat) (hn : pc + 3 = n) (host : String) (hw : (M.2.1, idx, (TX1 2).1, (TX1 2).2.1, (TX1 2).2.2.1, host) ∈ q_nsL) (hok : q_ok 8 o = true) (K : qAW l G M X n lv st (q_si μ 8 o 2 x) r) : qAW l G M X pc lv (.int x :: .ref (q_ad G 8 o) :: st) μ r :=
  aw_putN d n hn host hw (T := TX1) (f := 2) (N := 3) (μ2 := q_si μ 8 o 2 x) in_X1 tyX1_ok nmX1 at_8 hok rfl rfl (by decide) (Nat.le_of_ble_eq_true rfl) rfl rfl rfl rfl (by simp [q_fl, q_si]) (fun a b _ h => q_rep_si a b h) K
theorem gf_X10_10 {idx o : Nat} (d : decode M.2.2.2.1 pc = .ok (.getfield idx, 3)) (n : Nat) (hn : pc + 3 = n) (hw : Cond.fieldLink M.2.1 idx (TX10 10).1 (TX10 10).2.1 (TX10 10).2.2.1 ∈ q_tb) (hok : q_ok 0 o = true) (K : qAW l G M X n lv (.ref (q_ad G 10 0) :: st) μ r) : qAW l G M X pc lv (.ref (q_ad G 0 o) :: st) μ r :=
  aw_get d n hn hw (T := TX10) (f := 10) (N := 19) in_X10 at_0 hok rfl rfl (by decide) rfl K
theorem gf_X10_11 {idx o : Nat} (d : decode M.2.2.2.1 pc = .ok (.getfield idx, 3)) (n : Nat) (hn : pc + 3 = n) (hw : Cond.fieldLink M.2.1 idx (TX10 11).1 (TX10 11).2.1 (TX10 11).2.2.1 ∈ q_tb) (hok : q_ok 0 o = true) (K : qAW l G M X n lv (.ref (q_ad G 10 1) :: st) μ r) : qAW l G M X pc lv (.ref (q_ad G 0 o) :: st) μ r :=
  aw_get d n hn hw (T := TX10) (f := 11) (N := 19) in_X10 at_0 hok rfl rfl (by decide) rfl K
theorem gfN_X9_2 {idx o : Nat} (d : decode M.2.2.2.1 pc = .ok (.getfield idx, 3)) (n : Nat) (hn : pc + 3 = n) (host : String) (hw : (M.2.1, idx, (TX9 2).1, (TX9 2).2.1, (TX9 2).2.2.1, host) ∈ q_nsL) (hok : q_ok 10 o = true) (K : qAW l G M X n lv (.int (μ.1 10 o 2) :: st) μ r) : qAW l G M X pc lv (.ref (q_ad G 10 o) :: st) μ r :=
  aw_getN d n hn host hw (T := TX9) (f := 2) (N := 3) in_X9 at_10 hok rfl rfl (by decide) rfl K
theorem gfN_X9_0 {idx o : Nat} (d : decode M.2.2.2.1 pc = .ok (.getfield idx, 3)) (n : Nat) (hn : pc + 3 = n) (host : String) (hw : (M.2.1, idx, (TX9 0).1, (TX9 0).2.1, (TX9 0).2.2.1, host) ∈ q_nsL) (hok : q_ok 10 o = true) (K : qAW l G M X n lv (.long (μ.2.1 10 o 0) :: st) μ r) : qAW l G M X pc lv (.ref (q_ad G 10 o) :: st) μ r :=
  aw_getN d n hn host hw (T := TX9) (f := 0) (N := 3) in_X9 at_10 hok rfl rfl (by decide) rfl K
theorem gfN_X9_1 {idx o : Nat} (d : decode M.2.2.2.1 pc = .ok (.getfield idx, 3)) (n : Nat) (hn : pc + 3 = n) (host : String) (hw : (M.2.1, idx, (TX9 1).1, (TX9 1).2.1, (TX9 1).2.2.1, host) ∈ q_nsL) (hok : q_ok 10 o = true) (K : qAW l G M X n lv (.long (μ.2.1 10 o 1) :: st) μ r) : qAW l G M X pc lv (.ref (q_ad G 10 o) :: st) μ r :=
  aw_getN d n hn host hw (T := TX9) (f := 1) (N := 3) in_X9 at_10 hok rfl rfl (by decide) rfl K
theorem pfN_X4_3 {idx o : Nat} {x : Int32} (d : decode M.2.2.2.1 pc = .ok (.putfield idx, 3)) (n : Nat) (hn : pc + 3 = n) (host : String) (hw : (M.2.1, idx, (TX4 3).1, (TX4 3).2.1, (TX4 3).2.2.1, host) ∈ q_nsL) (hok : q_ok 5 o = true) (K : qAW l G M X n lv st (q_si μ 5 o 3 x) r) : qAW l G M X pc lv (.int x :: .ref (q_ad G 5 o) :: st) μ r :=
  aw_putN d n hn host hw (T := TX4) (f := 3) (N := 5) (μ2 := q_si μ 5 o 3 x) in_X4 tyX4_ok nmX4 at_5 hok rfl rfl (by decide) (Nat.le_of_ble_eq_true rfl) rfl rfl rfl rfl (by simp [q_fl, q_si]) (fun a b _ h => q_rep_si a b h) K
theorem pfN_X4_4 {idx o : Nat} {x : Int32} (d : decode M.2.2.2.1 pc = .ok (.putfield idx, 3)) (n : Nat) (hn : pc + 3 = n) (host : String) (hw : (M.2.1, idx, (TX4 4).1, (TX4 4).2.1, (TX4 4).2.2.1, host) ∈ q_nsL) (hok : q_ok 5 o = true) (K : qAW l G M X n lv st (q_si μ 5 o 4 x) r) : qAW l G M X pc lv (.int x :: .ref (q_ad G 5 o) :: st) μ r :=
  aw_putN d n hn host hw (T := TX4) (f := 4) (N := 5) (μ2 := q_si μ 5 o 4 x) in_X4 tyX4_ok nmX4 at_5 hok rfl rfl (by decide) (Nat.le_of_ble_eq_true rfl) rfl rfl rfl rfl (by simp [q_fl, q_si]) (fun a b _ h => q_rep_si a b h) K
theorem gf_X10_5 {idx o : Nat} (d : decode M.2.2.2.1 pc = .ok (.getfield idx, 3)) (n : Nat) (hn : pc + 3 = n) (hw : Cond.fieldLink M.2.1 idx (TX10 5).1 (TX10 5).2.1 (TX10 5).2.2.1 ∈ q_tb) (hok : q_ok 0 o = true) (K : qAW l G M X n lv (.ref (q_ad G 2 6) :: st) μ r) : qAW l G M X pc lv (.ref (q_ad G 0 o) :: st) μ r :=
  aw_get d n hn hw (T := TX10) (f := 5) (N := 19) in_X10 at_0 hok rfl rfl (by decide) rfl K
theorem gf_X10_12 {idx o : Nat} (d : decode M.2.2.2.1 pc = .ok (.getfield idx, 3)) (n : Nat) (hn : pc + 3 = n) (hw : Cond.fieldLink M.2.1 idx (TX10 12).1 (TX10 12).2.1 (TX10 12).2.2.1 ∈ q_tb) (hok : q_ok 0 o = true) (K : qAW l G M X n lv (.ref (q_ad G 35 0) :: st) μ r) : qAW l G M X pc lv (.ref (q_ad G 0 o) :: st) μ r :=
  aw_get d n hn hw (T := TX10) (f := 12) (N := 19) in_X10 at_0 hok rfl rfl (by decide) rfl K
theorem gfN_X6_3 {idx o : Nat} (d : decode M.2.2.2.1 pc = .ok (.getfield idx, 3)) (n : Nat) (hn : pc + 3 = n) (host : String) (hw : (M.2.1, idx, (TX6 3).1, (TX6 3).2.1, (TX6 3).2.2.1, host) ∈ q_nsL) (hok : q_ok 7 o = true) (K : qAW l G M X n lv (.int (μ.1 7 o 3) :: st) μ r) : qAW l G M X pc lv (.ref (q_ad G 7 o) :: st) μ r :=
  aw_getN d n hn host hw (T := TX6) (f := 3) (N := 7) in_X6 at_7 hok rfl rfl (by decide) rfl K
theorem gfN_X6_4 {idx o : Nat} (d : decode M.2.2.2.1 pc = .ok (.getfield idx, 3)) (n : Nat) (hn : pc + 3 = n) (host : String) (hw : (M.2.1, idx, (TX6 4).1, (TX6 4).2.1, (TX6 4).2.2.1, host) ∈ q_nsL) (hok : q_ok 7 o = true) (K : qAW l G M X n lv (.int (μ.1 7 o 4) :: st) μ r) : qAW l G M X pc lv (.ref (q_ad G 7 o) :: st) μ r :=
  aw_getN d n hn host hw (T := TX6) (f := 4) (N := 7) in_X6 at_7 hok rfl rfl (by decide) rfl K
theorem gf_X10_14 {idx o : Nat} (d : decode M.2.2.2.1 pc = .ok (.getfield idx, 3)) (n : Nat) (hn : pc + 3 = n) (hw : Cond.fieldLink M.2.1 idx (TX10 14).1 (TX10 14).2.1 (TX10 14).2.2.1 ∈ q_tb) (hok : q_ok 0 o = true) (K : qAW l G M X n lv (.int (μ.1 0 o 14) :: st) μ r) : qAW l G M X pc lv (.ref (q_ad G 0 o) :: st) μ r :=
  aw_get d n hn hw (T := TX10) (f := 14) (N := 19) in_X10 at_0 hok rfl rfl (by decide) rfl K
theorem gf_X10_2 {idx o : Nat} (d : decode M.2.2.2.1 pc = .ok (.getfield idx, 3)) (n : Nat) (hn : pc + 3 = n) (hw : Cond.fieldLink M.2.1 idx (TX10 2).1 (TX10 2).2.1 (TX10 2).2.2.1 ∈ q_tb) (hok : q_ok 0 o = true) (K : qAW l G M X n lv (.ref (q_ad G 1 2) :: st) μ r) : qAW l G M X pc lv (.ref (q_ad G 0 o) :: st) μ r :=
  aw_get d n hn hw (T := TX10) (f := 2) (N := 19) in_X10 at_0 hok rfl rfl (by decide) rfl K
theorem gf_X10_3 {idx o : Nat} (d : decode M.2.2.2.1 pc = .ok (.getfield idx, 3)) (n : Nat) (hn : pc + 3 = n) (hw : Cond.fieldLink M.2.1 idx (TX10 3).1 (TX10 3).2.1 (TX10 3).2.2.1 ∈ q_tb) (hok : q_ok 0 o = true) (K : qAW l G M X n lv (.ref (q_ad G 34 0) :: st) μ r) : qAW l G M X pc lv (.ref (q_ad G 0 o) :: st) μ r :=
  aw_get d n hn hw (T := TX10) (f := 3) (N := 19) in_X10 at_0 hok rfl rfl (by decide) rfl K
theorem pf_X10_14 {idx o : Nat} {x : Int32} (d : decode M.2.2.2.1 pc = .ok (.putfield idx, 3)) (n : Nat) (hn : pc + 3 = n) (hw : Cond.fieldLink M.2.1 idx (TX10 14).1 (TX10 14).2.1 (TX10 14).2.2.1 ∈ q_tb) (hok : q_ok 0 o = true) (K : qAW l G M X n lv st (q_si μ 0 o 14 x) r) : qAW l G M X pc lv (.int x :: .ref (q_ad G 0 o) :: st) μ r :=
  aw_put d n hn hw (T := TX10) (f := 14) (N := 19) (μ2 := q_si μ 0 o 14 x) in_X10 tyX10_ok nmX10 at_0 hok rfl rfl (by decide) (Nat.le_of_ble_eq_true rfl) rfl rfl rfl rfl (by simp [q_fl, q_si]) (fun a b _ h => q_rep_si a b h) K
theorem pf_X10_17 {idx o : Nat} {x : Int64} (d : decode M.2.2.2.1 pc = .ok (.putfield idx, 3)) (n : Nat) (hn : pc + 3 = n) (hw : Cond.fieldLink M.2.1 idx (TX10 17).1 (TX10 17).2.1 (TX10 17).2.2.1 ∈ q_tb) (hok : q_ok 0 o = true) (K : qAW l G M X n lv st (q_sl μ 0 o 17 x) r) : qAW l G M X pc lv (.long x :: .ref (q_ad G 0 o) :: st) μ r :=
  aw_put d n hn hw (T := TX10) (f := 17) (N := 19) (μ2 := q_sl μ 0 o 17 x) in_X10 tyX10_ok nmX10 at_0 hok rfl rfl (by decide) (Nat.le_of_ble_eq_true rfl) rfl rfl rfl rfl (by simp [q_fl, q_sl]) (fun a b _ h => q_rep_sl a b h) K
theorem pf_X10_18 {idx o : Nat} {x : Int64} (d : decode M.2.2.2.1 pc = .ok (.putfield idx, 3)) (n : Nat) (hn : pc + 3 = n) (hw : Cond.fieldLink M.2.1 idx (TX10 18).1 (TX10 18).2.1 (TX10 18).2.2.1 ∈ q_tb) (hok : q_ok 0 o = true) (K : qAW l G M X n lv st (q_sl μ 0 o 18 x) r) : qAW l G M X pc lv (.long x :: .ref (q_ad G 0 o) :: st) μ r :=
  aw_put d n hn hw (T := TX10) (f := 18) (N := 19) (μ2 := q_sl μ 0 o 18 x) in_X10 tyX10_ok nmX10 at_0 hok rfl rfl (by decide) (Nat.le_of_ble_eq_true rfl) rfl rfl rfl rfl (by simp [q_fl, q_sl]) (fun a b _ h => q_rep_sl a b h) K
theorem gfN_X0_9 {idx o : Nat} (d : decode M.2.2.2.1 pc = .ok (.getfield idx, 3)) (n : Nat) (hn : pc + 3 = n) (host : String) (hw : (M.2.1, idx, (TX0 9).1, (TX0 9).2.1, (TX0 9).2.2.1, host) ∈ q_nsL) (hok : q_ok 2 o = true) (K : qAW l G M X n lv (.int (μ.1 2 o 9) :: st) μ r) : qAW l G M X pc lv (.ref (q_ad G 2 o) :: st) μ r :=
  aw_getN d n hn host hw (T := TX0) (f := 9) (N := 19) in_X0 at_2 hok rfl rfl (by decide) rfl K
theorem gfN_X0_8 {idx o : Nat} (d : decode M.2.2.2.1 pc = .ok (.getfield idx, 3)) (n : Nat) (hn : pc + 3 = n) (host : String) (hw : (M.2.1, idx, (TX0 8).1, (TX0 8).2.1, (TX0 8).2.2.1, host) ∈ q_nsL) (hok : q_ok 2 o = true) (K : qAW l G M X n lv (.ref (q_ad G 42 o) :: st) μ r) : qAW l G M X pc lv (.ref (q_ad G 2 o) :: st) μ r :=
  aw_getN d n hn host hw (T := TX0) (f := 8) (N := 19) in_X0 at_2 hok rfl rfl (by decide) rfl K
theorem pfN_X0_9 {idx o : Nat} {x : Int32} (d : decode M.2.2.2.1 pc = .ok (.putfield idx, 3)) (n : Nat) (hn : pc + 3 = n) (host : String) (hw : (M.2.1, idx, (TX0 9).1, (TX0 9).2.1, (TX0 9).2.2.1, host) ∈ q_nsL) (hok : q_ok 2 o = true) (K : qAW l G M X n lv st (q_si μ 2 o 9 x) r) : qAW l G M X pc lv (.int x :: .ref (q_ad G 2 o) :: st) μ r :=
  aw_putN d n hn host hw (T := TX0) (f := 9) (N := 19) (μ2 := q_si μ 2 o 9 x) in_X0 tyX0_ok nmX0 at_2 hok rfl rfl (by decide) (Nat.le_of_ble_eq_true rfl) rfl rfl rfl rfl (by simp [q_fl, q_si]) (fun a b _ h => q_rep_si a b h) K
theorem gf_X10_15 {idx o : Nat} (d : decode M.2.2.2.1 pc = .ok (.getfield idx, 3)) (n : Nat) (hn : pc + 3 = n) (hw : Cond.fieldLink M.2.1 idx (TX10 15).1 (TX10 15).2.1 (TX10 15).2.2.1 ∈ q_tb) (hok : q_ok 0 o = true) (K : qAW l G M X n lv (.int (μ.1 0 o 15) :: st) μ r) : qAW l G M X pc lv (.ref (q_ad G 0 o) :: st) μ r :=
  aw_get d n hn hw (T := TX10) (f := 15) (N := 19) in_X10 at_0 hok rfl rfl (by decide) rfl K
theorem gf_X10_17 {idx o : Nat} (d : decode M.2.2.2.1 pc = .ok (.getfield idx, 3)) (n : Nat) (hn : pc + 3 = n) (hw : Cond.fieldLink M.2.1 idx (TX10 17).1 (TX10 17).2.1 (TX10 17).2.2.1 ∈ q_tb) (hok : q_ok 0 o = true) (K : qAW l G M X n lv (.long (μ.2.1 0 o 17) :: st) μ r) : qAW l G M X pc lv (.ref (q_ad G 0 o) :: st) μ r :=
  aw_get d n hn hw (T := TX10) (f := 17) (N := 19) in_X10 at_0 hok rfl rfl (by decide) rfl K
theorem gf_X10_18 {idx o : Nat} (d : decode M.2.2.2.1 pc = .ok (.getfield idx, 3)) (n : Nat) (hn : pc + 3 = n) (hw : Cond.fieldLink M.2.1 idx (TX10 18).1 (TX10 18).2.1 (TX10 18).2.2.1 ∈ q_tb) (hok : q_ok 0 o = true) (K : qAW l G M X n lv (.long (μ.2.1 0 o 18) :: st) μ r) : qAW l G M X pc lv (.ref (q_ad G 0 o) :: st) μ r :=
  aw_get d n hn hw (T := TX10) (f := 18) (N := 19) in_X10 at_0 hok rfl rfl (by decide) rfl K
theorem gf_X10_16 {idx o : Nat} (d : decode M.2.2.2.1 pc = .ok (.getfield idx, 3)) (n : Nat) (hn : pc + 3 = n) (hw : Cond.fieldLink M.2.1 idx (TX10 16).1 (TX10 16).2.1 (TX10 16).2.2.1 ∈ q_tb) (hok : q_ok 0 o = true) (K : qAW l G M X n lv (.int (μ.1 0 o 16) :: st) μ r) : qAW l G M X pc lv (.ref (q_ad G 0 o) :: st) μ r :=
  aw_get d n hn hw (T := TX10) (f := 16) (N := 19) in_X10 at_0 hok rfl rfl (by decide) rfl K
theorem pf_X11_0 {idx o : Nat} {x : Int32} (d : decode M.2.2.2.1 pc = .ok (.putfield idx, 3)) (n : Nat) (hn : pc + 3 = n) (hw : Cond.fieldLink M.2.1 idx (TX11 0).1 (TX11 0).2.1 (TX11 0).2.2.1 ∈ q_tb) (hok : q_ok 11 o = true) (K : qAW l G M X n lv st (q_si μ 11 o 0 x) r) : qAW l G M X pc lv (.int x :: .ref (q_ad G 11 o) :: st) μ r :=
  aw_put d n hn hw (T := TX11) (f := 0) (N := 66) (μ2 := q_si μ 11 o 0 x) in_X11 tyX11_ok nmX11 at_11 hok rfl rfl (by decide) (Nat.le_of_ble_eq_true rfl) rfl rfl rfl rfl (by simp [q_fl, q_si]) (fun a b _ h => q_rep_si a b h) K
theorem gf_X11_1 {idx o : Nat} (d : decode M.2.2.2.1 pc = .ok (.getfield idx, 3)) (n : Nat) (hn : pc + 3 = n) (hw : Cond.fieldLink M.2.1 idx (TX11 1).1 (TX11 1).2.1 (TX11 1).2.2.1 ∈ q_tb) (hok : q_ok 11 o = true) (K : qAW l G M X n lv (.ref (q_ad G 61 0) :: st) μ r) : qAW l G M X pc lv (.ref (q_ad G 11 o) :: st) μ r :=
  aw_get d n hn hw (T := TX11) (f := 1) (N := 66) in_X11 at_11 hok rfl rfl (by decide) rfl K
theorem pf_X11_2 {idx o : Nat} {x : Int32} (d : decode M.2.2.2.1 pc = .ok (.putfield idx, 3)) (n : Nat) (hn : pc + 3 = n) (hw : Cond.fieldLink M.2.1 idx (TX11 2).1 (TX11 2).2.1 (TX11 2).2.2.1 ∈ q_tb) (hok : q_ok 11 o = true) (K : qAW l G M X n lv st (q_si μ 11 o 2 x) r) : qAW l G M X pc lv (.int x :: .ref (q_ad G 11 o) :: st) μ r :=
  aw_put d n hn hw (T := TX11) (f := 2) (N := 66) (μ2 := q_si μ 11 o 2 x) in_X11 tyX11_ok nmX11 at_11 hok rfl rfl (by decide) (Nat.le_of_ble_eq_true rfl) rfl rfl rfl rfl (by simp [q_fl, q_si]) (fun a b _ h => q_rep_si a b h) K
theorem pf_X11_4 {idx o : Nat} {x : Int64} (d : decode M.2.2.2.1 pc = .ok (.putfield idx, 3)) (n : Nat) (hn : pc + 3 = n) (hw : Cond.fieldLink M.2.1 idx (TX11 4).1 (TX11 4).2.1 (TX11 4).2.2.1 ∈ q_tb) (hok : q_ok 11 o = true) (K : qAW l G M X n lv st (q_sl μ 11 o 4 x) r) : qAW l G M X pc lv (.long x :: .ref (q_ad G 11 o) :: st) μ r :=
  aw_put d n hn hw (T := TX11) (f := 4) (N := 66) (μ2 := q_sl μ 11 o 4 x) in_X11 tyX11_ok nmX11 at_11 hok rfl rfl (by decide) (Nat.le_of_ble_eq_true rfl) rfl rfl rfl rfl (by simp [q_fl, q_sl]) (fun a b _ h => q_rep_sl a b h) K
theorem pf_X11_5 {idx o : Nat} {x : Int64} (d : decode M.2.2.2.1 pc = .ok (.putfield idx, 3)) (n : Nat) (hn : pc + 3 = n) (hw : Cond.fieldLink M.2.1 idx (TX11 5).1 (TX11 5).2.1 (TX11 5).2.2.1 ∈ q_tb) (hok : q_ok 11 o = true) (K : qAW l G M X n lv st (q_sl μ 11 o 5 x) r) : qAW l G M X pc lv (.long x :: .ref (q_ad G 11 o) :: st) μ r :=
  aw_put d n hn hw (T := TX11) (f := 5) (N := 66) (μ2 := q_sl μ 11 o 5 x) in_X11 tyX11_ok nmX11 at_11 hok rfl rfl (by decide) (Nat.le_of_ble_eq_true rfl) rfl rfl rfl rfl (by simp [q_fl, q_sl]) (fun a b _ h => q_rep_sl a b h) K
theorem gf_X11_6 {idx o : Nat} (d : decode M.2.2.2.1 pc = .ok (.getfield idx, 3)) (n : Nat) (hn : pc + 3 = n) (hw : Cond.fieldLink M.2.1 idx (TX11 6).1 (TX11 6).2.1 (TX11 6).2.2.1 ∈ q_tb) (hok : q_ok 11 o = true) (K : qAW l G M X n lv (.ref (q_ad G 66 0) :: st) μ r) : qAW l G M X pc lv (.ref (q_ad G 11 o) :: st) μ r :=
  aw_get d n hn hw (T := TX11) (f := 6) (N := 66) in_X11 at_11 hok rfl rfl (by decide) rfl K
theorem gf_X11_7 {idx o : Nat} (d : decode M.2.2.2.1 pc = .ok (.getfield idx, 3)) (n : Nat) (hn : pc + 3 = n) (hw : Cond.fieldLink M.2.1 idx (TX11 7).1 (TX11 7).2.1 (TX11 7).2.2.1 ∈ q_tb) (hok : q_ok 11 o = true) (K : qAW l G M X n lv (.ref (q_ad G 67 0) :: st) μ r) : qAW l G M X pc lv (.ref (q_ad G 11 o) :: st) μ r :=
  aw_get d n hn hw (T := TX11) (f := 7) (N := 66) in_X11 at_11 hok rfl rfl (by decide) rfl K
theorem gf_X11_8 {idx o : Nat} (d : decode M.2.2.2.1 pc = .ok (.getfield idx, 3)) (n : Nat) (hn : pc + 3 = n) (hw : Cond.fieldLink M.2.1 idx (TX11 8).1 (TX11 8).2.1 (TX11 8).2.2.1 ∈ q_tb) (hok : q_ok 11 o = true) (K : qAW l G M X n lv (.ref (q_ad G 68 0) :: st) μ r) : qAW l G M X pc lv (.ref (q_ad G 11 o) :: st) μ r :=
  aw_get d n hn hw (T := TX11) (f := 8) (N := 66) in_X11 at_11 hok rfl rfl (by decide) rfl K
theorem gf_X11_9 {idx o : Nat} (d : decode M.2.2.2.1 pc = .ok (.getfield idx, 3)) (n : Nat) (hn : pc + 3 = n) (hw : Cond.fieldLink M.2.1 idx (TX11 9).1 (TX11 9).2.1 (TX11 9).2.2.1 ∈ q_tb) (hok : q_ok 11 o = true) (K : qAW l G M X n lv (.ref (q_ad G 69 0) :: st) μ r) : qAW l G M X pc lv (.ref (q_ad G 11 o) :: st) μ r :=
  aw_get d n hn hw (T := TX11) (f := 9) (N := 66) in_X11 at_11 hok rfl rfl (by decide) rfl K
theorem gf_X11_10 {idx o : Nat} (d : decode M.2.2.2.1 pc = .ok (.getfield idx, 3)) (n : Nat) (hn : pc + 3 = n) (hw : Cond.fieldLink M.2.1 idx (TX11 10).1 (TX11 10).2.1 (TX11 10).2.2.1 ∈ q_tb) (hok : q_ok 11 o = true) (K : qAW l G M X n lv (.ref (q_ad G 70 0) :: st) μ r) : qAW l G M X pc lv (.ref (q_ad G 11 o) :: st) μ r :=
  aw_get d n hn hw (T := TX11) (f := 10) (N := 66) in_X11 at_11 hok rfl rfl (by decide) rfl K
theorem pf_X11_11 {idx o : Nat} {x : Int32} (d : decode M.2.2.2.1 pc = .ok (.putfield idx, 3)) (n : Nat) (hn : pc + 3 = n) (hw : Cond.fieldLink M.2.1 idx (TX11 11).1 (TX11 11).2.1 (TX11 11).2.2.1 ∈ q_tb) (hok : q_ok 11 o = true) (K : qAW l G M X n lv st (q_si μ 11 o 11 x) r) : qAW l G M X pc lv (.int x :: .ref (q_ad G 11 o) :: st) μ r :=
  aw_put d n hn hw (T := TX11) (f := 11) (N := 66) (μ2 := q_si μ 11 o 11 x) in_X11 tyX11_ok nmX11 at_11 hok rfl rfl (by decide) (Nat.le_of_ble_eq_true rfl) rfl rfl rfl rfl (by simp [q_fl, q_si]) (fun a b _ h => q_rep_si a b h) K
theorem gf_X11_12 {idx o : Nat} (d : decode M.2.2.2.1 pc = .ok (.getfield idx, 3)) (n : Nat) (hn : pc + 3 = n) (hw : Cond.fieldLink M.2.1 idx (TX11 12).1 (TX11 12).2.1 (TX11 12).2.2.1 ∈ q_tb) (hok : q_ok 11 o = true) (K : qAW l G M X n lv (.ref (q_ad G 72 0) :: st) μ r) : qAW l G M X pc lv (.ref (q_ad G 11 o) :: st) μ r :=
  aw_get d n hn hw (T := TX11) (f := 12) (N := 66) in_X11 at_11 hok rfl rfl (by decide) rfl K
theorem gf_X11_11 {idx o : Nat} (d : decode M.2.2.2.1 pc = .ok (.getfield idx, 3)) (n : Nat) (hn : pc + 3 = n) (hw : Cond.fieldLink M.2.1 idx (TX11 11).1 (TX11 11).2.1 (TX11 11).2.2.1 ∈ q_tb) (hok : q_ok 11 o = true) (K : qAW l G M X n lv (.int (μ.1 11 o 11) :: st) μ r) : qAW l G M X pc lv (.ref (q_ad G 11 o) :: st) μ r :=
  aw_get d n hn hw (T := TX11) (f := 11) (N := 66) in_X11 at_11 hok rfl rfl (by decide) rfl K
theorem gf_X11_13 {idx o : Nat} (d : decode M.2.2.2.1 pc = .ok (.getfield idx, 3)) (n : Nat) (hn : pc + 3 = n) (hw : Cond.fieldLink M.2.1 idx (TX11 13).1 (TX11 13).2.1 (TX11 13).2.2.1 ∈ q_tb) (hok : q_ok 11 o = true) (K : qAW l G M X n lv (.ref (q_ad G 73 0) :: st) μ r) : qAW l G M X pc lv (.ref (q_ad G 11 o) :: st) μ r :=
  aw_get d n hn hw (T := TX11) (f := 13) (N := 66) in_X11 at_11 hok rfl rfl (by decide) rfl K
theorem gf_X11_15 {idx o : Nat} (d : decode M.2.2.2.1 pc = .ok (.getfield idx, 3)) (n : Nat) (hn : pc + 3 = n) (hw : Cond.fieldLink M.2.1 idx (TX11 15).1 (TX11 15).2.1 (TX11 15).2.2.1 ∈ q_tb) (hok : q_ok 11 o = true) (K : qAW l G M X n lv (.ref (q_ad G 75 0) :: st) μ r) : qAW l G M X pc lv (.ref (q_ad G 11 o) :: st) μ r :=
  aw_get d n hn hw (T := TX11) (f := 15) (N := 66) in_X11 at_11 hok rfl rfl (by decide) rfl K
theorem gf_X11_16 {idx o : Nat} (d : decode M.2.2.2.1 pc = .ok (.getfield idx, 3)) (n : Nat) (hn : pc + 3 = n) (hw : Cond.fieldLink M.2.1 idx (TX11 16).1 (TX11 16).2.1 (TX11 16).2.2.1 ∈ q_tb) (hok : q_ok 11 o = true) (K : qAW l G M X n lv (.ref (q_ad G 76 0) :: st) μ r) : qAW l G M X pc lv (.ref (q_ad G 11 o) :: st) μ r :=
  aw_get d n hn hw (T := TX11) (f := 16) (N := 66) in_X11 at_11 hok rfl rfl (by decide) rfl K
theorem gf_X11_31 {idx o : Nat} (d : decode M.2.2.2.1 pc = .ok (.getfield idx, 3)) (n : Nat) (hn : pc + 3 = n) (hw : Cond.fieldLink M.2.1 idx (TX11 31).1 (TX11 31).2.1 (TX11 31).2.2.1 ∈ q_tb) (hok : q_ok 11 o = true) (K : qAW l G M X n lv (.ref (q_ad G 91 0) :: st) μ r) : qAW l G M X pc lv (.ref (q_ad G 11 o) :: st) μ r :=
  aw_get d n hn hw (T := TX11) (f := 31) (N := 66) in_X11 at_11 hok rfl rfl (by decide) rfl K
theorem gf_X11_32 {idx o : Nat} (d : decode M.2.2.2.1 pc = .ok (.getfield idx, 3)) (n : Nat) (hn : pc + 3 = n) (hw : Cond.fieldLink M.2.1 idx (TX11 32).1 (TX11 32).2.1 (TX11 32).2.2.1 ∈ q_tb) (hok : q_ok 11 o = true) (K : qAW l G M X n lv (.ref (q_ad G 92 0) :: st) μ r) : qAW l G M X pc lv (.ref (q_ad G 11 o) :: st) μ r :=
  aw_get d n hn hw (T := TX11) (f := 32) (N := 66) in_X11 at_11 hok rfl rfl (by decide) rfl K
theorem gf_X11_14 {idx o : Nat} (d : decode M.2.2.2.1 pc = .ok (.getfield idx, 3)) (n : Nat) (hn : pc + 3 = n) (hw : Cond.fieldLink M.2.1 idx (TX11 14).1 (TX11 14).2.1 (TX11 14).2.2.1 ∈ q_tb) (hok : q_ok 11 o = true) (K : qAW l G M X n lv (.ref (q_ad G 74 0) :: st) μ r) : qAW l G M X pc lv (.ref (q_ad G 11 o) :: st) μ r :=
  aw_get d n hn hw (T := TX11) (f := 14) (N := 66) in_X11 at_11 hok rfl rfl (by decide) rfl K
theorem gf_X11_36 {idx o : Nat} (d : decode M.2.2.2.1 pc = .ok (.getfield idx, 3)) (n : Nat) (hn : pc + 3 = n) (hw : Cond.fieldLink M.2.1 idx (TX11 36).1 (TX11 36).2.1 (TX11 36).2.2.1 ∈ q_tb) (hok : q_ok 11 o = true) (K : qAW l G M X n lv (.ref (q_ad G 96 0) :: st) μ r) : qAW l G M X pc lv (.ref (q_ad G 11 o) :: st) μ r :=
  aw_get d n hn hw (T := TX11) (f := 36) (N := 66) in_X11 at_11 hok rfl rfl (by decide) rfl K
theorem gf_X11_45 {idx o : Nat} (d : decode M.2.2.2.1 pc = .ok (.getfield idx, 3)) (n : Nat) (hn : pc + 3 = n) (hw : Cond.fieldLink M.2.1 idx (TX11 45).1 (TX11 45).2.1 (TX11 45).2.2.1 ∈ q_tb) (hok : q_ok 11 o = true) (K : qAW l G M X n lv (.ref (q_ad G 105 0) :: st) μ r) : qAW l G M X pc lv (.ref (q_ad G 11 o) :: st) μ r :=
  aw_get d n hn hw (T := TX11) (f := 45) (N := 66) in_X11 at_11 hok rfl rfl (by decide) rfl K
theorem gf_X11_48 {idx o : Nat} (d : decode M.2.2.2.1 pc = .ok (.getfield idx, 3)) (n : Nat) (hn : pc + 3 = n) (hw : Cond.fieldLink M.2.1 idx (TX11 48).1 (TX11 48).2.1 (TX11 48).2.2.1 ∈ q_tb) (hok : q_ok 11 o = true) (K : qAW l G M X n lv (.ref (q_ad G 108 0) :: st) μ r) : qAW l G M X pc lv (.ref (q_ad G 11 o) :: st) μ r :=
  aw_get d n hn hw (T := TX11) (f := 48) (N := 66) in_X11 at_11 hok rfl rfl (by decide) rfl K
theorem gf_X11_17 {idx o : Nat} (d : decode M.2.2.2.1 pc = .ok (.getfield idx, 3)) (n : Nat) (hn : pc + 3 = n) (hw : Cond.fieldLink M.2.1 idx (TX11 17).1 (TX11 17).2.1 (TX11 17).2.2.1 ∈ q_tb) (hok : q_ok 11 o = true) (K : qAW l G M X n lv (.ref (q_ad G 77 0) :: st) μ r) : qAW l G M X pc lv (.ref (q_ad G 11 o) :: st) μ r :=
  aw_get d n hn hw (T := TX11) (f := 17) (N := 66) in_X11 at_11 hok rfl rfl (by decide) rfl K
theorem gf_X11_18 {idx o : Nat} (d : decode M.2.2.2.1 pc = .ok (.getfield idx, 3)) (n : Nat) (hn : pc + 3 = n) (hw : Cond.fieldLink M.2.1 idx (TX11 18).1 (TX11 18).2.1 (TX11 18).2.2.1 ∈ q_tb) (hok : q_ok 11 o = true) (K : qAW l G M X n lv (.ref (q_ad G 78 0) :: st) μ r) : qAW l G M X pc lv (.ref (q_ad G 11 o) :: st) μ r :=
  aw_get d n hn hw (T := TX11) (f := 18) (N := 66) in_X11 at_11 hok rfl rfl (by decide) rfl K
theorem gf_X11_19 {idx o : Nat} (d : decode M.2.2.2.1 pc = .ok (.getfield idx, 3)) (n : Nat) (hn : pc + 3 = n) (hw : Cond.fieldLink M.2.1 idx (TX11 19).1 (TX11 19).2.1 (TX11 19).2.2.1 ∈ q_tb) (hok : q_ok 11 o = true) (K : qAW l G M X n lv (.ref (q_ad G 79 0) :: st) μ r) : qAW l G M X pc lv (.ref (q_ad G 11 o) :: st) μ r :=
  aw_get d n hn hw (T := TX11) (f := 19) (N := 66) in_X11 at_11 hok rfl rfl (by decide) rfl K
theorem gf_X11_20 {idx o : Nat} (d : decode M.2.2.2.1 pc = .ok (.getfield idx, 3)) (n : Nat) (hn : pc + 3 = n) (hw : Cond.fieldLink M.2.1 idx (TX11 20).1 (TX11 20).2.1 (TX11 20).2.2.1 ∈ q_tb) (hok : q_ok 11 o = true) (K : qAW l G M X n lv (.ref (q_ad G 80 0) :: st) μ r) : qAW l G M X pc lv (.ref (q_ad G 11 o) :: st) μ r :=
  aw_get d n hn hw (T := TX11) (f := 20) (N := 66) in_X11 at_11 hok rfl rfl (by decide) rfl K
theorem gf_X11_21 {idx o : Nat} (d : decode M.2.2.2.1 pc = .ok (.getfield idx, 3)) (n : Nat) (hn : pc + 3 = n) (hw : Cond.fieldLink M.2.1 idx (TX11 21).1 (TX11 21).2.1 (TX11 21).2.2.1 ∈ q_tb) (hok : q_ok 11 o = true) (K : qAW l G M X n lv (.ref (q_ad G 81 0) :: st) μ r) : qAW l G M X pc lv (.ref (q_ad G 11 o) :: st) μ r :=
  aw_get d n hn hw (T := TX11) (f := 21) (N := 66) in_X11 at_11 hok rfl rfl (by decide) rfl K
theorem gf_X11_22 {idx o : Nat} (d : decode M.2.2.2.1 pc = .ok (.getfield idx, 3)) (n : Nat) (hn : pc + 3 = n) (hw : Cond.fieldLink M.2.1 idx (TX11 22).1 (TX11 22).2.1 (TX11 22).2.2.1 ∈ q_tb) (hok : q_ok 11 o = true) (K : qAW l G M X n lv (.ref (q_ad G 82 0) :: st) μ r) : qAW l G M X pc lv (.ref (q_ad G 11 o) :: st) μ r :=
  aw_get d n hn hw (T := TX11) (f := 22) (N := 66) in_X11 at_11 hok rfl rfl (by decide) rfl K
theorem gf_X11_23 {idx o : Nat} (d : decode M.2.2.2.1 pc = .ok (.getfield idx, 3)) (n : Nat) (hn : pc + 3 = n) (hw : Cond.fieldLink M.2.1 idx (TX11 23).1 (TX11 23).2.1 (TX11 23).2.2.1 ∈ q_tb) (hok : q_ok 11 o = true) (K : qAW l G M X n lv (.ref (q_ad G 83 0) :: st) μ r) : qAW l G M X pc lv (.ref (q_ad G 11 o) :: st) μ r :=
  aw_get d n hn hw (T := TX11) (f := 23) (N := 66) in_X11 at_11 hok rfl rfl (by decide) rfl K
theorem gf_X11_24 {idx o : Nat} (d : decode M.2.2.2.1 pc = .ok (.getfield idx, 3)) (n : Nat) (hn : pc + 3 = n) (hw : Cond.fieldLink M.2.1 idx (TX11 24).1 (TX11 24).2.1 (TX11 24).2.2.1 ∈ q_tb) (hok : q_ok 11 o = true) (K : qAW l G M X n lv (.ref (q_ad G 84 0) :: st) μ r) : qAW l G M X pc lv (.ref (q_ad G 11 o) :: st) μ r :=
  aw_get d n hn hw (T := TX11) (f := 24) (N := 66) in_X11 at_11 hok rfl rfl (by decide) rfl K
theorem gf_X11_25 {idx o : Nat} (d : decode M.2.2.2.1 pc = .ok (.getfield idx, 3)) (n : Nat) (hn : pc + 3 = n) (hw : Cond.fieldLink M.2.1 idx (TX11 25).1 (TX11 25).2.1 (TX11 25).2.2.1 ∈ q_tb) (hok : q_ok 11 o = true) (K : qAW l G M X n lv (.ref (q_ad G 85 0) :: st) μ r) : qAW l G M X pc lv (.ref (q_ad G 11 o) :: st) μ r :=
  aw_get d n hn hw (T := TX11) (f := 25) (N := 66) in_X11 at_11 hok rfl rfl (by decide) rfl K
theorem gf_X11_26 {idx o : Nat} (d : decode M.2.2.2.1 pc = .ok (.getfield idx, 3)) (n : Nat) (hn : pc + 3 = n) (hw : Cond.fieldLink M.2.1 idx (TX11 26).1 (TX11 26).2.1 (TX11 26).2.2.1 ∈ q_tb) (hok : q_ok 11 o = true) (K : qAW l G M X n lv (.ref (q_ad G 86 0) :: st) μ r) : qAW l G M X pc lv (.ref (q_ad G 11 o) :: st) μ r :=
  aw_get d n hn hw (T := TX11) (f := 26) (N := 66) in_X11 at_11 hok rfl rfl (by decide) rfl K
theorem gf_X11_29 {idx o : Nat} (d : decode M.2.2.2.1 pc = .ok (.getfield idx, 3)) (n : Nat) (hn : pc + 3 = n) (hw : Cond.fieldLink M.2.1 idx (TX11 29).1 (TX11 29).2.1 (TX11 29).2.2.1 ∈ q_tb) (hok : q_ok 11 o = true) (K : qAW l G M X n lv (.ref (q_ad G 89 0) :: st) μ r) : qAW l G M X pc lv (.ref (q_ad G 11 o) :: st) μ r :=
  aw_get d n hn hw (T := TX11) (f := 29) (N := 66) in_X11 at_11 hok rfl rfl (by decide) rfl K
theorem gf_X11_39 {idx o : Nat} (d : decode M.2.2.2.1 pc = .ok (.getfield idx, 3)) (n : Nat) (hn : pc + 3 = n) (hw : Cond.fieldLink M.2.1 idx (TX11 39).1 (TX11 39).2.1 (TX11 39).2.2.1 ∈ q_tb) (hok : q_ok 11 o = true) (K : qAW l G M X n lv (.ref (q_ad G 99 0) :: st) μ r) : qAW l G M X pc lv (.ref (q_ad G 11 o) :: st) μ r :=
  aw_get d n hn hw (T := TX11) (f := 39) (N := 66) in_X11 at_11 hok rfl rfl (by decide) rfl K
theorem gf_X11_40 {idx o : Nat} (d : decode M.2.2.2.1 pc = .ok (.getfield idx, 3)) (n : Nat) (hn : pc + 3 = n) (hw : Cond.fieldLink M.2.1 idx (TX11 40).1 (TX11 40).2.1 (TX11 40).2.2.1 ∈ q_tb) (hok : q_ok 11 o = true) (K : qAW l G M X n lv (.ref (q_ad G 100 0) :: st) μ r) : qAW l G M X pc lv (.ref (q_ad G 11 o) :: st) μ r :=
  aw_get d n hn hw (T := TX11) (f := 40) (N := 66) in_X11 at_11 hok rfl rfl (by decide) rfl K
theorem gf_X11_33 {idx o : Nat} (d : decode M.2.2.2.1 pc = .ok (.getfield idx, 3)) (n : Nat) (hn : pc + 3 = n) (hw : Cond.fieldLink M.2.1 idx (TX11 33).1 (TX11 33).2.1 (TX11 33).2.2.1 ∈ q_tb) (hok : q_ok 11 o = true) (K : qAW l G M X n lv (.ref (q_ad G 93 0) :: st) μ r) : qAW l G M X pc lv (.ref (q_ad G 11 o) :: st) μ r :=
  aw_get d n hn hw (T := TX11) (f := 33) (N := 66) in_X11 at_11 hok rfl rfl (by decide) rfl K
theorem gf_X11_34 {idx o : Nat} (d : decode M.2.2.2.1 pc = .ok (.getfield idx, 3)) (n : Nat) (hn : pc + 3 = n) (hw : Cond.fieldLink M.2.1 idx (TX11 34).1 (TX11 34).2.1 (TX11 34).2.2.1 ∈ q_tb) (hok : q_ok 11 o = true) (K : qAW l G M X n lv (.ref (q_ad G 94 0) :: st) μ r) : qAW l G M X pc lv (.ref (q_ad G 11 o) :: st) μ r :=
  aw_get d n hn hw (T := TX11) (f := 34) (N := 66) in_X11 at_11 hok rfl rfl (by decide) rfl K
theorem gf_X11_35 {idx o : Nat} (d : decode M.2.2.2.1 pc = .ok (.getfield idx, 3)) (n : Nat) (hn : pc + 3 = n) (hw : Cond.fieldLink M.2.1 idx (TX11 35).1 (TX11 35).2.1 (TX11 35).2.2.1 ∈ q_tb) (hok : q_ok 11 o = true) (K : qAW l G M X n lv (.ref (q_ad G 95 0) :: st) μ r) : qAW l G M X pc lv (.ref (q_ad G 11 o) :: st) μ r :=
  aw_get d n hn hw (T := TX11) (f := 35) (N := 66) in_X11 at_11 hok rfl rfl (by decide) rfl K
theorem gf_X11_27 {idx o : Nat} (d : decode M.2.2.2.1 pc = .ok (.getfield idx, 3)) (n : Nat) (hn : pc + 3 = n) (hw : Cond.fieldLink M.2.1 idx (TX11 27).1 (TX11 27).2.1 (TX11 27).2.2.1 ∈ q_tb) (hok : q_ok 11 o = true) (K : qAW l G M X n lv (.ref (q_ad G 87 0) :: st) μ r) : qAW l G M X pc lv (.ref (q_ad G 11 o) :: st) μ r :=
  aw_get d n hn hw (T := TX11) (f := 27) (N := 66) in_X11 at_11 hok rfl rfl (by decide) rfl K
theorem gf_X11_28 {idx o : Nat} (d : decode M.2.2.2.1 pc = .ok (.getfield idx, 3)) (n : Nat) (hn : pc + 3 = n) (hw : Cond.fieldLink M.2.1 idx (TX11 28).1 (TX11 28).2.1 (TX11 28).2.2.1 ∈ q_tb) (hok : q_ok 11 o = true) (K : qAW l G M X n lv (.ref (q_ad G 88 0) :: st) μ r) : qAW l G M X pc lv (.ref (q_ad G 11 o) :: st) μ r :=
  aw_get d n hn hw (T := TX11) (f := 28) (N := 66) in_X11 at_11 hok rfl rfl (by decide) rfl K
theorem gf_X11_42 {idx o : Nat} (d : decode M.2.2.2.1 pc = .ok (.getfield idx, 3)) (n : Nat) (hn : pc + 3 = n) (hw : Cond.fieldLink M.2.1 idx (TX11 42).1 (TX11 42).2.1 (TX11 42).2.2.1 ∈ q_tb) (hok : q_ok 11 o = true) (K : qAW l G M X n lv (.ref (q_ad G 102 0) :: st) μ r) : qAW l G M X pc lv (.ref (q_ad G 11 o) :: st) μ r :=
  aw_get d n hn hw (T := TX11) (f := 42) (N := 66) in_X11 at_11 hok rfl rfl (by decide) rfl K
theorem gf_X11_41 {idx o : Nat} (d : decode M.2.2.2.1 pc = .ok (.getfield idx, 3)) (n : Nat) (hn : pc + 3 = n) (hw : Cond.fieldLink M.2.1 idx (TX11 41).1 (TX11 41).2.1 (TX11 41).2.2.1 ∈ q_tb) (hok : q_ok 11 o = true) (K : qAW l G M X n lv (.ref (q_ad G 101 0) :: st) μ r) : qAW l G M X pc lv (.ref (q_ad G 11 o) :: st) μ r :=
  aw_get d n hn hw (T := TX11) (f := 41) (N := 66) in_X11 at_11 hok rfl rfl (by decide) rfl K
theorem gf_X11_43 {idx o : Nat} (d : decode M.2.2.2.1 pc = .ok (.getfield idx, 3)) (n : Nat) (hn : pc + 3 = n) (hw : Cond.fieldLink M.2.1 idx (TX11 43).1 (TX11 43).2.1 (TX11 43).2.2.1 ∈ q_tb) (hok : q_ok 11 o = true) (K : qAW l G M X n lv (.ref (q_ad G 103 0) :: st) μ r) : qAW l G M X pc lv (.ref (q_ad G 11 o) :: st) μ r :=
  aw_get d n hn hw (T := TX11) (f := 43) (N := 66) in_X11 at_11 hok rfl rfl (by decide) rfl K
theorem gf_X11_44 {idx o : Nat} (d : decode M.2.2.2.1 pc = .ok (.getfield idx, 3)) (n : Nat) (hn : pc + 3 = n) (hw : Cond.fieldLink M.2.1 idx (TX11 44).1 (TX11 44).2.1 (TX11 44).2.2.1 ∈ q_tb) (hok : q_ok 11 o = true) (K : qAW l G M X n lv (.ref (q_ad G 104 0) :: st) μ r) : qAW l G M X pc lv (.ref (q_ad G 11 o) :: st) μ r :=
  aw_get d n hn hw (T := TX11) (f := 44) (N := 66) in_X11 at_11 hok rfl rfl (by decide) rfl K
theorem gf_X11_50 {idx o : Nat} (d : decode M.2.2.2.1 pc = .ok (.getfield idx, 3)) (n : Nat) (hn : pc + 3 = n) (hw : Cond.fieldLink M.2.1 idx (TX11 50).1 (TX11 50).2.1 (TX11 50).2.2.1 ∈ q_tb) (hok : q_ok 11 o = true) (K : qAW l G M X n lv (.ref (q_ad G 110 0) :: st) μ r) : qAW l G M X pc lv (.ref (q_ad G 11 o) :: st) μ r :=
  aw_get d n hn hw (T := TX11) (f := 50) (N := 66) in_X11 at_11 hok rfl rfl (by decide) rfl K
theorem gf_X11_51 {idx o : Nat} (d : decode M.2.2.2.1 pc = .ok (.getfield idx, 3)) (n : Nat) (hn : pc + 3 = n) (hw : Cond.fieldLink M.2.1 idx (TX11 51).1 (TX11 51).2.1 (TX11 51).2.2.1 ∈ q_tb) (hok : q_ok 11 o = true) (K : qAW l G M X n lv (.ref (q_ad G 111 0) :: st) μ r) : qAW l G M X pc lv (.ref (q_ad G 11 o) :: st) μ r :=
  aw_get d n hn hw (T := TX11) (f := 51) (N := 66) in_X11 at_11 hok rfl rfl (by decide) rfl K
theorem gf_X11_52 {idx o : Nat} (d : decode M.2.2.2.1 pc = .ok (.getfield idx, 3)) (n : Nat) (hn : pc + 3 = n) (hw : Cond.fieldLink M.2.1 idx (TX11 52).1 (TX11 52).2.1 (TX11 52).2.2.1 ∈ q_tb) (hok : q_ok 11 o = true) (K : qAW l G M X n lv (.ref (q_ad G 112 0) :: st) μ r) : qAW l G M X pc lv (.ref (q_ad G 11 o) :: st) μ r :=
  aw_get d n hn hw (T := TX11) (f := 52) (N := 66) in_X11 at_11 hok rfl rfl (by decide) rfl K
theorem gf_X11_46 {idx o : Nat} (d : decode M.2.2.2.1 pc = .ok (.getfield idx, 3)) (n : Nat) (hn : pc + 3 = n) (hw : Cond.fieldLink M.2.1 idx (TX11 46).1 (TX11 46).2.1 (TX11 46).2.2.1 ∈ q_tb) (hok : q_ok 11 o = true) (K : qAW l G M X n lv (.ref (q_ad G 106 0) :: st) μ r) : qAW l G M X pc lv (.ref (q_ad G 11 o) :: st) μ r :=
  aw_get d n hn hw (T := TX11) (f := 46) (N := 66) in_X11 at_11 hok rfl rfl (by decide) rfl K
theorem gf_X11_47 {idx o : Nat} (d : decode M.2.2.2.1 pc = .ok (.getfield idx, 3)) (n : Nat) (hn : pc + 3 = n) (hw : Cond.fieldLink M.2.1 idx (TX11 47).1 (TX11 47).2.1 (TX11 47).2.2.1 ∈ q_tb) (hok : q_ok 11 o = true) (K : qAW l G M X n lv (.ref (q_ad G 107 0) :: st) μ r) : qAW l G M X pc lv (.ref (q_ad G 11 o) :: st) μ r :=
  aw_get d n hn hw (T := TX11) (f := 47) (N := 66) in_X11 at_11 hok rfl rfl (by decide) rfl K
theorem gf_X11_49 {idx o : Nat} (d : decode M.2.2.2.1 pc = .ok (.getfield idx, 3)) (n : Nat) (hn : pc + 3 = n) (hw : Cond.fieldLink M.2.1 idx (TX11 49).1 (TX11 49).2.1 (TX11 49).2.2.1 ∈ q_tb) (hok : q_ok 11 o = true) (K : qAW l G M X n lv (.ref (q_ad G 109 0) :: st) μ r) : qAW l G M X pc lv (.ref (q_ad G 11 o) :: st) μ r :=
  aw_get d n hn hw (T := TX11) (f := 49) (N := 66) in_X11 at_11 hok rfl rfl (by decide) rfl K
theorem gf_X11_30 {idx o : Nat} (d : decode M.2.2.2.1 pc = .ok (.getfield idx, 3)) (n : Nat) (hn : pc + 3 = n) (hw : Cond.fieldLink M.2.1 idx (TX11 30).1 (TX11 30).2.1 (TX11 30).2.2.1 ∈ q_tb) (hok : q_ok 11 o = true) (K : qAW l G M X n lv (.ref (q_ad G 90 0) :: st) μ r) : qAW l G M X pc lv (.ref (q_ad G 11 o) :: st) μ r :=
  aw_get d n hn hw (T := TX11) (f := 30) (N := 66) in_X11 at_11 hok rfl rfl (by decide) rfl K
theorem pf_X11_53 {idx o : Nat} {x : Int32} (d : decode M.2.2.2.1 pc = .ok (.putfield idx, 3)) (n : Nat) (hn : pc + 3 = n) (hw : Cond.fieldLink M.2.1 idx (TX11 53).1 (TX11 53).2.1 (TX11 53).2.2.1 ∈ q_tb) (hok : q_ok 11 o = true) (K : qAW l G M X n lv st (q_si μ 11 o 53 x) r) : qAW l G M X pc lv (.int x :: .ref (q_ad G 11 o) :: st) μ r :=
  aw_put d n hn hw (T := TX11) (f := 53) (N := 66) (μ2 := q_si μ 11 o 53 x) in_X11 tyX11_ok nmX11 at_11 hok rfl rfl (by decide) (Nat.le_of_ble_eq_true rfl) rfl rfl rfl rfl (by simp [q_fl, q_si]) (fun a b _ h => q_rep_si a b h) K
theorem pf_X11_54 {idx o : Nat} {x : Int32} (d : decode M.2.2.2.1 pc = .ok (.putfield idx, 3)) (n : Nat) (hn : pc + 3 = n) (hw : Cond.fieldLink M.2.1 idx (TX11 54).1 (TX11 54).2.1 (TX11 54).2.2.1 ∈ q_tb) (hok : q_ok 11 o = true) (K : qAW l G M X n lv st (q_si μ 11 o 54 x) r) : qAW l G M X pc lv (.int x :: .ref (q_ad G 11 o) :: st) μ r :=
  aw_put d n hn hw (T := TX11) (f := 54) (N := 66) (μ2 := q_si μ 11 o 54 x) in_X11 tyX11_ok nmX11 at_11 hok rfl rfl (by decide) (Nat.le_of_ble_eq_true rfl) rfl rfl rfl rfl (by simp [q_fl, q_si]) (fun a b _ h => q_rep_si a b h) K
theorem gf_X11_53 {idx o : Nat} (d : decode M.2.2.2.1 pc = .ok (.getfield idx, 3)) (n : Nat) (hn : pc + 3 = n) (hw : Cond.fieldLink M.2.1 idx (TX11 53).1 (TX11 53).2.1 (TX11 53).2.2.1 ∈ q_tb) (hok : q_ok 11 o = true) (K : qAW l G M X n lv (.int (μ.1 11 o 53) :: st) μ r) : qAW l G M X pc lv (.ref (q_ad G 11 o) :: st) μ r :=
  aw_get d n hn hw (T := TX11) (f := 53) (N := 66) in_X11 at_11 hok rfl rfl (by decide) rfl K
theorem gf_X11_54 {idx o : Nat} (d : decode M.2.2.2.1 pc = .ok (.getfield idx, 3)) (n : Nat) (hn : pc + 3 = n) (hw : Cond.fieldLink M.2.1 idx (TX11 54).1 (TX11 54).2.1 (TX11 54).2.2.1 ∈ q_tb) (hok : q_ok 11 o = true) (K : qAW l G M X n lv (.int (μ.1 11 o 54) :: st) μ r) : qAW l G M X pc lv (.ref (q_ad G 11 o) :: st) μ r :=
  aw_get d n hn hw (T := TX11) (f := 54) (N := 66) in_X11 at_11 hok rfl rfl (by decide) rfl K
theorem pf_X11_55 {idx o : Nat} {x : Int32} (d : decode M.2.2.2.1 pc = .ok (.putfield idx, 3)) (n : Nat) (hn : pc + 3 = n) (hw : Cond.fieldLink M.2.1 idx (TX11 55).1 (TX11 55).2.1 (TX11 55).2.2.1 ∈ q_tb) (hok : q_ok 11 o = true) (hb : q_b x = true) (K : qAW l G M X n lv st (q_si μ 11 o 55 x) r) : qAW l G M X pc lv (.int x :: .ref (q_ad G 11 o) :: st) μ r :=
  aw_put d n hn hw (T := TX11) (f := 55) (N := 66) (μ2 := q_si μ 11 o 55 x) in_X11 tyX11_ok nmX11 at_11 hok rfl rfl (by decide) (Nat.le_of_ble_eq_true rfl) rfl rfl (q_nb hb).1 (q_nb hb).2 (by simp [q_fl, q_si]) (fun a b _ h => q_rep_si a b h) K
theorem pf_X11_56 {idx o : Nat} {x : Int32} (d : decode M.2.2.2.1 pc = .ok (.putfield idx, 3)) (n : Nat) (hn : pc + 3 = n) (hw : Cond.fieldLink M.2.1 idx (TX11 56).1 (TX11 56).2.1 (TX11 56).2.2.1 ∈ q_tb) (hok : q_ok 11 o = true) (K : qAW l G M X n lv st (q_si μ 11 o 56 x) r) : qAW l G M X pc lv (.int x :: .ref (q_ad G 11 o) :: st) μ r :=
  aw_put d n hn hw (T := TX11) (f := 56) (N := 66) (μ2 := q_si μ 11 o 56 x) in_X11 tyX11_ok nmX11 at_11 hok rfl rfl (by decide) (Nat.le_of_ble_eq_true rfl) rfl rfl rfl rfl (by simp [q_fl, q_si]) (fun a b _ h => q_rep_si a b h) K
theorem pf_X11_57 {idx o : Nat} {x : Int32} (d : decode M.2.2.2.1 pc = .ok (.putfield idx, 3)) (n : Nat) (hn : pc + 3 = n) (hw : Cond.fieldLink M.2.1 idx (TX11 57).1 (TX11 57).2.1 (TX11 57).2.2.1 ∈ q_tb) (hok : q_ok 11 o = true) (K : qAW l G M X n lv st (q_si μ 11 o 57 x) r) : qAW l G M X pc lv (.int x :: .ref (q_ad G 11 o) :: st) μ r :=
  aw_put d n hn hw (T := TX11) (f := 57) (N := 66) (μ2 := q_si μ 11 o 57 x) in_X11 tyX11_ok nmX11 at_11 hok rfl rfl (by decide) (Nat.le_of_ble_eq_true rfl) rfl rfl rfl rfl (by simp [q_fl, q_si]) (fun a b _ h => q_rep_si a b h) K
theorem pf_X11_3 {idx o : Nat} {x : Int64} (d : decode M.2.2.2.1 pc = .ok (.putfield idx, 3)) (n : Nat) (hn : pc + 3 = n) (hw : Cond.fieldLink M.2.1 idx (TX11 3).1 (TX11 3).2.1 (TX11 3).2.2.1 ∈ q_tb) (hok : q_ok 11 o = true) (K : qAW l G M X n lv st (q_sl μ 11 o 3 x) r) : qAW l G M X pc lv (.long x :: .ref (q_ad G 11 o) :: st) μ r :=
  aw_put d n hn hw (T := TX11) (f := 3) (N := 66) (μ2 := q_sl μ 11 o 3 x) in_X11 tyX11_ok nmX11 at_11 hok rfl rfl (by decide) (Nat.le_of_ble_eq_true rfl) rfl rfl rfl rfl (by simp [q_fl, q_sl]) (fun a b _ h => q_rep_sl a b h) K
theorem gf_X11_55 {idx o : Nat} (d : decode M.2.2.2.1 pc = .ok (.getfield idx, 3)) (n : Nat) (hn : pc + 3 = n) (hw : Cond.fieldLink M.2.1 idx (TX11 55).1 (TX11 55).2.1 (TX11 55).2.2.1 ∈ q_tb) (hok : q_ok 11 o = true) (K : qAW l G M X n lv (.int (μ.1 11 o 55) :: st) μ r) : qAW l G M X pc lv (.ref (q_ad G 11 o) :: st) μ r :=
  aw_get d n hn hw (T := TX11) (f := 55) (N := 66) in_X11 at_11 hok rfl rfl (by decide) rfl K
theorem gf_X11_56 {idx o : Nat} (d : decode M.2.2.2.1 pc = .ok (.getfield idx, 3)) (n : Nat) (hn : pc + 3 = n) (hw : Cond.fieldLink M.2.1 idx (TX11 56).1 (TX11 56).2.1 (TX11 56).2.2.1 ∈ q_tb) (hok : q_ok 11 o = true) (K : qAW l G M X n lv (.int (μ.1 11 o 56) :: st) μ r) : qAW l G M X pc lv (.ref (q_ad G 11 o) :: st) μ r :=
  aw_get d n hn hw (T := TX11) (f := 56) (N := 66) in_X11 at_11 hok rfl rfl (by decide) rfl K
theorem gf_X11_57 {idx o : Nat} (d : decode M.2.2.2.1 pc = .ok (.getfield idx, 3)) (n : Nat) (hn : pc + 3 = n) (hw : Cond.fieldLink M.2.1 idx (TX11 57).1 (TX11 57).2.1 (TX11 57).2.2.1 ∈ q_tb) (hok : q_ok 11 o = true) (K : qAW l G M X n lv (.int (μ.1 11 o 57) :: st) μ r) : qAW l G M X pc lv (.ref (q_ad G 11 o) :: st) μ r :=
  aw_get d n hn hw (T := TX11) (f := 57) (N := 66) in_X11 at_11 hok rfl rfl (by decide) rfl K
theorem gf_X11_38 {idx o : Nat} (d : decode M.2.2.2.1 pc = .ok (.getfield idx, 3)) (n : Nat) (hn : pc + 3 = n) (hw : Cond.fieldLink M.2.1 idx (TX11 38).1 (TX11 38).2.1 (TX11 38).2.2.1 ∈ q_tb) (hok : q_ok 11 o = true) (K : qAW l G M X n lv (.ref (q_ad G 98 0) :: st) μ r) : qAW l G M X pc lv (.ref (q_ad G 11 o) :: st) μ r :=
  aw_get d n hn hw (T := TX11) (f := 38) (N := 66) in_X11 at_11 hok rfl rfl (by decide) rfl K
theorem gf_X11_37 {idx o : Nat} (d : decode M.2.2.2.1 pc = .ok (.getfield idx, 3)) (n : Nat) (hn : pc + 3 = n) (hw : Cond.fieldLink M.2.1 idx (TX11 37).1 (TX11 37).2.1 (TX11 37).2.2.1 ∈ q_tb) (hok : q_ok 11 o = true) (K : qAW l G M X n lv (.ref (q_ad G 97 0) :: st) μ r) : qAW l G M X pc lv (.ref (q_ad G 11 o) :: st) μ r :=
  aw_get d n hn hw (T := TX11) (f := 37) (N := 66) in_X11 at_11 hok rfl rfl (by decide) rfl K
theorem gf_X11_58 {idx o : Nat} (d : decode M.2.2.2.1 pc = .ok (.getfield idx, 3)) (n : Nat) (hn : pc + 3 = n) (hw : Cond.fieldLink M.2.1 idx (TX11 58).1 (TX11 58).2.1 (TX11 58).2.2.1 ∈ q_tb) (hok : q_ok 11 o = true) (K : qAW l G M X n lv (.ref (q_ad G 118 0) :: st) μ r) : qAW l G M X pc lv (.ref (q_ad G 11 o) :: st) μ r :=
  aw_get d n hn hw (T := TX11) (f := 58) (N := 66) in_X11 at_11 hok rfl rfl (by decide) rfl K
theorem gf_X11_59 {idx o : Nat} (d : decode M.2.2.2.1 pc = .ok (.getfield idx, 3)) (n : Nat) (hn : pc + 3 = n) (hw : Cond.fieldLink M.2.1 idx (TX11 59).1 (TX11 59).2.1 (TX11 59).2.2.1 ∈ q_tb) (hok : q_ok 11 o = true) (K : qAW l G M X n lv (.ref (q_ad G 119 0) :: st) μ r) : qAW l G M X pc lv (.ref (q_ad G 11 o) :: st) μ r :=
  aw_get d n hn hw (T := TX11) (f := 59) (N := 66) in_X11 at_11 hok rfl rfl (by decide) rfl K
theorem pf_X11_60 {idx o : Nat} {x : Int32} (d : decode M.2.2.2.1 pc = .ok (.putfield idx, 3)) (n : Nat) (hn : pc + 3 = n) (hw : Cond.fieldLink M.2.1 idx (TX11 60).1 (TX11 60).2.1 (TX11 60).2.2.1 ∈ q_tb) (hok : q_ok 11 o = true) (hb : q_b x = true) (K : qAW l G M X n lv st (q_si μ 11 o 60 x) r) : qAW l G M X pc lv (.int x :: .ref (q_ad G 11 o) :: st) μ r :=
  aw_put d n hn hw (T := TX11) (f := 60) (N := 66) (μ2 := q_si μ 11 o 60 x) in_X11 tyX11_ok nmX11 at_11 hok rfl rfl (by decide) (Nat.le_of_ble_eq_true rfl) rfl rfl (q_nb hb).1 (q_nb hb).2 (by simp [q_fl, q_si]) (fun a b _ h => q_rep_si a b h) K
theorem gf_X11_60 {idx o : Nat} (d : decode M.2.2.2.1 pc = .ok (.getfield idx, 3)) (n : Nat) (hn : pc + 3 = n) (hw : Cond.fieldLink M.2.1 idx (TX11 60).1 (TX11 60).2.1 (TX11 60).2.2.1 ∈ q_tb) (hok : q_ok 11 o = true) (K : qAW l G M X n lv (.int (μ.1 11 o 60) :: st) μ r) : qAW l G M X pc lv (.ref (q_ad G 11 o) :: st) μ r :=
  aw_get d n hn hw (T := TX11) (f := 60) (N := 66) in_X11 at_11 hok rfl rfl (by decide) rfl K
theorem gf_X11_61 {idx o : Nat} (d : decode M.2.2.2.1 pc = .ok (.getfield idx, 3)) (n : Nat) (hn : pc + 3 = n) (hw : Cond.fieldLink M.2.1 idx (TX11 61).1 (TX11 61).2.1 (TX11 61).2.2.1 ∈ q_tb) (hok : q_ok 11 o = true) (K : qAW l G M X n lv (.int (μ.1 11 o 61) :: st) μ r) : qAW l G M X pc lv (.ref (q_ad G 11 o) :: st) μ r :=
  aw_get d n hn hw (T := TX11) (f := 61) (N := 66) in_X11 at_11 hok rfl rfl (by decide) rfl K
theorem gf_X11_62 {idx o : Nat} (d : decode M.2.2.2.1 pc = .ok (.getfield idx, 3)) (n : Nat) (hn : pc + 3 = n) (hw : Cond.fieldLink M.2.1 idx (TX11 62).1 (TX11 62).2.1 (TX11 62).2.2.1 ∈ q_tb) (hok : q_ok 11 o = true) (K : qAW l G M X n lv (.ref (q_ad G 122 0) :: st) μ r) : qAW l G M X pc lv (.ref (q_ad G 11 o) :: st) μ r :=
  aw_get d n hn hw (T := TX11) (f := 62) (N := 66) in_X11 at_11 hok rfl rfl (by decide) rfl K
theorem gf_X11_64 {idx o : Nat} (d : decode M.2.2.2.1 pc = .ok (.getfield idx, 3)) (n : Nat) (hn : pc + 3 = n) (hw : Cond.fieldLink M.2.1 idx (TX11 64).1 (TX11 64).2.1 (TX11 64).2.2.1 ∈ q_tb) (hok : q_ok 11 o = true) (K : qAW l G M X n lv (.ref (q_ad G 124 0) :: st) μ r) : qAW l G M X pc lv (.ref (q_ad G 11 o) :: st) μ r :=
  aw_get d n hn hw (T := TX11) (f := 64) (N := 66) in_X11 at_11 hok rfl rfl (by decide) rfl K
theorem gf_X11_63 {idx o : Nat} (d : decode M.2.2.2.1 pc = .ok (.getfield idx, 3)) (n : Nat) (hn : pc + 3 = n) (hw : Cond.fieldLink M.2.1 idx (TX11 63).1 (TX11 63).2.1 (TX11 63).2.2.1 ∈ q_tb) (hok : q_ok 11 o = true) (K : qAW l G M X n lv (.ref (q_ad G 123 0) :: st) μ r) : qAW l G M X pc lv (.ref (q_ad G 11 o) :: st) μ r :=
  aw_get d n hn hw (T := TX11) (f := 63) (N := 66) in_X11 at_11 hok rfl rfl (by decide) rfl K
theorem pf_X11_61 {idx o : Nat} {x : Int32} (d : decode M.2.2.2.1 pc = .ok (.putfield idx, 3)) (n : Nat) (hn : pc + 3 = n) (hw : Cond.fieldLink M.2.1 idx (TX11 61).1 (TX11 61).2.1 (TX11 61).2.2.1 ∈ q_tb) (hok : q_ok 11 o = true) (K : qAW l G M X n lv st (q_si μ 11 o 61 x) r) : qAW l G M X pc lv (.int x :: .ref (q_ad G 11 o) :: st) μ r :=
  aw_put d n hn hw (T := TX11) (f := 61) (N := 66) (μ2 := q_si μ 11 o 61 x) in_X11 tyX11_ok nmX11 at_11 hok rfl rfl (by decide) (Nat.le_of_ble_eq_true rfl) rfl rfl rfl rfl (by simp [q_fl, q_si]) (fun a b _ h => q_rep_si a b h) K
theorem gf_X11_2 {idx o : Nat} (d : decode M.2.2.2.1 pc = .ok (.getfield idx, 3)) (n : Nat) (hn : pc + 3 = n) (hw : Cond.fieldLink M.2.1 idx (TX11 2).1 (TX11 2).2.1 (TX11 2).2.2.1 ∈ q_tb) (hok : q_ok 11 o = true) (K : qAW l G M X n lv (.int (μ.1 11 o 2) :: st) μ r) : qAW l G M X pc lv (.ref (q_ad G 11 o) :: st) μ r :=
  aw_get d n hn hw (T := TX11) (f := 2) (N := 66) in_X11 at_11 hok rfl rfl (by decide) rfl K
theorem gf_X11_3 {idx o : Nat} (d : decode M.2.2.2.1 pc = .ok (.getfield idx, 3)) (n : Nat) (hn : pc + 3 = n) (hw : Cond.fieldLink M.2.1 idx (TX11 3).1 (TX11 3).2.1 (TX11 3).2.2.1 ∈ q_tb) (hok : q_ok 11 o = true) (K : qAW l G M X n lv (.long (μ.2.1 11 o 3) :: st) μ r) : qAW l G M X pc lv (.ref (q_ad G 11 o) :: st) μ r :=
  aw_get d n hn hw (T := TX11) (f := 3) (N := 66) in_X11 at_11 hok rfl rfl (by decide) rfl K
theorem gf_X11_4 {idx o : Nat} (d : decode M.2.2.2.1 pc = .ok (.getfield idx, 3)) (n : Nat) (hn : pc + 3 = n) (hw : Cond.fieldLink M.2.1 idx (TX11 4).1 (TX11 4).2.1 (TX11 4).2.2.1 ∈ q_tb) (hok : q_ok 11 o = true) (K : qAW l G M X n lv (.long (μ.2.1 11 o 4) :: st) μ r) : qAW l G M X pc lv (.ref (q_ad G 11 o) :: st) μ r :=
  aw_get d n hn hw (T := TX11) (f := 4) (N := 66) in_X11 at_11 hok rfl rfl (by decide) rfl K
theorem gf_X11_5 {idx o : Nat} (d : decode M.2.2.2.1 pc = .ok (.getfield idx, 3)) (n : Nat) (hn : pc + 3 = n) (hw : Cond.fieldLink M.2.1 idx (TX11 5).1 (TX11 5).2.1 (TX11 5).2.2.1 ∈ q_tb) (hok : q_ok 11 o = true) (K : qAW l G M X n lv (.long (μ.2.1 11 o 5) :: st) μ r) : qAW l G M X pc lv (.ref (q_ad G 11 o) :: st) μ r :=
  aw_get d n hn hw (T := TX11) (f := 5) (N := 66) in_X11 at_11 hok rfl rfl (by decide) rfl K
theorem gf_X11_0 {idx o : Nat} (d : decode M.2.2.2.1 pc = .ok (.getfield idx, 3)) (n : Nat) (hn : pc + 3 = n) (hw : Cond.fieldLink M.2.1 idx (TX11 0).1 (TX11 0).2.1 (TX11 0).2.2.1 ∈ q_tb) (hok : q_ok 11 o = true) (K : qAW l G M X n lv (.int (μ.1 11 o 0) :: st) μ r) : qAW l G M X pc lv (.ref (q_ad G 11 o) :: st) μ r :=
  aw_get d n hn hw (T := TX11) (f := 0) (N := 66) in_X11 at_11 hok rfl rfl (by decide) rfl K
theorem gf_X11_65 {idx o : Nat} (d : decode M.2.2.2.1 pc = .ok (.getfield idx, 3)) (n : Nat) (hn : pc + 3 = n) (hw : Cond.fieldLink M.2.1 idx (TX11 65).1 (TX11 65).2.1 (TX11 65).2.2.1 ∈ q_tb) (hok : q_ok 11 o = true) (K : qAW l G M X n lv (.long (μ.2.1 11 o 65) :: st) μ r) : qAW l G M X pc lv (.ref (q_ad G 11 o) :: st) μ r :=
  aw_get d n hn hw (T := TX11) (f := 65) (N := 66) in_X11 at_11 hok rfl rfl (by decide) rfl K
theorem pf_X11_65 {idx o : Nat} {x : Int64} (d : decode M.2.2.2.1 pc = .ok (.putfield idx, 3)) (n : Nat) (hn : pc + 3 = n) (hw : Cond.fieldLink M.2.1 idx (TX11 65).1 (TX11 65).2.1 (TX11 65).2.2.1 ∈ q_tb) (hok : q_ok 11 o = true) (K : qAW l G M X n lv st (q_sl μ 11 o 65 x) r) : qAW l G M X pc lv (.long x :: .ref (q_ad G 11 o) :: st) μ r :=
  aw_put d n hn hw (T := TX11) (f := 65) (N := 66) (μ2 := q_sl μ 11 o 65 x) in_X11 tyX11_ok nmX11 at_11 hok rfl rfl (by decide) (Nat.le_of_ble_eq_true rfl) rfl rfl rfl rfl (by simp [q_fl, q_sl]) (fun a b _ h => q_rep_sl a b h) K
end FR
