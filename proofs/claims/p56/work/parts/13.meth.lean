def m_X3_reset : qMd := ({ frames := 0, cells := 0, slots := 0, locals := 0 }, RX3, yX3_reset, cX3_reset, 1, none)
def m_X0_reset : qMd := ({ frames := 1, cells := 0, slots := 0, locals := 20 }, RX0, yX0_reset, cX0_reset, 5, none)
def m_X3_takeOver : qMd := ({ frames := 0, cells := 0, slots := 0, locals := 0 }, RX3, yX3_takeOver, cX3_takeOver, 2, none)
def m_X5_takeOver : qMd := ({ frames := 0, cells := 0, slots := 0, locals := 0 }, RX5, yX5_takeOver, cX5_takeOver, 3, none)
def m_X0_takeOver : qMd := ({ frames := 1, cells := 0, slots := 0, locals := 40 }, RX0, yX0_takeOver, cX0_takeOver, 3, none)
def m_X0_cells : qMd := ({ frames := 0, cells := 0, slots := 0, locals := 0 }, RX0, yX0_cells, cX0_cells, 1, some .int)
def m_X0_hasCell : qMd := ({ frames := 0, cells := 0, slots := 0, locals := 0 }, RX0, yX0_hasCell, cX0_hasCell, 2, some .boolean)
def m_X0_hasSide : qMd := ({ frames := 0, cells := 0, slots := 0, locals := 0 }, RX0, yX0_hasSide, cX0_hasSide, 3, some .boolean)
def m_X0_farCell : qMd := ({ frames := 0, cells := 0, slots := 0, locals := 0 }, RX0, yX0_farCell, cX0_farCell, 2, some .int)
def m_X0_level : qMd := ({ frames := 0, cells := 0, slots := 0, locals := 0 }, RX0, yX0_level, cX0_level, 2, some .int)
def m_X0_isTidal : qMd := ({ frames := 0, cells := 0, slots := 0, locals := 0 }, RX0, yX0_isTidal, cX0_isTidal, 1, some .boolean)
def m_X0_isOf : qMd := ({ frames := 1, cells := 0, slots := 0, locals := 20 }, RX0, yX0_isOf, cX0_isOf, 2, some .boolean)
def m_X7_isNumber : qMd := ({ frames := 0, cells := 0, slots := 0, locals := 0 }, RX7, yX7_isNumber, cX7_isNumber, 2, some .boolean)
def m_X0_hasTide : qMd := ({ frames := 1, cells := 0, slots := 0, locals := 21 }, RX0, yX0_hasTide, cX0_hasTide, 2, some .boolean)
def m_J9_floorMod_7cf53 : qMd := ({ frames := 0, cells := 0, slots := 0, locals := 0 }, RJ9, yJ9_floorMod_7cf53, cJ9_floorMod_7cf53, 3, some .int)
def m_X0_tideLevel : qMd := ({ frames := 1, cells := 0, slots := 0, locals := 22 }, RX0, yX0_tideLevel, cX0_tideLevel, 3, some .int)
def m_X0_windAt : qMd := ({ frames := 0, cells := 0, slots := 0, locals := 0 }, RX0, yX0_windAt, cX0_windAt, 2, some .int)
def m_X0_dryCells : qMd := ({ frames := 1, cells := 0, slots := 0, locals := 20 }, RX0, yX0_dryCells, cX0_dryCells, 3, some .int)
def m_X0_sum : qMd := ({ frames := 1, cells := 0, slots := 0, locals := 20 }, RX0, yX0_sum, cX0_sum, 5, some .int)
def m_X0_tells : qMd := ({ frames := 2, cells := 0, slots := 0, locals := 44 }, RX0, yX0_tells, cX0_tells, 2, some .int)
def m_X0_allRests : qMd := ({ frames := 1, cells := 0, slots := 0, locals := 20 }, RX0, yX0_allRests, cX0_allRests, 3, some .int)
def m_X0_opposite : qMd := ({ frames := 0, cells := 0, slots := 0, locals := 0 }, RX0, yX0_opposite, cX0_opposite, 3, some .int)
def m_X0_swap : qMd := ({ frames := 0, cells := 0, slots := 0, locals := 0 }, RX0, yX0_swap, cX0_swap, 4, none)
def m_X0_swapShut : qMd := ({ frames := 0, cells := 0, slots := 0, locals := 0 }, RX0, yX0_swapShut, cX0_swapShut, 4, none)
def m_X0_swapCells : qMd := ({ frames := 1, cells := 0, slots := 0, locals := 23 }, RX0, yX0_swapCells, cX0_swapCells, 4, none)
def m_X0_swapRightSides : qMd := ({ frames := 1, cells := 0, slots := 0, locals := 23 }, RX0, yX0_swapRightSides, cX0_swapRightSides, 3, none)
def m_X0_turn : qMd := ({ frames := 2, cells := 0, slots := 0, locals := 46 }, RX0, yX0_turn, cX0_turn, 4, none)
def m_X0_underCell : qMd := ({ frames := 0, cells := 0, slots := 0, locals := 0 }, RX0, yX0_underCell, cX0_underCell, 4, some .int)
def m_X0_fineCell : qMd := ({ frames := 0, cells := 0, slots := 0, locals := 0 }, RX0, yX0_fineCell, cX0_fineCell, 6, some .int)
def m_X0_layOn : qMd := ({ frames := 1, cells := 0, slots := 0, locals := 25 }, RX0, yX0_layOn, cX0_layOn, 6, none)
def m_J9_floorDiv_7cf53 : qMd := ({ frames := 0, cells := 0, slots := 0, locals := 0 }, RJ9, yJ9_floorDiv_7cf53, cJ9_floorDiv_7cf53, 3, some .int)
def m_X0_giveUp : qMd := ({ frames := 1, cells := 0, slots := 0, locals := 40 }, RX0, yX0_giveUp, cX0_giveUp, 7, some .int)
def m_X0_unfilled : qMd := ({ frames := 1, cells := 0, slots := 0, locals := 40 }, RX0, yX0_unfilled, cX0_unfilled, 7, some .int)
def m_X0_takeDown : qMd := ({ frames := 2, cells := 0, slots := 0, locals := 66 }, RX0, yX0_takeDown, cX0_takeDown, 8, some .int)
def m_X1_drift : qMd := ({ frames := 1, cells := 0, slots := 0, locals := 22 }, RX1, yX1_drift, cX1_drift, 7, none)
def m_X2_fromOldest : qMd := ({ frames := 0, cells := 0, slots := 0, locals := 0 }, RX2, yX2_fromOldest, cX2_fromOldest, 2, some .int)
def m_X2_read : qMd := ({ frames := 1, cells := 0, slots := 0, locals := 21 }, RX2, yX2_read, cX2_read, 3, none)
def m_X7_isThere : qMd := ({ frames := 0, cells := 0, slots := 0, locals := 0 }, RX7, yX7_isThere, cX7_isThere, 2, some .boolean)
def m_X7_hasPlace : qMd := ({ frames := 0, cells := 0, slots := 0, locals := 0 }, RX7, yX7_hasPlace, cX7_hasPlace, 3, some .boolean)
def m_X7_make : qMd := ({ frames := 0, cells := 0, slots := 0, locals := 0 }, RX7, yX7_make, cX7_make, 5, none)
def m_X8_addRivers : qMd := ({ frames := 0, cells := 0, slots := 0, locals := 0 }, RX8, yX8_addRivers, cX8_addRivers, 4, some .int)
def m_X8_share : qMd := ({ frames := 0, cells := 0, slots := 0, locals := 0 }, RX8, yX8_share, cX8_share, 3, some .int)
def m_X8_source : qMd := ({ frames := 1, cells := 0, slots := 0, locals := 21 }, RX8, yX8_source, cX8_source, 3, some .int)
def m_X8_carryStuff : qMd := ({ frames := 2, cells := 0, slots := 0, locals := 43 }, RX8, yX8_carryStuff, cX8_carryStuff, 7, none)
def m_X8_leadRim : qMd := ({ frames := 1, cells := 0, slots := 0, locals := 40 }, RX8, yX8_leadRim, cX8_leadRim, 5, none)
def m_X8_limitFlows : qMd := ({ frames := 2, cells := 0, slots := 0, locals := 43 }, RX8, yX8_limitFlows, cX8_limitFlows, 4, none)
def m_X8_moveWater : qMd := ({ frames := 1, cells := 0, slots := 0, locals := 40 }, RX8, yX8_moveWater, cX8_moveWater, 3, none)
def m_X8_pushed : qMd := ({ frames := 1, cells := 0, slots := 0, locals := 21 }, RX8, yX8_pushed, cX8_pushed, 8, some .int)
def m_X8_pushFlows : qMd := ({ frames := 2, cells := 0, slots := 0, locals := 48 }, RX8, yX8_pushFlows, cX8_pushFlows, 3, none)
def m_X8_tooMuch : qMd := ({ frames := 1, cells := 0, slots := 0, locals := 20 }, RX8, yX8_tooMuch, cX8_tooMuch, 3, some .boolean)
def m_X8_advance : qMd := ({ frames := 3, cells := 0, slots := 0, locals := 70 }, RX8, yX8_advance, cX8_advance, 5, some .boolean)
def m_X10_found : qMd := ({ frames := 0, cells := 0, slots := 0, locals := 0 }, RX10, yX10_found, cX10_found, 2, some .int)
def m_X10_row : qMd := ({ frames := 1, cells := 0, slots := 0, locals := 24 }, RX10, yX10_row, cX10_row, 3, some .int)
def m_X10_within : qMd := ({ frames := 0, cells := 0, slots := 0, locals := 0 }, RX10, yX10_within, cX10_within, 3, some .boolean)
def m_X10_lay : qMd := ({ frames := 1, cells := 0, slots := 0, locals := 22 }, RX10, yX10_lay, cX10_lay, 4, some .int)
def m_X10_isBoard : qMd := ({ frames := 0, cells := 0, slots := 0, locals := 0 }, RX10, yX10_isBoard, cX10_isBoard, 1, some .boolean)
def m_X10_hasGround : qMd := ({ frames := 1, cells := 0, slots := 0, locals := 20 }, RX10, yX10_hasGround, cX10_hasGround, 3, some .boolean)
def m_X10_removeBoard : qMd := ({ frames := 0, cells := 0, slots := 0, locals := 0 }, RX10, yX10_removeBoard, cX10_removeBoard, 3, none)
def m_X10_clear : qMd := ({ frames := 2, cells := 0, slots := 0, locals := 42 }, RX10, yX10_clear, cX10_clear, 4, none)
def m_X10_board : qMd := ({ frames := 3, cells := 0, slots := 0, locals := 65 }, RX10, yX10_board, cX10_board, 5, some .int)
def m_X10_boardRefused : qMd := ({ frames := 1, cells := 0, slots := 0, locals := 21 }, RX10, yX10_boardRefused, cX10_boardRefused, 3, some .int)
def m_X10_cellRefused : qMd := ({ frames := 2, cells := 0, slots := 0, locals := 43 }, RX10, yX10_cellRefused, cX10_cellRefused, 5, some .int)
def m_X10_bottom : qMd := ({ frames := 3, cells := 0, slots := 0, locals := 67 }, RX10, yX10_bottom, cX10_bottom, 5, some .int)
def m_X10_water : qMd := ({ frames := 3, cells := 0, slots := 0, locals := 67 }, RX10, yX10_water, cX10_water, 6, some .int)
def m_X10_spill : qMd := ({ frames := 3, cells := 0, slots := 0, locals := 67 }, RX10, yX10_spill, cX10_spill, 8, some .int)
def m_X10_cell : qMd := ({ frames := 3, cells := 0, slots := 0, locals := 67 }, RX10, yX10_cell, cX10_cell, 6, some .int)
def m_X10_sideRefused : qMd := ({ frames := 2, cells := 0, slots := 0, locals := 43 }, RX10, yX10_sideRefused, cX10_sideRefused, 4, some .int)
def m_X10_flow : qMd := ({ frames := 3, cells := 0, slots := 0, locals := 66 }, RX10, yX10_flow, cX10_flow, 4, some .int)
def m_X10_gate : qMd := ({ frames := 3, cells := 0, slots := 0, locals := 66 }, RX10, yX10_gate, cX10_gate, 6, some .int)
def m_X10_law : qMd := ({ frames := 2, cells := 0, slots := 0, locals := 43 }, RX10, yX10_law, cX10_law, 5, some .int)
def m_X10_wind : qMd := ({ frames := 2, cells := 0, slots := 0, locals := 43 }, RX10, yX10_wind, cX10_wind, 5, some .int)
def m_X10_river : qMd := ({ frames := 2, cells := 0, slots := 0, locals := 43 }, RX10, yX10_river, cX10_river, 6, some .int)
def m_X10_tide : qMd := ({ frames := 2, cells := 0, slots := 0, locals := 43 }, RX10, yX10_tide, cX10_tide, 5, some .int)
def m_X10_stepWhole : qMd := ({ frames := 4, cells := 0, slots := 0, locals := 94 }, RX10, yX10_stepWhole, cX10_stepWhole, 4, some .boolean)
def m_X10_step : qMd := ({ frames := 5, cells := 0, slots := 0, locals := 117 }, RX10, yX10_step, cX10_step, 5, some .int)
def m_X10_told : qMd := ({ frames := 3, cells := 0, slots := 0, locals := 65 }, RX10, yX10_told, cX10_told, 4, some .int)
def m_X10_mark : qMd := ({ frames := 2, cells := 0, slots := 0, locals := 44 }, RX10, yX10_mark, cX10_mark, 5, some .int)
def m_X10_liesIn : qMd := ({ frames := 1, cells := 0, slots := 0, locals := 20 }, RX10, yX10_liesIn, cX10_liesIn, 5, some .boolean)
def m_X10_keep : qMd := ({ frames := 3, cells := 0, slots := 0, locals := 65 }, RX10, yX10_keep, cX10_keep, 4, some .int)
def m_X10_bearsNest : qMd := ({ frames := 0, cells := 0, slots := 0, locals := 0 }, RX10, yX10_bearsNest, cX10_bearsNest, 3, some .boolean)
def m_X10_mirror : qMd := ({ frames := 3, cells := 0, slots := 0, locals := 69 }, RX10, yX10_mirror, cX10_mirror, 5, some .int)
def m_X10_nest : qMd := ({ frames := 3, cells := 0, slots := 0, locals := 65 }, RX10, yX10_nest, cX10_nest, 9, some .int)
def m_X10_nestRefused : qMd := ({ frames := 2, cells := 0, slots := 0, locals := 43 }, RX10, yX10_nestRefused, cX10_nestRefused, 3, some .int)
def m_X10_up : qMd := ({ frames := 3, cells := 0, slots := 0, locals := 66 }, RX10, yX10_up, cX10_up, 3, some .int)
def m_X10_down : qMd := ({ frames := 3, cells := 0, slots := 0, locals := 93 }, RX10, yX10_down, cX10_down, 3, some .int)
def m_X10_asked : qMd := ({ frames := 0, cells := 0, slots := 0, locals := 0 }, RX10, yX10_asked, cX10_asked, 1, some .int)
def m_L_low : qMd := ({ frames := 0, cells := 0, slots := 0, locals := 0 }, RL, yL_low, cL_low, 2, some .int)
def m_L_cell : qMd := ({ frames := 0, cells := 0, slots := 0, locals := 0 }, RL, yL_cell, cL_cell, 2, some .int)
def m_L_sea : qMd := ({ frames := 4, cells := 0, slots := 0, locals := 94 }, RL, yL_sea, cL_sea, 8, some .boolean)
def m_L_told : qMd := ({ frames := 4, cells := 0, slots := 0, locals := 88 }, RL, yL_told, cL_told, 3, some .int)
def m_L_at : qMd := ({ frames := 4, cells := 0, slots := 0, locals := 92 }, RL, yL_at, cL_at, 4, some .int)
theorem wv_X3_reset : q_Wv m_X3_reset := ⟨wd_148, wd_149, wd_150, wd_151⟩
theorem pk_X3_reset : q_Pk m_X3_reset 0 := ⟨rfl, rfl, rfl, plainFor_of_name (by decide +kernel), by decide +kernel, by decide +kernel, by decide +kernel⟩
theorem wv_X0_reset : q_Wv m_X0_reset := ⟨wd_152, wd_153, wd_154, wd_155⟩
theorem pk_X0_reset : q_Pk m_X0_reset 3 := ⟨rfl, rfl, rfl, plainFor_of_name (by decide +kernel), by decide +kernel, by decide +kernel, by decide +kernel⟩
theorem wv_X3_takeOver : q_Wv m_X3_takeOver := ⟨wd_156, wd_149, wd_157, wd_158⟩
theorem pk_X3_takeOver : q_Pk m_X3_takeOver 1 := ⟨rfl, rfl, rfl, plainFor_of_name (by decide +kernel), by decide +kernel, by decide +kernel, by decide +kernel⟩
theorem wv_X5_takeOver : q_Wv m_X5_takeOver := ⟨wd_159, wd_160, wd_161, wd_162⟩
theorem pk_X5_takeOver : q_Pk m_X5_takeOver 1 := ⟨rfl, rfl, rfl, plainFor_of_name (by decide +kernel), by decide +kernel, by decide +kernel, by decide +kernel⟩
theorem wv_X0_takeOver : q_Wv m_X0_takeOver := ⟨wd_163, wd_153, wd_164, wd_165⟩
theorem pk_X0_takeOver : q_Pk m_X0_takeOver 1 := ⟨rfl, rfl, rfl, plainFor_of_name (by decide +kernel), by decide +kernel, by decide +kernel, by decide +kernel⟩
theorem wv_X0_cells : q_Wv m_X0_cells := ⟨wd_166, wd_153, wd_167, wd_168⟩
theorem pk_X0_cells : q_Pk m_X0_cells 0 := ⟨rfl, rfl, rfl, plainFor_of_name (by decide +kernel), by decide +kernel, by decide +kernel, by decide +kernel⟩
theorem wv_X0_hasCell : q_Wv m_X0_hasCell := ⟨wd_169, wd_153, wd_170, wd_171⟩
theorem pk_X0_hasCell : q_Pk m_X0_hasCell 1 := ⟨rfl, rfl, rfl, plainFor_of_name (by decide +kernel), by decide +kernel, by decide +kernel, by decide +kernel⟩
theorem wv_X0_hasSide : q_Wv m_X0_hasSide := ⟨wd_172, wd_153, wd_173, wd_174⟩
theorem pk_X0_hasSide : q_Pk m_X0_hasSide 1 := ⟨rfl, rfl, rfl, plainFor_of_name (by decide +kernel), by decide +kernel, by decide +kernel, by decide +kernel⟩
theorem wv_X0_farCell : q_Wv m_X0_farCell := ⟨wd_175, wd_153, wd_176, wd_177⟩
theorem pk_X0_farCell : q_Pk m_X0_farCell 1 := ⟨rfl, rfl, rfl, plainFor_of_name (by decide +kernel), by decide +kernel, by decide +kernel, by decide +kernel⟩
theorem wv_X0_level : q_Wv m_X0_level := ⟨wd_178, wd_153, wd_179, wd_180⟩
theorem pk_X0_level : q_Pk m_X0_level 1 := ⟨rfl, rfl, rfl, plainFor_of_name (by decide +kernel), by decide +kernel, by decide +kernel, by decide +kernel⟩
theorem wv_X0_isTidal : q_Wv m_X0_isTidal := ⟨wd_181, wd_153, wd_182, wd_183⟩
theorem pk_X0_isTidal : q_Pk m_X0_isTidal 0 := ⟨rfl, rfl, rfl, plainFor_of_name (by decide +kernel), by decide +kernel, by decide +kernel, by decide +kernel⟩
theorem wv_X0_isOf : q_Wv m_X0_isOf := ⟨wd_184, wd_153, wd_185, wd_186⟩
theorem pk_X0_isOf : q_Pk m_X0_isOf 1 := ⟨rfl, rfl, rfl, plainFor_of_name (by decide +kernel), by decide +kernel, by decide +kernel, by decide +kernel⟩
theorem wv_X7_isNumber : q_Wv m_X7_isNumber := ⟨wd_187, wd_188, wd_189, wd_190⟩
theorem pk_X7_isNumber : q_Pk m_X7_isNumber 1 := ⟨rfl, rfl, rfl, plainFor_of_name (by decide +kernel), by decide +kernel, by decide +kernel, by decide +kernel⟩
theorem wv_X0_hasTide : q_Wv m_X0_hasTide := ⟨wd_191, wd_153, wd_192, wd_193⟩
theorem pk_X0_hasTide : q_Pk m_X0_hasTide 1 := ⟨rfl, rfl, rfl, plainFor_of_name (by decide +kernel), by decide +kernel, by decide +kernel, by decide +kernel⟩
theorem wv_J9_floorMod_7cf53 : q_Wst m_J9_floorMod_7cf53 := ⟨wd_194, wd_52, wd_195⟩
theorem pk_J9_floorMod_7cf53 : q_Pk m_J9_floorMod_7cf53 2 := ⟨rfl, rfl, rfl, by decide +kernel, by decide +kernel, by decide +kernel, by decide +kernel⟩
theorem wv_X0_tideLevel : q_Wv m_X0_tideLevel := ⟨wd_196, wd_153, wd_197, wd_198⟩
theorem pk_X0_tideLevel : q_Pk m_X0_tideLevel 1 := ⟨rfl, rfl, rfl, plainFor_of_name (by decide +kernel), by decide +kernel, by decide +kernel, by decide +kernel⟩
theorem wv_X0_windAt : q_Wv m_X0_windAt := ⟨wd_199, wd_153, wd_200, wd_201⟩
theorem pk_X0_windAt : q_Pk m_X0_windAt 1 := ⟨rfl, rfl, rfl, plainFor_of_name (by decide +kernel), by decide +kernel, by decide +kernel, by decide +kernel⟩
theorem wv_X0_dryCells : q_Wv m_X0_dryCells := ⟨wd_202, wd_153, wd_203, wd_204⟩
theorem pk_X0_dryCells : q_Pk m_X0_dryCells 0 := ⟨rfl, rfl, rfl, plainFor_of_name (by decide +kernel), by decide +kernel, by decide +kernel, by decide +kernel⟩
theorem ws_X0_sum : Cond.selects RX0 yX0_sum yX0_sum ∈ q_tb := q_tb_of (q_tp 24 (by decide +kernel)) rfl
theorem wv_X0_sum : q_Wv m_X0_sum := ⟨wd_205, wd_153, wd_206, ws_X0_sum⟩
theorem pk_X0_sum : q_Pk m_X0_sum 2 := ⟨rfl, rfl, rfl, plainFor_of_name (by decide +kernel), by decide +kernel, by decide +kernel, by decide +kernel⟩
theorem wv_X0_tells : q_Wv m_X0_tells := ⟨wd_207, wd_153, wd_208, wd_209⟩
theorem pk_X0_tells : q_Pk m_X0_tells 1 := ⟨rfl, rfl, rfl, plainFor_of_name (by decide +kernel), by decide +kernel, by decide +kernel, by decide +kernel⟩
theorem wv_X0_allRests : q_Wv m_X0_allRests := ⟨wd_210, wd_153, wd_211, wd_212⟩
theorem pk_X0_allRests : q_Pk m_X0_allRests 0 := ⟨rfl, rfl, rfl, plainFor_of_name (by decide +kernel), by decide +kernel, by decide +kernel, by decide +kernel⟩
theorem wv_X0_opposite : q_Wv m_X0_opposite := ⟨wd_213, wd_153, wd_214, wd_215⟩
theorem pk_X0_opposite : q_Pk m_X0_opposite 1 := ⟨rfl, rfl, rfl, plainFor_of_name (by decide +kernel), by decide +kernel, by decide +kernel, by decide +kernel⟩
theorem wv_X0_swap : q_Wst m_X0_swap := ⟨wd_216, wd_153, wd_217⟩
theorem pk_X0_swap : q_Pk m_X0_swap 3 := ⟨rfl, rfl, rfl, plainFor_of_name (by decide +kernel), by decide +kernel, by decide +kernel, by decide +kernel⟩
theorem ws_X0_swapShut : Cond.selects RX0 yX0_swapShut yX0_swapShut ∈ q_tb := q_tb_of (q_tp 19 (by decide +kernel)) rfl
theorem wv_X0_swapShut : q_Wv m_X0_swapShut := ⟨wd_218, wd_153, wd_219, ws_X0_swapShut⟩
theorem pk_X0_swapShut : q_Pk m_X0_swapShut 2 := ⟨rfl, rfl, rfl, plainFor_of_name (by decide +kernel), by decide +kernel, by decide +kernel, by decide +kernel⟩
theorem ws_X0_swapCells : Cond.selects RX0 yX0_swapCells yX0_swapCells ∈ q_tb := q_tb_of (q_tp 18 (by decide +kernel)) rfl
theorem wv_X0_swapCells : q_Wv m_X0_swapCells := ⟨wd_220, wd_153, wd_221, ws_X0_swapCells⟩
theorem pk_X0_swapCells : q_Pk m_X0_swapCells 2 := ⟨rfl, rfl, rfl, plainFor_of_name (by decide +kernel), by decide +kernel, by decide +kernel, by decide +kernel⟩
theorem ws_X0_swapRightSides : Cond.selects RX0 yX0_swapRightSides yX0_swapRightSides ∈ q_tb := q_tb_of (q_tp 20 (by decide +kernel)) rfl
theorem wv_X0_swapRightSides : q_Wv m_X0_swapRightSides := ⟨wd_222, wd_153, wd_223, ws_X0_swapRightSides⟩
theorem pk_X0_swapRightSides : q_Pk m_X0_swapRightSides 2 := ⟨rfl, rfl, rfl, plainFor_of_name (by decide +kernel), by decide +kernel, by decide +kernel, by decide +kernel⟩
theorem wv_X0_turn : q_Wv m_X0_turn := ⟨wd_224, wd_153, wd_225, wd_226⟩
theorem pk_X0_turn : q_Pk m_X0_turn 0 := ⟨rfl, rfl, rfl, plainFor_of_name (by decide +kernel), by decide +kernel, by decide +kernel, by decide +kernel⟩
theorem ws_X0_underCell : Cond.selects RX0 yX0_underCell yX0_underCell ∈ q_tb := q_tb_of (q_tp 21 (by decide +kernel)) rfl
theorem wv_X0_underCell : q_Wv m_X0_underCell := ⟨wd_227, wd_153, wd_228, ws_X0_underCell⟩
theorem pk_X0_underCell : q_Pk m_X0_underCell 2 := ⟨rfl, rfl, rfl, plainFor_of_name (by decide +kernel), by decide +kernel, by decide +kernel, by decide +kernel⟩
theorem ws_X0_fineCell : Cond.selects RX0 yX0_fineCell yX0_fineCell ∈ q_tb := q_tb_of (q_tp 22 (by decide +kernel)) rfl
theorem wv_X0_fineCell : q_Wv m_X0_fineCell := ⟨wd_229, wd_153, wd_230, ws_X0_fineCell⟩
theorem pk_X0_fineCell : q_Pk m_X0_fineCell 2 := ⟨rfl, rfl, rfl, plainFor_of_name (by decide +kernel), by decide +kernel, by decide +kernel, by decide +kernel⟩
theorem wv_X0_layOn : q_Wv m_X0_layOn := ⟨wd_231, wd_153, wd_232, wd_233⟩
theorem pk_X0_layOn : q_Pk m_X0_layOn 1 := ⟨rfl, rfl, rfl, plainFor_of_name (by decide +kernel), by decide +kernel, by decide +kernel, by decide +kernel⟩
theorem wv_J9_floorDiv_7cf53 : q_Wst m_J9_floorDiv_7cf53 := ⟨wd_234, wd_52, wd_235⟩
theorem pk_J9_floorDiv_7cf53 : q_Pk m_J9_floorDiv_7cf53 2 := ⟨rfl, rfl, rfl, by decide +kernel, by decide +kernel, by decide +kernel, by decide +kernel⟩
theorem wv_X0_giveUp : q_Wv m_X0_giveUp := ⟨wd_236, wd_153, wd_237, wd_238⟩
theorem pk_X0_giveUp : q_Pk m_X0_giveUp 1 := ⟨rfl, rfl, rfl, plainFor_of_name (by decide +kernel), by decide +kernel, by decide +kernel, by decide +kernel⟩
theorem ws_X0_unfilled : Cond.selects RX0 yX0_unfilled yX0_unfilled ∈ q_tb := q_tb_of (q_tp 25 (by decide +kernel)) rfl
theorem wv_X0_unfilled : q_Wv m_X0_unfilled := ⟨wd_239, wd_153, wd_240, ws_X0_unfilled⟩
theorem pk_X0_unfilled : q_Pk m_X0_unfilled 2 := ⟨rfl, rfl, rfl, plainFor_of_name (by decide +kernel), by decide +kernel, by decide +kernel, by decide +kernel⟩
theorem wv_X0_takeDown : q_Wv m_X0_takeDown := ⟨wd_241, wd_153, wd_242, wd_243⟩
theorem pk_X0_takeDown : q_Pk m_X0_takeDown 1 := ⟨rfl, rfl, rfl, plainFor_of_name (by decide +kernel), by decide +kernel, by decide +kernel, by decide +kernel⟩
theorem wv_X1_drift : q_Wv m_X1_drift := ⟨wd_244, wd_245, wd_246, wd_247⟩
theorem pk_X1_drift : q_Pk m_X1_drift 1 := ⟨rfl, rfl, rfl, plainFor_of_name (by decide +kernel), by decide +kernel, by decide +kernel, by decide +kernel⟩
theorem wv_X2_fromOldest : q_Wv m_X2_fromOldest := ⟨wd_248, wd_249, wd_250, wd_251⟩
theorem pk_X2_fromOldest : q_Pk m_X2_fromOldest 1 := ⟨rfl, rfl, rfl, plainFor_of_name (by decide +kernel), by decide +kernel, by decide +kernel, by decide +kernel⟩
theorem wv_X2_read : q_Wv m_X2_read := ⟨wd_252, wd_249, wd_253, wd_254⟩
theorem pk_X2_read : q_Pk m_X2_read 1 := ⟨rfl, rfl, rfl, plainFor_of_name (by decide +kernel), by decide +kernel, by decide +kernel, by decide +kernel⟩
theorem wv_X7_isThere : q_Wv m_X7_isThere := ⟨wd_255, wd_188, wd_256, wd_257⟩
theorem pk_X7_isThere : q_Pk m_X7_isThere 1 := ⟨rfl, rfl, rfl, plainFor_of_name (by decide +kernel), by decide +kernel, by decide +kernel, by decide +kernel⟩
theorem wv_X7_hasPlace : q_Wv m_X7_hasPlace := ⟨wd_258, wd_188, wd_259, wd_260⟩
theorem pk_X7_hasPlace : q_Pk m_X7_hasPlace 2 := ⟨rfl, rfl, rfl, plainFor_of_name (by decide +kernel), by decide +kernel, by decide +kernel, by decide +kernel⟩
theorem wv_X7_make : q_Wv m_X7_make := ⟨wd_261, wd_188, wd_262, wd_263⟩
theorem pk_X7_make : q_Pk m_X7_make 3 := ⟨rfl, rfl, rfl, plainFor_of_name (by decide +kernel), by decide +kernel, by decide +kernel, by decide +kernel⟩
theorem ws_X8_addRivers : Cond.selects RX8 yX8_addRivers yX8_addRivers ∈ q_tb := q_tb_of (q_tp 13 (by decide +kernel)) rfl
theorem wv_X8_addRivers : q_Wv m_X8_addRivers := ⟨wd_264, wd_265, wd_266, ws_X8_addRivers⟩
theorem pk_X8_addRivers : q_Pk m_X8_addRivers 1 := ⟨rfl, rfl, rfl, plainFor_of_name (by decide +kernel), by decide +kernel, by decide +kernel, by decide +kernel⟩
theorem wv_X8_share : q_Wst m_X8_share := ⟨wd_267, wd_265, wd_268⟩
theorem pk_X8_share : q_Pk m_X8_share 3 := ⟨rfl, rfl, rfl, plainFor_of_name (by decide +kernel), by decide +kernel, by decide +kernel, by decide +kernel⟩
theorem ws_X8_source : Cond.selects RX8 yX8_source yX8_source ∈ q_tb := q_tb_of (q_tp 11 (by decide +kernel)) rfl
theorem wv_X8_source : q_Wv m_X8_source := ⟨wd_269, wd_265, wd_270, ws_X8_source⟩
theorem pk_X8_source : q_Pk m_X8_source 2 := ⟨rfl, rfl, rfl, plainFor_of_name (by decide +kernel), by decide +kernel, by decide +kernel, by decide +kernel⟩
theorem ws_X8_carryStuff : Cond.selects RX8 yX8_carryStuff yX8_carryStuff ∈ q_tb := q_tb_of (q_tp 15 (by decide +kernel)) rfl
theorem wv_X8_carryStuff : q_Wv m_X8_carryStuff := ⟨wd_271, wd_265, wd_272, ws_X8_carryStuff⟩
theorem pk_X8_carryStuff : q_Pk m_X8_carryStuff 2 := ⟨rfl, rfl, rfl, plainFor_of_name (by decide +kernel), by decide +kernel, by decide +kernel, by decide +kernel⟩
theorem wv_X8_leadRim : q_Wst m_X8_leadRim := ⟨wd_273, wd_265, wd_274⟩
theorem pk_X8_leadRim : q_Pk m_X8_leadRim 2 := ⟨rfl, rfl, rfl, plainFor_of_name (by decide +kernel), by decide +kernel, by decide +kernel, by decide +kernel⟩
theorem ws_X8_limitFlows : Cond.selects RX8 yX8_limitFlows yX8_limitFlows ∈ q_tb := q_tb_of (q_tp 10 (by decide +kernel)) rfl
theorem wv_X8_limitFlows : q_Wv m_X8_limitFlows := ⟨wd_275, wd_265, wd_276, ws_X8_limitFlows⟩
theorem pk_X8_limitFlows : q_Pk m_X8_limitFlows 1 := ⟨rfl, rfl, rfl, plainFor_of_name (by decide +kernel), by decide +kernel, by decide +kernel, by decide +kernel⟩
theorem ws_X8_moveWater : Cond.selects RX8 yX8_moveWater yX8_moveWater ∈ q_tb := q_tb_of (q_tp 12 (by decide +kernel)) rfl
theorem wv_X8_moveWater : q_Wv m_X8_moveWater := ⟨wd_277, wd_265, wd_278, ws_X8_moveWater⟩
theorem pk_X8_moveWater : q_Pk m_X8_moveWater 1 := ⟨rfl, rfl, rfl, plainFor_of_name (by decide +kernel), by decide +kernel, by decide +kernel, by decide +kernel⟩
theorem ws_X8_pushed : Cond.selects RX8 yX8_pushed yX8_pushed ∈ q_tb := q_tb_of (q_tp 9 (by decide +kernel)) rfl
theorem wv_X8_pushed : q_Wv m_X8_pushed := ⟨wd_279, wd_265, wd_280, ws_X8_pushed⟩
theorem pk_X8_pushed : q_Pk m_X8_pushed 2 := ⟨rfl, rfl, rfl, plainFor_of_name (by decide +kernel), by decide +kernel, by decide +kernel, by decide +kernel⟩
theorem ws_X8_pushFlows : Cond.selects RX8 yX8_pushFlows yX8_pushFlows ∈ q_tb := q_tb_of (q_tp 8 (by decide +kernel)) rfl
theorem wv_X8_pushFlows : q_Wv m_X8_pushFlows := ⟨wd_281, wd_265, wd_282, ws_X8_pushFlows⟩
theorem pk_X8_pushFlows : q_Pk m_X8_pushFlows 1 := ⟨rfl, rfl, rfl, plainFor_of_name (by decide +kernel), by decide +kernel, by decide +kernel, by decide +kernel⟩
theorem ws_X8_tooMuch : Cond.selects RX8 yX8_tooMuch yX8_tooMuch ∈ q_tb := q_tb_of (q_tp 14 (by decide +kernel)) rfl
theorem wv_X8_tooMuch : q_Wv m_X8_tooMuch := ⟨wd_283, wd_265, wd_284, ws_X8_tooMuch⟩
theorem pk_X8_tooMuch : q_Pk m_X8_tooMuch 1 := ⟨rfl, rfl, rfl, plainFor_of_name (by decide +kernel), by decide +kernel, by decide +kernel, by decide +kernel⟩
theorem wv_X8_advance : q_Wv m_X8_advance := ⟨wd_285, wd_265, wd_286, wd_287⟩
theorem pk_X8_advance : q_Pk m_X8_advance 2 := ⟨rfl, rfl, rfl, plainFor_of_name (by decide +kernel), by decide +kernel, by decide +kernel, by decide +kernel⟩
theorem ws_X10_found : Cond.selects RX10 yX10_found yX10_found ∈ q_tb := q_tb_of (q_tp 0 (by decide +kernel)) rfl
theorem wv_X10_found : q_Wv m_X10_found := ⟨wd_288, wd_289, wd_290, ws_X10_found⟩
theorem pk_X10_found : q_Pk m_X10_found 1 := ⟨rfl, rfl, rfl, plainFor_of_name (by decide +kernel), by decide +kernel, by decide +kernel, by decide +kernel⟩
theorem wv_X10_row : q_Wv m_X10_row := ⟨wd_291, wd_289, wd_292, wd_293⟩
theorem pk_X10_row : q_Pk m_X10_row 2 := ⟨rfl, rfl, rfl, plainFor_of_name (by decide +kernel), by decide +kernel, by decide +kernel, by decide +kernel⟩
theorem wv_X10_within : q_Wst m_X10_within := ⟨wd_294, wd_289, wd_295⟩
theorem pk_X10_within : q_Pk m_X10_within 3 := ⟨rfl, rfl, rfl, plainFor_of_name (by decide +kernel), by decide +kernel, by decide +kernel, by decide +kernel⟩
theorem wv_X10_lay : q_Wv m_X10_lay := ⟨wd_296, wd_289, wd_297, wd_298⟩
theorem pk_X10_lay : q_Pk m_X10_lay 3 := ⟨rfl, rfl, rfl, plainFor_of_name (by decide +kernel), by decide +kernel, by decide +kernel, by decide +kernel⟩
theorem wv_X10_isBoard : q_Wst m_X10_isBoard := ⟨wd_299, wd_289, wd_300⟩
theorem pk_X10_isBoard : q_Pk m_X10_isBoard 1 := ⟨rfl, rfl, rfl, plainFor_of_name (by decide +kernel), by decide +kernel, by decide +kernel, by decide +kernel⟩
theorem ws_X10_hasGround : Cond.selects RX10 yX10_hasGround yX10_hasGround ∈ q_tb := q_tb_of (q_tp 3 (by decide +kernel)) rfl
theorem wv_X10_hasGround : q_Wv m_X10_hasGround := ⟨wd_301, wd_289, wd_302, ws_X10_hasGround⟩
theorem pk_X10_hasGround : q_Pk m_X10_hasGround 1 := ⟨rfl, rfl, rfl, plainFor_of_name (by decide +kernel), by decide +kernel, by decide +kernel, by decide +kernel⟩
theorem ws_X10_removeBoard : Cond.selects RX10 yX10_removeBoard yX10_removeBoard ∈ q_tb := q_tb_of (q_tp 2 (by decide +kernel)) rfl
theorem wv_X10_removeBoard : q_Wv m_X10_removeBoard := ⟨wd_303, wd_289, wd_304, ws_X10_removeBoard⟩
theorem pk_X10_removeBoard : q_Pk m_X10_removeBoard 1 := ⟨rfl, rfl, rfl, plainFor_of_name (by decide +kernel), by decide +kernel, by decide +kernel, by decide +kernel⟩
theorem ws_X10_clear : Cond.selects RX10 yX10_clear yX10_clear ∈ q_tb := q_tb_of (q_tp 1 (by decide +kernel)) rfl
theorem wv_X10_clear : q_Wv m_X10_clear := ⟨wd_305, wd_289, wd_306, ws_X10_clear⟩
theorem pk_X10_clear : q_Pk m_X10_clear 1 := ⟨rfl, rfl, rfl, plainFor_of_name (by decide +kernel), by decide +kernel, by decide +kernel, by decide +kernel⟩
theorem wv_X10_board : q_Wv m_X10_board := ⟨wd_307, wd_289, wd_308, wd_309⟩
theorem pk_X10_board : q_Pk m_X10_board 4 := ⟨rfl, rfl, rfl, plainFor_of_name (by decide +kernel), by decide +kernel, by decide +kernel, by decide +kernel⟩
theorem ws_X10_boardRefused : Cond.selects RX10 yX10_boardRefused yX10_boardRefused ∈ q_tb := q_tb_of (q_tp 5 (by decide +kernel)) rfl
theorem wv_X10_boardRefused : q_Wv m_X10_boardRefused := ⟨wd_310, wd_289, wd_311, ws_X10_boardRefused⟩
theorem pk_X10_boardRefused : q_Pk m_X10_boardRefused 2 := ⟨rfl, rfl, rfl, plainFor_of_name (by decide +kernel), by decide +kernel, by decide +kernel, by decide +kernel⟩
theorem ws_X10_cellRefused : Cond.selects RX10 yX10_cellRefused yX10_cellRefused ∈ q_tb := q_tb_of (q_tp 4 (by decide +kernel)) rfl
theorem wv_X10_cellRefused : q_Wv m_X10_cellRefused := ⟨wd_312, wd_289, wd_313, ws_X10_cellRefused⟩
theorem pk_X10_cellRefused : q_Pk m_X10_cellRefused 3 := ⟨rfl, rfl, rfl, plainFor_of_name (by decide +kernel), by decide +kernel, by decide +kernel, by decide +kernel⟩
theorem wv_X10_bottom : q_Wv m_X10_bottom := ⟨wd_314, wd_289, wd_315, wd_316⟩
theorem pk_X10_bottom : q_Pk m_X10_bottom 3 := ⟨rfl, rfl, rfl, plainFor_of_name (by decide +kernel), by decide +kernel, by decide +kernel, by decide +kernel⟩
theorem wv_X10_water : q_Wv m_X10_water := ⟨wd_317, wd_289, wd_318, wd_319⟩
theorem pk_X10_water : q_Pk m_X10_water 3 := ⟨rfl, rfl, rfl, plainFor_of_name (by decide +kernel), by decide +kernel, by decide +kernel, by decide +kernel⟩
theorem wv_X10_spill : q_Wv m_X10_spill := ⟨wd_320, wd_289, wd_321, wd_322⟩
theorem pk_X10_spill : q_Pk m_X10_spill 4 := ⟨rfl, rfl, rfl, plainFor_of_name (by decide +kernel), by decide +kernel, by decide +kernel, by decide +kernel⟩
theorem wv_X10_cell : q_Wv m_X10_cell := ⟨wd_323, wd_289, wd_324, wd_325⟩
theorem pk_X10_cell : q_Pk m_X10_cell 3 := ⟨rfl, rfl, rfl, plainFor_of_name (by decide +kernel), by decide +kernel, by decide +kernel, by decide +kernel⟩
theorem ws_X10_sideRefused : Cond.selects RX10 yX10_sideRefused yX10_sideRefused ∈ q_tb := q_tb_of (q_tp 6 (by decide +kernel)) rfl
theorem wv_X10_sideRefused : q_Wv m_X10_sideRefused := ⟨wd_326, wd_289, wd_327, ws_X10_sideRefused⟩
theorem pk_X10_sideRefused : q_Pk m_X10_sideRefused 2 := ⟨rfl, rfl, rfl, plainFor_of_name (by decide +kernel), by decide +kernel, by decide +kernel, by decide +kernel⟩
theorem wv_X10_flow : q_Wv m_X10_flow := ⟨wd_328, wd_289, wd_329, wd_330⟩
theorem pk_X10_flow : q_Pk m_X10_flow 2 := ⟨rfl, rfl, rfl, plainFor_of_name (by decide +kernel), by decide +kernel, by decide +kernel, by decide +kernel⟩
theorem wv_X10_gate : q_Wv m_X10_gate := ⟨wd_331, wd_289, wd_332, wd_333⟩
theorem pk_X10_gate : q_Pk m_X10_gate 3 := ⟨rfl, rfl, rfl, plainFor_of_name (by decide +kernel), by decide +kernel, by decide +kernel, by decide +kernel⟩
theorem wv_X10_law : q_Wv m_X10_law := ⟨wd_334, wd_289, wd_335, wd_336⟩
theorem pk_X10_law : q_Pk m_X10_law 3 := ⟨rfl, rfl, rfl, plainFor_of_name (by decide +kernel), by decide +kernel, by decide +kernel, by decide +kernel⟩
theorem wv_X10_wind : q_Wv m_X10_wind := ⟨wd_337, wd_289, wd_338, wd_339⟩
theorem pk_X10_wind : q_Pk m_X10_wind 3 := ⟨rfl, rfl, rfl, plainFor_of_name (by decide +kernel), by decide +kernel, by decide +kernel, by decide +kernel⟩
theorem wv_X10_river : q_Wv m_X10_river := ⟨wd_340, wd_289, wd_341, wd_342⟩
theorem pk_X10_river : q_Pk m_X10_river 3 := ⟨rfl, rfl, rfl, plainFor_of_name (by decide +kernel), by decide +kernel, by decide +kernel, by decide +kernel⟩
theorem wv_X10_tide : q_Wv m_X10_tide := ⟨wd_343, wd_289, wd_344, wd_345⟩
theorem pk_X10_tide : q_Pk m_X10_tide 3 := ⟨rfl, rfl, rfl, plainFor_of_name (by decide +kernel), by decide +kernel, by decide +kernel, by decide +kernel⟩
theorem ws_X10_stepWhole : Cond.selects RX10 yX10_stepWhole yX10_stepWhole ∈ q_tb := q_tb_of (q_tp 7 (by decide +kernel)) rfl
theorem wv_X10_stepWhole : q_Wv m_X10_stepWhole := ⟨wd_346, wd_289, wd_347, ws_X10_stepWhole⟩
theorem pk_X10_stepWhole : q_Pk m_X10_stepWhole 1 := ⟨rfl, rfl, rfl, plainFor_of_name (by decide +kernel), by decide +kernel, by decide +kernel, by decide +kernel⟩
theorem wv_X10_step : q_Wv m_X10_step := ⟨wd_348, wd_289, wd_349, wd_350⟩
theorem pk_X10_step : q_Pk m_X10_step 2 := ⟨rfl, rfl, rfl, plainFor_of_name (by decide +kernel), by decide +kernel, by decide +kernel, by decide +kernel⟩
theorem wv_X10_told : q_Wv m_X10_told := ⟨wd_351, wd_289, wd_352, wd_353⟩
theorem pk_X10_told : q_Pk m_X10_told 2 := ⟨rfl, rfl, rfl, plainFor_of_name (by decide +kernel), by decide +kernel, by decide +kernel, by decide +kernel⟩
theorem wv_X10_mark : q_Wv m_X10_mark := ⟨wd_354, wd_289, wd_355, wd_356⟩
theorem pk_X10_mark : q_Pk m_X10_mark 2 := ⟨rfl, rfl, rfl, plainFor_of_name (by decide +kernel), by decide +kernel, by decide +kernel, by decide +kernel⟩
theorem ws_X10_liesIn : Cond.selects RX10 yX10_liesIn yX10_liesIn ∈ q_tb := q_tb_of (q_tp 16 (by decide +kernel)) rfl
theorem wv_X10_liesIn : q_Wv m_X10_liesIn := ⟨wd_357, wd_289, wd_358, ws_X10_liesIn⟩
theorem pk_X10_liesIn : q_Pk m_X10_liesIn 2 := ⟨rfl, rfl, rfl, plainFor_of_name (by decide +kernel), by decide +kernel, by decide +kernel, by decide +kernel⟩
theorem wv_X10_keep : q_Wv m_X10_keep := ⟨wd_359, wd_289, wd_360, wd_361⟩
theorem pk_X10_keep : q_Pk m_X10_keep 2 := ⟨rfl, rfl, rfl, plainFor_of_name (by decide +kernel), by decide +kernel, by decide +kernel, by decide +kernel⟩
theorem ws_X10_bearsNest : Cond.selects RX10 yX10_bearsNest yX10_bearsNest ∈ q_tb := q_tb_of (q_tp 17 (by decide +kernel)) rfl
theorem wv_X10_bearsNest : q_Wv m_X10_bearsNest := ⟨wd_362, wd_289, wd_363, ws_X10_bearsNest⟩
theorem pk_X10_bearsNest : q_Pk m_X10_bearsNest 1 := ⟨rfl, rfl, rfl, plainFor_of_name (by decide +kernel), by decide +kernel, by decide +kernel, by decide +kernel⟩
theorem wv_X10_mirror : q_Wv m_X10_mirror := ⟨wd_364, wd_289, wd_365, wd_366⟩
theorem pk_X10_mirror : q_Pk m_X10_mirror 1 := ⟨rfl, rfl, rfl, plainFor_of_name (by decide +kernel), by decide +kernel, by decide +kernel, by decide +kernel⟩
theorem wv_X10_nest : q_Wv m_X10_nest := ⟨wd_367, wd_289, wd_368, wd_369⟩
theorem pk_X10_nest : q_Pk m_X10_nest 6 := ⟨rfl, rfl, rfl, plainFor_of_name (by decide +kernel), by decide +kernel, by decide +kernel, by decide +kernel⟩
theorem ws_X10_nestRefused : Cond.selects RX10 yX10_nestRefused yX10_nestRefused ∈ q_tb := q_tb_of (q_tp 23 (by decide +kernel)) rfl
theorem wv_X10_nestRefused : q_Wv m_X10_nestRefused := ⟨wd_370, wd_289, wd_371, ws_X10_nestRefused⟩
theorem pk_X10_nestRefused : q_Pk m_X10_nestRefused 1 := ⟨rfl, rfl, rfl, plainFor_of_name (by decide +kernel), by decide +kernel, by decide +kernel, by decide +kernel⟩
theorem wv_X10_up : q_Wv m_X10_up := ⟨wd_372, wd_289, wd_373, wd_374⟩
theorem pk_X10_up : q_Pk m_X10_up 1 := ⟨rfl, rfl, rfl, plainFor_of_name (by decide +kernel), by decide +kernel, by decide +kernel, by decide +kernel⟩
theorem wv_X10_down : q_Wv m_X10_down := ⟨wd_375, wd_289, wd_376, wd_377⟩
theorem pk_X10_down : q_Pk m_X10_down 1 := ⟨rfl, rfl, rfl, plainFor_of_name (by decide +kernel), by decide +kernel, by decide +kernel, by decide +kernel⟩
theorem wv_X10_asked : q_Wv m_X10_asked := ⟨wd_378, wd_289, wd_379, wd_380⟩
theorem pk_X10_asked : q_Pk m_X10_asked 0 := ⟨rfl, rfl, rfl, plainFor_of_name (by decide +kernel), by decide +kernel, by decide +kernel, by decide +kernel⟩
theorem wv_L_low : q_Wst m_L_low := ⟨wd_381, wd_382, wd_383⟩
theorem pk_L_low : q_Pk m_L_low 2 := ⟨rfl, rfl, rfl, plainFor_of_name (by decide +kernel), by decide +kernel, by decide +kernel, by decide +kernel⟩
theorem wv_L_cell : q_Wst m_L_cell := ⟨wd_384, wd_382, wd_385⟩
theorem pk_L_cell : q_Pk m_L_cell 2 := ⟨rfl, rfl, rfl, plainFor_of_name (by decide +kernel), by decide +kernel, by decide +kernel, by decide +kernel⟩
theorem wv_L_sea : q_Wst m_L_sea := ⟨wd_386, wd_382, wd_387⟩
theorem pk_L_sea : q_Pk m_L_sea 5 := ⟨rfl, rfl, rfl, plainFor_of_name (by decide +kernel), by decide +kernel, by decide +kernel, by decide +kernel⟩
theorem wv_L_told : q_Wst m_L_told := ⟨wd_388, wd_382, wd_389⟩
theorem pk_L_told : q_Pk m_L_told 3 := ⟨rfl, rfl, rfl, plainFor_of_name (by decide +kernel), by decide +kernel, by decide +kernel, by decide +kernel⟩
theorem wv_L_at : q_Wst m_L_at := ⟨wd_390, wd_382, wd_391⟩
theorem pk_L_at : q_Pk m_L_at 4 := ⟨rfl, rfl, rfl, plainFor_of_name (by decide +kernel), by decide +kernel, by decide +kernel, by decide +kernel⟩
theorem in_X0 : ∀ w ∈ u_ws RX0 TX0 19, w ∈ q_tb := by
  intro w hw
  obtain ⟨k, hk, rfl⟩ := List.mem_map.mp hw
  have hk := List.mem_range.mp hk
  match k, hk with
  | 0, _ => exact wd_392
  | 1, _ => exact wd_393
  | 2, _ => exact wd_394
  | 3, _ => exact wd_395
  | 4, _ => exact wd_396
  | 5, _ => exact wd_397
  | 6, _ => exact wd_398
  | 7, _ => exact wd_399
  | 8, _ => exact wd_400
  | 9, _ => exact wd_401
  | 10, _ => exact wd_402
  | 11, _ => exact wd_403
  | 12, _ => exact wd_404
  | 13, _ => exact wd_405
  | 14, _ => exact wd_406
  | 15, _ => exact wd_407
  | 16, _ => exact wd_408
  | 17, _ => exact wd_409
  | 18, _ => exact wd_410
  | n + 19, h => exact absurd h (by omega)
theorem in_X1 : ∀ w ∈ u_ws RX1 TX1 3, w ∈ q_tb := by
  intro w hw
  obtain ⟨k, hk, rfl⟩ := List.mem_map.mp hw
  have hk := List.mem_range.mp hk
  match k, hk with
  | 0, _ => exact wd_411
  | 1, _ => exact wd_412
  | 2, _ => exact wd_413
  | n + 3, h => exact absurd h (by omega)
theorem in_X2 : ∀ w ∈ u_ws RX2 TX2 6, w ∈ q_tb := by
  intro w hw
  obtain ⟨k, hk, rfl⟩ := List.mem_map.mp hw
  have hk := List.mem_range.mp hk
  match k, hk with
  | 0, _ => exact wd_414
  | 1, _ => exact wd_415
  | 2, _ => exact wd_416
  | 3, _ => exact wd_417
  | 4, _ => exact wd_418
  | 5, _ => exact wd_419
  | n + 6, h => exact absurd h (by omega)
theorem in_X3 : ∀ w ∈ u_ws RX3 TX3 4, w ∈ q_tb := by
  intro w hw
  obtain ⟨k, hk, rfl⟩ := List.mem_map.mp hw
  have hk := List.mem_range.mp hk
  match k, hk with
  | 0, _ => exact wd_420
  | 1, _ => exact wd_421
  | 2, _ => exact wd_422
  | 3, _ => exact wd_423
  | n + 4, h => exact absurd h (by omega)
theorem in_X4 : ∀ w ∈ u_ws RX4 TX4 5, w ∈ q_tb := by
  intro w hw
  obtain ⟨k, hk, rfl⟩ := List.mem_map.mp hw
  have hk := List.mem_range.mp hk
  match k, hk with
  | 0, _ => exact wd_424
  | 1, _ => exact wd_425
  | 2, _ => exact wd_426
  | 3, _ => exact wd_427
  | 4, _ => exact wd_428
  | n + 5, h => exact absurd h (by omega)
theorem in_X5 : ∀ w ∈ u_ws RX5 TX5 3, w ∈ q_tb := by
  intro w hw
  obtain ⟨k, hk, rfl⟩ := List.mem_map.mp hw
  have hk := List.mem_range.mp hk
  match k, hk with
  | 0, _ => exact wd_429
  | 1, _ => exact wd_430
  | 2, _ => exact wd_431
  | n + 3, h => exact absurd h (by omega)
theorem in_X6 : ∀ w ∈ u_ws RX6 TX6 7, w ∈ q_tb := by
  intro w hw
  obtain ⟨k, hk, rfl⟩ := List.mem_map.mp hw
  have hk := List.mem_range.mp hk
  match k, hk with
  | 0, _ => exact wd_432
  | 1, _ => exact wd_433
  | 2, _ => exact wd_434
  | 3, _ => exact wd_435
  | 4, _ => exact wd_436
  | 5, _ => exact wd_437
  | 6, _ => exact wd_438
  | n + 7, h => exact absurd h (by omega)
theorem in_X7 : ∀ w ∈ u_ws RX7 TX7 2, w ∈ q_tb := by
  intro w hw
  obtain ⟨k, hk, rfl⟩ := List.mem_map.mp hw
  have hk := List.mem_range.mp hk
  match k, hk with
  | 0, _ => exact wd_439
  | 1, _ => exact wd_440
  | n + 2, h => exact absurd h (by omega)
theorem in_X8 : ∀ w ∈ u_ws RX8 TX8 4, w ∈ q_tb := by
  intro w hw
  obtain ⟨k, hk, rfl⟩ := List.mem_map.mp hw
  have hk := List.mem_range.mp hk
  match k, hk with
  | 0, _ => exact wd_441
  | 1, _ => exact wd_442
  | 2, _ => exact wd_443
  | 3, _ => exact wd_444
  | n + 4, h => exact absurd h (by omega)
theorem in_X9 : ∀ w ∈ u_ws RX9 TX9 3, w ∈ q_tb := by
  intro w hw
  obtain ⟨k, hk, rfl⟩ := List.mem_map.mp hw
  have hk := List.mem_range.mp hk
  match k, hk with
  | 0, _ => exact wd_445
  | 1, _ => exact wd_446
  | 2, _ => exact wd_447
  | n + 3, h => exact absurd h (by omega)
theorem in_X10 : ∀ w ∈ u_ws RX10 TX10 19, w ∈ q_tb := by
  intro w hw
  obtain ⟨k, hk, rfl⟩ := List.mem_map.mp hw
  have hk := List.mem_range.mp hk
  match k, hk with
  | 0, _ => exact wd_448
  | 1, _ => exact wd_449
  | 2, _ => exact wd_450
  | 3, _ => exact wd_451
  | 4, _ => exact wd_452
  | 5, _ => exact wd_453
  | 6, _ => exact wd_454
  | 7, _ => exact wd_455
  | 8, _ => exact wd_456
  | 9, _ => exact wd_457
  | 10, _ => exact wd_458
  | 11, _ => exact wd_459
  | 12, _ => exact wd_460
  | 13, _ => exact wd_461
  | 14, _ => exact wd_462
  | 15, _ => exact wd_463
  | 16, _ => exact wd_464
  | 17, _ => exact wd_465
  | 18, _ => exact wd_466
  | n + 19, h => exact absurd h (by omega)
theorem ns_0 : ("SeaCells", 112, "SeaCells$Shelf", "places", "[[I", "SeaCells") ∈ q_nsL := List.mem_of_getElem? (i := 0) (by decide +kernel)
theorem ns_1 : ("SeaCells$Board", 125, "SeaCells$Shelf", "places", "[[I", "SeaCells") ∈ q_nsL := List.mem_of_getElem? (i := 1) (by decide +kernel)
theorem ns_2 : ("SeaCells$Board", 116, "SeaCells$Shelf", "sizes", "[I", "SeaCells") ∈ q_nsL := List.mem_of_getElem? (i := 2) (by decide +kernel)
theorem ns_3 : ("SeaCells$Stepper", 101, "SeaCells$Laws", "pull", "I", "SeaCells") ∈ q_nsL := List.mem_of_getElem? (i := 3) (by decide +kernel)
theorem ns_4 : ("SeaCells", 205, "SeaCells$Laws", "pull", "I", "SeaCells") ∈ q_nsL := List.mem_of_getElem? (i := 4) (by decide +kernel)
theorem ns_5 : ("SeaCells$Stepper", 109, "SeaCells$Laws", "drag", "I", "SeaCells") ∈ q_nsL := List.mem_of_getElem? (i := 5) (by decide +kernel)
theorem ns_6 : ("SeaCells", 210, "SeaCells$Laws", "drag", "I", "SeaCells") ∈ q_nsL := List.mem_of_getElem? (i := 6) (by decide +kernel)
theorem ns_7 : ("SeaCells$Board", 132, "SeaCells$Laws", "windX", "I", "SeaCells") ∈ q_nsL := List.mem_of_getElem? (i := 7) (by decide +kernel)
theorem ns_8 : ("SeaCells", 213, "SeaCells$Laws", "windX", "I", "SeaCells") ∈ q_nsL := List.mem_of_getElem? (i := 8) (by decide +kernel)
theorem ns_9 : ("SeaCells$Board", 129, "SeaCells$Laws", "windY", "I", "SeaCells") ∈ q_nsL := List.mem_of_getElem? (i := 9) (by decide +kernel)
theorem ns_10 : ("SeaCells", 216, "SeaCells$Laws", "windY", "I", "SeaCells") ∈ q_nsL := List.mem_of_getElem? (i := 10) (by decide +kernel)
theorem ns_11 : ("SeaCells$Stepper", 136, "SeaCells$Rivers", "cell", "[I", "SeaCells") ∈ q_nsL := List.mem_of_getElem? (i := 11) (by decide +kernel)
theorem ns_12 : ("SeaCells$Board", 170, "SeaCells$Rivers", "cell", "[I", "SeaCells") ∈ q_nsL := List.mem_of_getElem? (i := 12) (by decide +kernel)
theorem ns_13 : ("SeaCells", 231, "SeaCells$Rivers", "cell", "[I", "SeaCells") ∈ q_nsL := List.mem_of_getElem? (i := 13) (by decide +kernel)
theorem ns_14 : ("SeaCells$Stepper", 139, "SeaCells$Rivers", "much", "[I", "SeaCells") ∈ q_nsL := List.mem_of_getElem? (i := 14) (by decide +kernel)
theorem ns_15 : ("SeaCells", 234, "SeaCells$Rivers", "much", "[I", "SeaCells") ∈ q_nsL := List.mem_of_getElem? (i := 15) (by decide +kernel)
theorem ns_16 : ("SeaCells$Board", 84, "SeaCells$Rivers", "count", "I", "SeaCells") ∈ q_nsL := List.mem_of_getElem? (i := 16) (by decide +kernel)
theorem ns_17 : ("SeaCells$Stepper", 131, "SeaCells$Rivers", "count", "I", "SeaCells") ∈ q_nsL := List.mem_of_getElem? (i := 17) (by decide +kernel)
theorem ns_18 : ("SeaCells", 223, "SeaCells$Rivers", "count", "I", "SeaCells") ∈ q_nsL := List.mem_of_getElem? (i := 18) (by decide +kernel)
theorem ns_19 : ("SeaCells$Board", 193, "SeaCells$Lie", "mark", "[I", "SeaCells") ∈ q_nsL := List.mem_of_getElem? (i := 19) (by decide +kernel)
theorem ns_20 : ("SeaCells$Board", 156, "SeaCells$Lie", "rest", "[I", "SeaCells") ∈ q_nsL := List.mem_of_getElem? (i := 20) (by decide +kernel)
theorem ns_21 : ("SeaCells$Board", 90, "SeaCells$Lie", "on", "I", "SeaCells") ∈ q_nsL := List.mem_of_getElem? (i := 21) (by decide +kernel)
theorem ns_22 : ("SeaCells", 313, "SeaCells$Lie", "on", "I", "SeaCells") ∈ q_nsL := List.mem_of_getElem? (i := 22) (by decide +kernel)
theorem ns_23 : ("SeaCells$Board", 183, "SeaCells$Lie", "x", "I", "SeaCells") ∈ q_nsL := List.mem_of_getElem? (i := 23) (by decide +kernel)
theorem ns_24 : ("SeaCells", 370, "SeaCells$Lie", "x", "I", "SeaCells") ∈ q_nsL := List.mem_of_getElem? (i := 24) (by decide +kernel)
theorem ns_25 : ("SeaCells$Board", 180, "SeaCells$Lie", "y", "I", "SeaCells") ∈ q_nsL := List.mem_of_getElem? (i := 25) (by decide +kernel)
theorem ns_26 : ("SeaCells", 373, "SeaCells$Lie", "y", "I", "SeaCells") ∈ q_nsL := List.mem_of_getElem? (i := 26) (by decide +kernel)
theorem ns_27 : ("SeaCells$Stepper", 112, "SeaCells$Board", "bottom", "[I", "SeaCells") ∈ q_nsL := List.mem_of_getElem? (i := 27) (by decide +kernel)
theorem ns_28 : ("SeaCells", 178, "SeaCells$Board", "bottom", "[I", "SeaCells") ∈ q_nsL := List.mem_of_getElem? (i := 28) (by decide +kernel)
theorem ns_29 : ("SeaCells$Stepper", 59, "SeaCells$Board", "water", "[I", "SeaCells") ∈ q_nsL := List.mem_of_getElem? (i := 29) (by decide +kernel)
theorem ns_30 : ("SeaCells", 181, "SeaCells$Board", "water", "[I", "SeaCells") ∈ q_nsL := List.mem_of_getElem? (i := 30) (by decide +kernel)
theorem ns_31 : ("SeaCells$Stepper", 143, "SeaCells$Board", "stuff", "[I", "SeaCells") ∈ q_nsL := List.mem_of_getElem? (i := 31) (by decide +kernel)
theorem ns_32 : ("SeaCells", 184, "SeaCells$Board", "stuff", "[I", "SeaCells") ∈ q_nsL := List.mem_of_getElem? (i := 32) (by decide +kernel)
theorem ns_33 : ("SeaCells$Boat", 15, "SeaCells$Board", "flow", "[I", "SeaCells") ∈ q_nsL := List.mem_of_getElem? (i := 33) (by decide +kernel)
theorem ns_34 : ("SeaCells$Stepper", 46, "SeaCells$Board", "flow", "[I", "SeaCells") ∈ q_nsL := List.mem_of_getElem? (i := 34) (by decide +kernel)
theorem ns_35 : ("SeaCells", 194, "SeaCells$Board", "flow", "[I", "SeaCells") ∈ q_nsL := List.mem_of_getElem? (i := 35) (by decide +kernel)
theorem ns_36 : ("SeaCells$Stepper", 82, "SeaCells$Board", "shut", "[Z", "SeaCells") ∈ q_nsL := List.mem_of_getElem? (i := 36) (by decide +kernel)
theorem ns_37 : ("SeaCells", 197, "SeaCells$Board", "shut", "[Z", "SeaCells") ∈ q_nsL := List.mem_of_getElem? (i := 37) (by decide +kernel)
theorem ns_38 : ("SeaCells$Stepper", 97, "SeaCells$Board", "laws", "LSeaCells$Laws;", "SeaCells") ∈ q_nsL := List.mem_of_getElem? (i := 38) (by decide +kernel)
theorem ns_39 : ("SeaCells", 201, "SeaCells$Board", "laws", "LSeaCells$Laws;", "SeaCells") ∈ q_nsL := List.mem_of_getElem? (i := 39) (by decide +kernel)
theorem ns_40 : ("SeaCells$Stepper", 127, "SeaCells$Board", "rivers", "LSeaCells$Rivers;", "SeaCells") ∈ q_nsL := List.mem_of_getElem? (i := 40) (by decide +kernel)
theorem ns_41 : ("SeaCells", 219, "SeaCells$Board", "rivers", "LSeaCells$Rivers;", "SeaCells") ∈ q_nsL := List.mem_of_getElem? (i := 41) (by decide +kernel)
theorem ns_42 : ("SeaCells", 309, "SeaCells$Board", "lie", "LSeaCells$Lie;", "SeaCells") ∈ q_nsL := List.mem_of_getElem? (i := 42) (by decide +kernel)
theorem ns_43 : ("SeaCells", 305, "SeaCells$Board", "there", "Z", "SeaCells") ∈ q_nsL := List.mem_of_getElem? (i := 43) (by decide +kernel)
theorem ns_44 : ("SeaCells", 276, "SeaCells$Board", "kind", "I", "SeaCells") ∈ q_nsL := List.mem_of_getElem? (i := 44) (by decide +kernel)
theorem ns_45 : ("SeaCells$Boat", 31, "SeaCells$Board", "w", "I", "SeaCells") ∈ q_nsL := List.mem_of_getElem? (i := 45) (by decide +kernel)
theorem ns_46 : ("SeaCells$Stepper", 147, "SeaCells$Board", "w", "I", "SeaCells") ∈ q_nsL := List.mem_of_getElem? (i := 46) (by decide +kernel)
theorem ns_47 : ("SeaCells", 364, "SeaCells$Board", "w", "I", "SeaCells") ∈ q_nsL := List.mem_of_getElem? (i := 47) (by decide +kernel)
theorem ns_48 : ("SeaCells$Stepper", 144, "SeaCells$Board", "h", "I", "SeaCells") ∈ q_nsL := List.mem_of_getElem? (i := 48) (by decide +kernel)
theorem ns_49 : ("SeaCells", 367, "SeaCells$Board", "h", "I", "SeaCells") ∈ q_nsL := List.mem_of_getElem? (i := 49) (by decide +kernel)
theorem ns_50 : ("SeaCells$Stepper", 75, "SeaCells$Board", "steps", "I", "SeaCells") ∈ q_nsL := List.mem_of_getElem? (i := 50) (by decide +kernel)
theorem ns_51 : ("SeaCells$Stepper", 60, "SeaCells$Board", "rain", "I", "SeaCells") ∈ q_nsL := List.mem_of_getElem? (i := 51) (by decide +kernel)
theorem ns_52 : ("SeaCells$Stepper", 157, "SeaCells$Board", "lent", "I", "SeaCells") ∈ q_nsL := List.mem_of_getElem? (i := 52) (by decide +kernel)
theorem ns_53 : ("SeaCells", 240, "SeaCells$Board", "tideRow", "I", "SeaCells") ∈ q_nsL := List.mem_of_getElem? (i := 53) (by decide +kernel)
theorem ns_54 : ("SeaCells", 243, "SeaCells$Board", "tideMore", "I", "SeaCells") ∈ q_nsL := List.mem_of_getElem? (i := 54) (by decide +kernel)
theorem ns_55 : ("SeaCells", 285, "SeaCells$Boat", "board", "I", "SeaCells") ∈ q_nsL := List.mem_of_getElem? (i := 55) (by decide +kernel)
theorem ns_56 : ("SeaCells", 288, "SeaCells$Boat", "cell", "I", "SeaCells") ∈ q_nsL := List.mem_of_getElem? (i := 56) (by decide +kernel)
theorem ns_57 : ("SeaCells", 293, "SeaCells$Gauge", "board", "I", "SeaCells") ∈ q_nsL := List.mem_of_getElem? (i := 57) (by decide +kernel)
theorem ns_58 : ("SeaCells", 294, "SeaCells$Gauge", "cell", "I", "SeaCells") ∈ q_nsL := List.mem_of_getElem? (i := 58) (by decide +kernel)
def q_fu : Nat := 4000
def q_ia (q : Nat × Nat) : Bool := decide (q_at q.1 = 0) && q_ok q.1 q.2
theorem q_ia_at {q : Nat × Nat} (h : q_ia q = true) : q_at q.1 = 0 := of_decide_eq_true (Bool.and_eq_true _ _ ▸ h).1
theorem q_ia_ok {q : Nat × Nat} (h : q_ia q = true) : q_ok q.1 q.2 = true := (Bool.and_eq_true _ _ ▸ h).2
def q_rlen (j : Nat) : Nat := if j = 0 then 48 else 40
theorem row_at {j : Nat} (h : j < 3) : q_at (30 + j) = 0 := by
  match j, h with
  | 0, _ => exact at_30
  | 1, _ => exact at_31
  | 2, _ => exact at_32
theorem row_al {j : Nat} (h : j < 3) (e : Nat) : q_al (30 + j) e = q_rlen j := by
  match j, h with
  | 0, _ => exact al_30 e
  | 1, _ => exact al_31 e
  | 2, _ => exact al_32 e
theorem row_ok {j e : Nat} (h : j < 3) (he : e < q_slen j) : q_ok (30 + j) e = true := by
  match j, h with
  | 0, _ => exact ok_30 he
  | 1, _ => exact ok_31 he
  | 2, _ => exact ok_32 he
theorem q_rep_spx {G : qG} {μ : qM} {q : Nat × Nat} (a b : Nat) (hm : (a, b) ∈ q_objs) (h : ¬ (a = 7 ∧ b = 0)) : q_rep G (q_sp μ q) a b = q_rep G μ a b := by
  refine q_rep_sp a b (fun h7 => ?_)
  subst h7
  have h1 : b < q_cn 7 := of_decide_eq_true (q_mem_ok hm)
  rw [cn_7] at h1
  exact h ⟨rfl, by omega⟩
section FR
variable {ρ : Type} {l : Launch} {G : qG} {M : qMd} {X : qX ρ} {pc : Nat} {lv : List (Nat × Value)} {st : List Value} {μ : qM} {r : Option (ρ × qM)}
theorem pf_X3_0 {idx o : Nat} {x : Int32} (d : decode M.2.2.2.1 pc = .ok (.putfield idx, 3)) (n : Nat) (hn : pc + 3 = n) (hw : Cond.fieldLink M.2.1 idx (TX3 0).1 (TX3 0).2.1 (TX3 0).2.2.1 ∈ q_tb) (hok : q_ok 3 o = true) (K : qAW l G M X n lv st (q_si μ 3 o 0 x) r) : qAW l G M X pc lv (.int x :: .ref (q_ad G 3 o) :: st) μ r :=
  aw_put d n hn hw (T := TX3) (f := 0) (N := 4) (μ2 := q_si μ 3 o 0 x) in_X3 tyX3_ok nmX3 at_3 hok rfl rfl (by decide) (Nat.le_of_ble_eq_true rfl) rfl rfl rfl rfl (by simp [q_fl, q_si]) (fun a b _ h => q_rep_si a b h) K
theorem pf_X3_1 {idx o : Nat} {x : Int32} (d : decode M.2.2.2.1 pc = .ok (.putfield idx, 3)) (n : Nat) (hn : pc + 3 = n) (hw : Cond.fieldLink M.2.1 idx (TX3 1).1 (TX3 1).2.1 (TX3 1).2.2.1 ∈ q_tb) (hok : q_ok 3 o = true) (K : qAW l G M X n lv st (q_si μ 3 o 1 x) r) : qAW l G M X pc lv (.int x :: .ref (q_ad G 3 o) :: st) μ r :=
  aw_put d n hn hw (T := TX3) (f := 1) (N := 4) (μ2 := q_si μ 3 o 1 x) in_X3 tyX3_ok nmX3 at_3 hok rfl rfl (by decide) (Nat.le_of_ble_eq_true rfl) rfl rfl rfl rfl (by simp [q_fl, q_si]) (fun a b _ h => q_rep_si a b h) K
theorem pf_X3_2 {idx o : Nat} {x : Int32} (d : decode M.2.2.2.1 pc = .ok (.putfield idx, 3)) (n : Nat) (hn : pc + 3 = n) (hw : Cond.fieldLink M.2.1 idx (TX3 2).1 (TX3 2).2.1 (TX3 2).2.2.1 ∈ q_tb) (hok : q_ok 3 o = true) (K : qAW l G M X n lv st (q_si μ 3 o 2 x) r) : qAW l G M X pc lv (.int x :: .ref (q_ad G 3 o) :: st) μ r :=
  aw_put d n hn hw (T := TX3) (f := 2) (N := 4) (μ2 := q_si μ 3 o 2 x) in_X3 tyX3_ok nmX3 at_3 hok rfl rfl (by decide) (Nat.le_of_ble_eq_true rfl) rfl rfl rfl rfl (by simp [q_fl, q_si]) (fun a b _ h => q_rep_si a b h) K
theorem pf_X3_3 {idx o : Nat} {x : Int32} (d : decode M.2.2.2.1 pc = .ok (.putfield idx, 3)) (n : Nat) (hn : pc + 3 = n) (hw : Cond.fieldLink M.2.1 idx (TX3 3).1 (TX3 3).2.1 (TX3 3).2.2.1 ∈ q_tb) (hok : q_ok 3 o = true) (K : qAW l G M X n lv st (q_si μ 3 o 3 x) r) : qAW l G M X pc lv (.int x :: .ref (q_ad G 3 o) :: st) μ r :=
  aw_put d n hn hw (T := TX3) (f := 3) (N := 4) (μ2 := q_si μ 3 o 3 x) in_X3 tyX3_ok nmX3 at_3 hok rfl rfl (by decide) (Nat.le_of_ble_eq_true rfl) rfl rfl rfl rfl (by simp [q_fl, q_si]) (fun a b _ h => q_rep_si a b h) K
theorem pf_X0_10 {idx o : Nat} {x : Int32} (d : decode M.2.2.2.1 pc = .ok (.putfield idx, 3)) (n : Nat) (hn : pc + 3 = n) (hw : Cond.fieldLink M.2.1 idx (TX0 10).1 (TX0 10).2.1 (TX0 10).2.2.1 ∈ q_tb) (hok : q_ok 2 o = true) (hb : q_b x = true) (K : qAW l G M X n lv st (q_si μ 2 o 10 x) r) : qAW l G M X pc lv (.int x :: .ref (q_ad G 2 o) :: st) μ r :=
  aw_put d n hn hw (T := TX0) (f := 10) (N := 19) (μ2 := q_si μ 2 o 10 x) in_X0 tyX0_ok nmX0 at_2 hok rfl rfl (by decide) (Nat.le_of_ble_eq_true rfl) rfl rfl (q_nb hb).1 (q_nb hb).2 (by simp [q_fl, q_si]) (fun a b _ h => q_rep_si a b h) K
theorem pf_X0_11 {idx o : Nat} {x : Int32} (d : decode M.2.2.2.1 pc = .ok (.putfield idx, 3)) (n : Nat) (hn : pc + 3 = n) (hw : Cond.fieldLink M.2.1 idx (TX0 11).1 (TX0 11).2.1 (TX0 11).2.2.1 ∈ q_tb) (hok : q_ok 2 o = true) (K : qAW l G M X n lv st (q_si μ 2 o 11 x) r) : qAW l G M X pc lv (.int x :: .ref (q_ad G 2 o) :: st) μ r :=
  aw_put d n hn hw (T := TX0) (f := 11) (N := 19) (μ2 := q_si μ 2 o 11 x) in_X0 tyX0_ok nmX0 at_2 hok rfl rfl (by decide) (Nat.le_of_ble_eq_true rfl) rfl rfl rfl rfl (by simp [q_fl, q_si]) (fun a b _ h => q_rep_si a b h) K
theorem pf_X0_12 {idx o : Nat} {x : Int32} (d : decode M.2.2.2.1 pc = .ok (.putfield idx, 3)) (n : Nat) (hn : pc + 3 = n) (hw : Cond.fieldLink M.2.1 idx (TX0 12).1 (TX0 12).2.1 (TX0 12).2.2.1 ∈ q_tb) (hok : q_ok 2 o = true) (K : qAW l G M X n lv st (q_si μ 2 o 12 x) r) : qAW l G M X pc lv (.int x :: .ref (q_ad G 2 o) :: st) μ r :=
  aw_put d n hn hw (T := TX0) (f := 12) (N := 19) (μ2 := q_si μ 2 o 12 x) in_X0 tyX0_ok nmX0 at_2 hok rfl rfl (by decide) (Nat.le_of_ble_eq_true rfl) rfl rfl rfl rfl (by simp [q_fl, q_si]) (fun a b _ h => q_rep_si a b h) K
theorem pf_X0_13 {idx o : Nat} {x : Int32} (d : decode M.2.2.2.1 pc = .ok (.putfield idx, 3)) (n : Nat) (hn : pc + 3 = n) (hw : Cond.fieldLink M.2.1 idx (TX0 13).1 (TX0 13).2.1 (TX0 13).2.2.1 ∈ q_tb) (hok : q_ok 2 o = true) (K : qAW l G M X n lv st (q_si μ 2 o 13 x) r) : qAW l G M X pc lv (.int x :: .ref (q_ad G 2 o) :: st) μ r :=
  aw_put d n hn hw (T := TX0) (f := 13) (N := 19) (μ2 := q_si μ 2 o 13 x) in_X0 tyX0_ok nmX0 at_2 hok rfl rfl (by decide) (Nat.le_of_ble_eq_true rfl) rfl rfl rfl rfl (by simp [q_fl, q_si]) (fun a b _ h => q_rep_si a b h) K
theorem pf_X0_14 {idx o : Nat} {x : Int32} (d : decode M.2.2.2.1 pc = .ok (.putfield idx, 3)) (n : Nat) (hn : pc + 3 = n) (hw : Cond.fieldLink M.2.1 idx (TX0 14).1 (TX0 14).2.1 (TX0 14).2.2.1 ∈ q_tb) (hok : q_ok 2 o = true) (K : qAW l G M X n lv st (q_si μ 2 o 14 x) r) : qAW l G M X pc lv (.int x :: .ref (q_ad G 2 o) :: st) μ r :=
  aw_put d n hn hw (T := TX0) (f := 14) (N := 19) (μ2 := q_si μ 2 o 14 x) in_X0 tyX0_ok nmX0 at_2 hok rfl rfl (by decide) (Nat.le_of_ble_eq_true rfl) rfl rfl rfl rfl (by simp [q_fl, q_si]) (fun a b _ h => q_rep_si a b h) K
theorem pf_X0_15 {idx o : Nat} {x : Int32} (d : decode M.2.2.2.1 pc = .ok (.putfield idx, 3)) (n : Nat) (hn : pc + 3 = n) (hw : Cond.fieldLink M.2.1 idx (TX0 15).1 (TX0 15).2.1 (TX0 15).2.2.1 ∈ q_tb) (hok : q_ok 2 o = true) (K : qAW l G M X n lv st (q_si μ 2 o 15 x) r) : qAW l G M X pc lv (.int x :: .ref (q_ad G 2 o) :: st) μ r :=
  aw_put d n hn hw (T := TX0) (f := 15) (N := 19) (μ2 := q_si μ 2 o 15 x) in_X0 tyX0_ok nmX0 at_2 hok rfl rfl (by decide) (Nat.le_of_ble_eq_true rfl) rfl rfl rfl rfl (by simp [q_fl, q_si]) (fun a b _ h => q_rep_si a b h) K
theorem pf_X0_16 {idx o : Nat} {x : Int32} (d : decode M.2.2.2.1 pc = .ok (.putfield idx, 3)) (n : Nat) (hn : pc + 3 = n) (hw : Cond.fieldLink M.2.1 idx (TX0 16).1 (TX0 16).2.1 (TX0 16).2.2.1 ∈ q_tb) (hok : q_ok 2 o = true) (K : qAW l G M X n lv st (q_si μ 2 o 16 x) r) : qAW l G M X pc lv (.int x :: .ref (q_ad G 2 o) :: st) μ r :=
  aw_put d n hn hw (T := TX0) (f := 16) (N := 19) (μ2 := q_si μ 2 o 16 x) in_X0 tyX0_ok nmX0 at_2 hok rfl rfl (by decide) (Nat.le_of_ble_eq_true rfl) rfl rfl rfl rfl (by simp [q_fl, q_si]) (fun a b _ h => q_rep_si a b h) K
theorem pf_X0_17 {idx o : Nat} {x : Int32} (d : decode M.2.2.2.1 pc = .ok (.putfield idx, 3)) (n : Nat) (hn : pc + 3 = n) (hw : Cond.fieldLink M.2.1 idx (TX0 17).1 (TX0 17).2.1 (TX0 17).2.2.1 ∈ q_tb) (hok : q_ok 2 o = true) (K : qAW l G M X n lv st (q_si μ 2 o 17 x) r) : qAW l G M X pc lv (.int x :: .ref (q_ad G 2 o) :: st) μ r :=
  aw_put d n hn hw (T := TX0) (f := 17) (N := 19) (μ2 := q_si μ 2 o 17 x) in_X0 tyX0_ok nmX0 at_2 hok rfl rfl (by decide) (Nat.le_of_ble_eq_true rfl) rfl rfl rfl rfl (by simp [q_fl, q_si]) (fun a b _ h => q_rep_si a b h) K
theorem pf_X0_18 {idx o : Nat} {x : Int32} (d : decode M.2.2.2.1 pc = .ok (.putfield idx, 3)) (n : Nat) (hn : pc + 3 = n) (hw : Cond.fieldLink M.2.1 idx (TX0 18).1 (TX0 18).2.1 (TX0 18).2.2.1 ∈ q_tb) (hok : q_ok 2 o = true) (K : qAW l G M X n lv st (q_si μ 2 o 18 x) r) : qAW l G M X pc lv (.int x :: .ref (q_ad G 2 o) :: st) μ r :=
  aw_put d n hn hw (T := TX0) (f := 18) (N := 19) (μ2 := q_si μ 2 o 18 x) in_X0 tyX0_ok nmX0 at_2 hok rfl rfl (by decide) (Nat.le_of_ble_eq_true rfl) rfl rfl rfl rfl (by simp [q_fl, q_si]) (fun a b _ h => q_rep_si a b h) K
theorem pf_X0_9 {idx o : Nat} {x : Int32} (d : decode M.2.2.2.1 pc = .ok (.putfield idx, 3)) (n : Nat) (hn : pc + 3 = n) (hw : Cond.fieldLink M.2.1 idx (TX0 9).1 (TX0 9).2.1 (TX0 9).2.2.1 ∈ q_tb) (hok : q_ok 2 o = true) (K : qAW l G M X n lv st (q_si μ 2 o 9 x) r) : qAW l G M X pc lv (.int x :: .ref (q_ad G 2 o) :: st) μ r :=
  aw_put d n hn hw (T := TX0) (f := 9) (N := 19) (μ2 := q_si μ 2 o 9 x) in_X0 tyX0_ok nmX0 at_2 hok rfl rfl (by decide) (Nat.le_of_ble_eq_true rfl) rfl rfl rfl rfl (by simp [q_fl, q_si]) (fun a b _ h => q_rep_si a b h) K
theorem gf_X0_6 {idx o : Nat} (d : decode M.2.2.2.1 pc = .ok (.getfield idx, 3)) (n : Nat) (hn : pc + 3 = n) (hw : Cond.fieldLink M.2.1 idx (TX0 6).1 (TX0 6).2.1 (TX0 6).2.2.1 ∈ q_tb) (hok : q_ok 2 o = true) (K : qAW l G M X n lv (.ref (q_ad G 4 o) :: st) μ r) : qAW l G M X pc lv (.ref (q_ad G 2 o) :: st) μ r :=
  aw_get d n hn hw (T := TX0) (f := 6) (N := 19) in_X0 at_2 hok rfl rfl (by decide) rfl K
theorem pfN_X5_2 {idx o : Nat} {x : Int32} (d : decode M.2.2.2.1 pc = .ok (.putfield idx, 3)) (n : Nat) (hn : pc + 3 = n) (host : String) (hw : (M.2.1, idx, (TX5 2).1, (TX5 2).2.1, (TX5 2).2.2.1, host) ∈ q_nsL) (hok : q_ok 4 o = true) (K : qAW l G M X n lv st (q_si μ 4 o 2 x) r) : qAW l G M X pc lv (.int x :: .ref (q_ad G 4 o) :: st) μ r :=
  aw_putN d n hn host hw (T := TX5) (f := 2) (N := 3) (μ2 := q_si μ 4 o 2 x) in_X5 tyX5_ok nmX5 at_4 hok rfl rfl (by decide) (Nat.le_of_ble_eq_true rfl) rfl rfl rfl rfl (by simp [q_fl, q_si]) (fun a b _ h => q_rep_si a b h) K
theorem gf_X0_5 {idx o : Nat} (d : decode M.2.2.2.1 pc = .ok (.getfield idx, 3)) (n : Nat) (hn : pc + 3 = n) (hw : Cond.fieldLink M.2.1 idx (TX0 5).1 (TX0 5).2.1 (TX0 5).2.2.1 ∈ q_tb) (hok : q_ok 2 o = true) (K : qAW l G M X n lv (.ref (q_ad G 3 o) :: st) μ r) : qAW l G M X pc lv (.ref (q_ad G 2 o) :: st) μ r :=
  aw_get d n hn hw (T := TX0) (f := 5) (N := 19) in_X0 at_2 hok rfl rfl (by decide) rfl K
theorem gf_X0_7 {idx o : Nat} (d : decode M.2.2.2.1 pc = .ok (.getfield idx, 3)) (n : Nat) (hn : pc + 3 = n) (hw : Cond.fieldLink M.2.1 idx (TX0 7).1 (TX0 7).2.1 (TX0 7).2.2.1 ∈ q_tb) (hok : q_ok 2 o = true) (K : qAW l G M X n lv (.ref (q_ad G 5 o) :: st) μ r) : qAW l G M X pc lv (.ref (q_ad G 2 o) :: st) μ r :=
  aw_get d n hn hw (T := TX0) (f := 7) (N := 19) in_X0 at_2 hok rfl rfl (by decide) rfl K
theorem pfN_X4_2 {idx o : Nat} {x : Int32} (d : decode M.2.2.2.1 pc = .ok (.putfield idx, 3)) (n : Nat) (hn : pc + 3 = n) (host : String) (hw : (M.2.1, idx, (TX4 2).1, (TX4 2).2.1, (TX4 2).2.2.1, host) ∈ q_nsL) (hok : q_ok 5 o = true) (K : qAW l G M X n lv st (q_si μ 5 o 2 x) r) : qAW l G M X pc lv (.int x :: .ref (q_ad G 5 o) :: st) μ r :=
  aw_putN d n hn host hw (T := TX4) (f := 2) (N := 5) (μ2 := q_si μ 5 o 2 x) in_X4 tyX4_ok nmX4 at_5 hok rfl rfl (by decide) (Nat.le_of_ble_eq_true rfl) rfl rfl rfl rfl (by simp [q_fl, q_si]) (fun a b _ h => q_rep_si a b h) K
theorem gf_X0_0 {idx o : Nat} (d : decode M.2.2.2.1 pc = .ok (.getfield idx, 3)) (n : Nat) (hn : pc + 3 = n) (hw : Cond.fieldLink M.2.1 idx (TX0 0).1 (TX0 0).2.1 (TX0 0).2.2.1 ∈ q_tb) (hok : q_ok 2 o = true) (K : qAW l G M X n lv (.ref (q_ad G 37 o) :: st) μ r) : qAW l G M X pc lv (.ref (q_ad G 2 o) :: st) μ r :=
  aw_get d n hn hw (T := TX0) (f := 0) (N := 19) in_X0 at_2 hok rfl rfl (by decide) rfl K
theorem gf_X0_1 {idx o : Nat} (d : decode M.2.2.2.1 pc = .ok (.getfield idx, 3)) (n : Nat) (hn : pc + 3 = n) (hw : Cond.fieldLink M.2.1 idx (TX0 1).1 (TX0 1).2.1 (TX0 1).2.2.1 ∈ q_tb) (hok : q_ok 2 o = true) (K : qAW l G M X n lv (.ref (q_ad G 38 o) :: st) μ r) : qAW l G M X pc lv (.ref (q_ad G 2 o) :: st) μ r :=
  aw_get d n hn hw (T := TX0) (f := 1) (N := 19) in_X0 at_2 hok rfl rfl (by decide) rfl K
theorem gf_X0_2 {idx o : Nat} (d : decode M.2.2.2.1 pc = .ok (.getfield idx, 3)) (n : Nat) (hn : pc + 3 = n) (hw : Cond.fieldLink M.2.1 idx (TX0 2).1 (TX0 2).2.1 (TX0 2).2.2.1 ∈ q_tb) (hok : q_ok 2 o = true) (K : qAW l G M X n lv (.ref (q_ad G 39 o) :: st) μ r) : qAW l G M X pc lv (.ref (q_ad G 2 o) :: st) μ r :=
  aw_get d n hn hw (T := TX0) (f := 2) (N := 19) in_X0 at_2 hok rfl rfl (by decide) rfl K
theorem gf_X0_3 {idx o : Nat} (d : decode M.2.2.2.1 pc = .ok (.getfield idx, 3)) (n : Nat) (hn : pc + 3 = n) (hw : Cond.fieldLink M.2.1 idx (TX0 3).1 (TX0 3).2.1 (TX0 3).2.2.1 ∈ q_tb) (hok : q_ok 2 o = true) (K : qAW l G M X n lv (.ref (q_ad G 40 o) :: st) μ r) : qAW l G M X pc lv (.ref (q_ad G 2 o) :: st) μ r :=
  aw_get d n hn hw (T := TX0) (f := 3) (N := 19) in_X0 at_2 hok rfl rfl (by decide) rfl K
theorem gf_X0_4 {idx o : Nat} (d : decode M.2.2.2.1 pc = .ok (.getfield idx, 3)) (n : Nat) (hn : pc + 3 = n) (hw : Cond.fieldLink M.2.1 idx (TX0 4).1 (TX0 4).2.1 (TX0 4).2.2.1 ∈ q_tb) (hok : q_ok 2 o = true) (K : qAW l G M X n lv (.ref (q_ad G 41 o) :: st) μ r) : qAW l G M X pc lv (.ref (q_ad G 2 o) :: st) μ r :=
  aw_get d n hn hw (T := TX0) (f := 4) (N := 19) in_X0 at_2 hok rfl rfl (by decide) rfl K
theorem gf_X3_0 {idx o : Nat} (d : decode M.2.2.2.1 pc = .ok (.getfield idx, 3)) (n : Nat) (hn : pc + 3 = n) (hw : Cond.fieldLink M.2.1 idx (TX3 0).1 (TX3 0).2.1 (TX3 0).2.2.1 ∈ q_tb) (hok : q_ok 3 o = true) (K : qAW l G M X n lv (.int (μ.1 3 o 0) :: st) μ r) : qAW l G M X pc lv (.ref (q_ad G 3 o) :: st) μ r :=
  aw_get d n hn hw (T := TX3) (f := 0) (N := 4) in_X3 at_3 hok rfl rfl (by decide) rfl K
theorem gf_X3_1 {idx o : Nat} (d : decode M.2.2.2.1 pc = .ok (.getfield idx, 3)) (n : Nat) (hn : pc + 3 = n) (hw : Cond.fieldLink M.2.1 idx (TX3 1).1 (TX3 1).2.1 (TX3 1).2.2.1 ∈ q_tb) (hok : q_ok 3 o = true) (K : qAW l G M X n lv (.int (μ.1 3 o 1) :: st) μ r) : qAW l G M X pc lv (.ref (q_ad G 3 o) :: st) μ r :=
  aw_get d n hn hw (T := TX3) (f := 1) (N := 4) in_X3 at_3 hok rfl rfl (by decide) rfl K
theorem gf_X3_2 {idx o : Nat} (d : decode M.2.2.2.1 pc = .ok (.getfield idx, 3)) (n : Nat) (hn : pc + 3 = n) (hw : Cond.fieldLink M.2.1 idx (TX3 2).1 (TX3 2).2.1 (TX3 2).2.2.1 ∈ q_tb) (hok : q_ok 3 o = true) (K : qAW l G M X n lv (.int (μ.1 3 o 2) :: st) μ r) : qAW l G M X pc lv (.ref (q_ad G 3 o) :: st) μ r :=
  aw_get d n hn hw (T := TX3) (f := 2) (N := 4) in_X3 at_3 hok rfl rfl (by decide) rfl K
theorem gf_X3_3 {idx o : Nat} (d : decode M.2.2.2.1 pc = .ok (.getfield idx, 3)) (n : Nat) (hn : pc + 3 = n) (hw : Cond.fieldLink M.2.1 idx (TX3 3).1 (TX3 3).2.1 (TX3 3).2.2.1 ∈ q_tb) (hok : q_ok 3 o = true) (K : qAW l G M X n lv (.int (μ.1 3 o 3) :: st) μ r) : qAW l G M X pc lv (.ref (q_ad G 3 o) :: st) μ r :=
  aw_get d n hn hw (T := TX3) (f := 3) (N := 4) in_X3 at_3 hok rfl rfl (by decide) rfl K
theorem gf_X5_2 {idx o : Nat} (d : decode M.2.2.2.1 pc = .ok (.getfield idx, 3)) (n : Nat) (hn : pc + 3 = n) (hw : Cond.fieldLink M.2.1 idx (TX5 2).1 (TX5 2).2.1 (TX5 2).2.2.1 ∈ q_tb) (hok : q_ok 4 o = true) (K : qAW l G M X n lv (.int (μ.1 4 o 2) :: st) μ r) : qAW l G M X pc lv (.ref (q_ad G 4 o) :: st) μ r :=
  aw_get d n hn hw (T := TX5) (f := 2) (N := 3) in_X5 at_4 hok rfl rfl (by decide) rfl K
theorem pf_X5_2 {idx o : Nat} {x : Int32} (d : decode M.2.2.2.1 pc = .ok (.putfield idx, 3)) (n : Nat) (hn : pc + 3 = n) (hw : Cond.fieldLink M.2.1 idx (TX5 2).1 (TX5 2).2.1 (TX5 2).2.2.1 ∈ q_tb) (hok : q_ok 4 o = true) (K : qAW l G M X n lv st (q_si μ 4 o 2 x) r) : qAW l G M X pc lv (.int x :: .ref (q_ad G 4 o) :: st) μ r :=
  aw_put d n hn hw (T := TX5) (f := 2) (N := 3) (μ2 := q_si μ 4 o 2 x) in_X5 tyX5_ok nmX5 at_4 hok rfl rfl (by decide) (Nat.le_of_ble_eq_true rfl) rfl rfl rfl rfl (by simp [q_fl, q_si]) (fun a b _ h => q_rep_si a b h) K
theorem gf_X5_0 {idx o : Nat} (d : decode M.2.2.2.1 pc = .ok (.getfield idx, 3)) (n : Nat) (hn : pc + 3 = n) (hw : Cond.fieldLink M.2.1 idx (TX5 0).1 (TX5 0).2.1 (TX5 0).2.2.1 ∈ q_tb) (hok : q_ok 4 o = true) (K : qAW l G M X n lv (.ref (q_ad G 43 o) :: st) μ r) : qAW l G M X pc lv (.ref (q_ad G 4 o) :: st) μ r :=
  aw_get d n hn hw (T := TX5) (f := 0) (N := 3) in_X5 at_4 hok rfl rfl (by decide) rfl K
theorem gf_X5_1 {idx o : Nat} (d : decode M.2.2.2.1 pc = .ok (.getfield idx, 3)) (n : Nat) (hn : pc + 3 = n) (hw : Cond.fieldLink M.2.1 idx (TX5 1).1 (TX5 1).2.1 (TX5 1).2.2.1 ∈ q_tb) (hok : q_ok 4 o = true) (K : qAW l G M X n lv (.ref (q_ad G 44 o) :: st) μ r) : qAW l G M X pc lv (.ref (q_ad G 4 o) :: st) μ r :=
  aw_get d n hn hw (T := TX5) (f := 1) (N := 3) in_X5 at_4 hok rfl rfl (by decide) rfl K
theorem gf_X0_10 {idx o : Nat} (d : decode M.2.2.2.1 pc = .ok (.getfield idx, 3)) (n : Nat) (hn : pc + 3 = n) (hw : Cond.fieldLink M.2.1 idx (TX0 10).1 (TX0 10).2.1 (TX0 10).2.2.1 ∈ q_tb) (hok : q_ok 2 o = true) (K : qAW l G M X n lv (.int (μ.1 2 o 10) :: st) μ r) : qAW l G M X pc lv (.ref (q_ad G 2 o) :: st) μ r :=
  aw_get d n hn hw (T := TX0) (f := 10) (N := 19) in_X0 at_2 hok rfl rfl (by decide) rfl K
theorem gf_X0_11 {idx o : Nat} (d : decode M.2.2.2.1 pc = .ok (.getfield idx, 3)) (n : Nat) (hn : pc + 3 = n) (hw : Cond.fieldLink M.2.1 idx (TX0 11).1 (TX0 11).2.1 (TX0 11).2.2.1 ∈ q_tb) (hok : q_ok 2 o = true) (K : qAW l G M X n lv (.int (μ.1 2 o 11) :: st) μ r) : qAW l G M X pc lv (.ref (q_ad G 2 o) :: st) μ r :=
  aw_get d n hn hw (T := TX0) (f := 11) (N := 19) in_X0 at_2 hok rfl rfl (by decide) rfl K
theorem gf_X0_12 {idx o : Nat} (d : decode M.2.2.2.1 pc = .ok (.getfield idx, 3)) (n : Nat) (hn : pc + 3 = n) (hw : Cond.fieldLink M.2.1 idx (TX0 12).1 (TX0 12).2.1 (TX0 12).2.2.1 ∈ q_tb) (hok : q_ok 2 o = true) (K : qAW l G M X n lv (.int (μ.1 2 o 12) :: st) μ r) : qAW l G M X pc lv (.ref (q_ad G 2 o) :: st) μ r :=
  aw_get d n hn hw (T := TX0) (f := 12) (N := 19) in_X0 at_2 hok rfl rfl (by decide) rfl K
theorem gf_X0_13 {idx o : Nat} (d : decode M.2.2.2.1 pc = .ok (.getfield idx, 3)) (n : Nat) (hn : pc + 3 = n) (hw : Cond.fieldLink M.2.1 idx (TX0 13).1 (TX0 13).2.1 (TX0 13).2.2.1 ∈ q_tb) (hok : q_ok 2 o = true) (K : qAW l G M X n lv (.int (μ.1 2 o 13) :: st) μ r) : qAW l G M X pc lv (.ref (q_ad G 2 o) :: st) μ r :=
  aw_get d n hn hw (T := TX0) (f := 13) (N := 19) in_X0 at_2 hok rfl rfl (by decide) rfl K
theorem gf_X0_14 {idx o : Nat} (d : decode M.2.2.2.1 pc = .ok (.getfield idx, 3)) (n : Nat) (hn : pc + 3 = n) (hw : Cond.fieldLink M.2.1 idx (TX0 14).1 (TX0 14).2.1 (TX0 14).2.2.1 ∈ q_tb) (hok : q_ok 2 o = true) (K : qAW l G M X n lv (.int (μ.1 2 o 14) :: st) μ r) : qAW l G M X pc lv (.ref (q_ad G 2 o) :: st) μ r :=
  aw_get d n hn hw (T := TX0) (f := 14) (N := 19) in_X0 at_2 hok rfl rfl (by decide) rfl K
theorem gf_X0_15 {idx o : Nat} (d : decode M.2.2.2.1 pc = .ok (.getfield idx, 3)) (n : Nat) (hn : pc + 3 = n) (hw : Cond.fieldLink M.2.1 idx (TX0 15).1 (TX0 15).2.1 (TX0 15).2.2.1 ∈ q_tb) (hok : q_ok 2 o = true) (K : qAW l G M X n lv (.int (μ.1 2 o 15) :: st) μ r) : qAW l G M X pc lv (.ref (q_ad G 2 o) :: st) μ r :=
  aw_get d n hn hw (T := TX0) (f := 15) (N := 19) in_X0 at_2 hok rfl rfl (by decide) rfl K
theorem gf_X0_16 {idx o : Nat} (d : decode M.2.2.2.1 pc = .ok (.getfield idx, 3)) (n : Nat) (hn : pc + 3 = n) (hw : Cond.fieldLink M.2.1 idx (TX0 16).1 (TX0 16).2.1 (TX0 16).2.2.1 ∈ q_tb) (hok : q_ok 2 o = true) (K : qAW l G M X n lv (.int (μ.1 2 o 16) :: st) μ r) : qAW l G M X pc lv (.ref (q_ad G 2 o) :: st) μ r :=
  aw_get d n hn hw (T := TX0) (f := 16) (N := 19) in_X0 at_2 hok rfl rfl (by decide) rfl K
theorem gf_X0_17 {idx o : Nat} (d : decode M.2.2.2.1 pc = .ok (.getfield idx, 3)) (n : Nat) (hn : pc + 3 = n) (hw : Cond.fieldLink M.2.1 idx (TX0 17).1 (TX0 17).2.1 (TX0 17).2.2.1 ∈ q_tb) (hok : q_ok 2 o = true) (K : qAW l G M X n lv (.int (μ.1 2 o 17) :: st) μ r) : qAW l G M X pc lv (.ref (q_ad G 2 o) :: st) μ r :=
  aw_get d n hn hw (T := TX0) (f := 17) (N := 19) in_X0 at_2 hok rfl rfl (by decide) rfl K
theorem gf_X0_18 {idx o : Nat} (d : decode M.2.2.2.1 pc = .ok (.getfield idx, 3)) (n : Nat) (hn : pc + 3 = n) (hw : Cond.fieldLink M.2.1 idx (TX0 18).1 (TX0 18).2.1 (TX0 18).2.2.1 ∈ q_tb) (hok : q_ok 2 o = true) (K : qAW l G M X n lv (.int (μ.1 2 o 18) :: st) μ r) : qAW l G M X pc lv (.ref (q_ad G 2 o) :: st) μ r :=
  aw_get d n hn hw (T := TX0) (f := 18) (N := 19) in_X0 at_2 hok rfl rfl (by decide) rfl K
theorem gf_X0_9 {idx o : Nat} (d : decode M.2.2.2.1 pc = .ok (.getfield idx, 3)) (n : Nat) (hn : pc + 3 = n) (hw : Cond.fieldLink M.2.1 idx (TX0 9).1 (TX0 9).2.1 (TX0 9).2.2.1 ∈ q_tb) (hok : q_ok 2 o = true) (K : qAW l G M X n lv (.int (μ.1 2 o 9) :: st) μ r) : qAW l G M X pc lv (.ref (q_ad G 2 o) :: st) μ r :=
  aw_get d n hn hw (T := TX0) (f := 9) (N := 19) in_X0 at_2 hok rfl rfl (by decide) rfl K
theorem gf_X0_8 {idx o : Nat} (d : decode M.2.2.2.1 pc = .ok (.getfield idx, 3)) (n : Nat) (hn : pc + 3 = n) (hw : Cond.fieldLink M.2.1 idx (TX0 8).1 (TX0 8).2.1 (TX0 8).2.2.1 ∈ q_tb) (hok : q_ok 2 o = true) (K : qAW l G M X n lv (.ref (q_ad G 42 o) :: st) μ r) : qAW l G M X pc lv (.ref (q_ad G 2 o) :: st) μ r :=
  aw_get d n hn hw (T := TX0) (f := 8) (N := 19) in_X0 at_2 hok rfl rfl (by decide) rfl K
theorem gf_X7_1 {idx o : Nat} (d : decode M.2.2.2.1 pc = .ok (.getfield idx, 3)) (n : Nat) (hn : pc + 3 = n) (hw : Cond.fieldLink M.2.1 idx (TX7 1).1 (TX7 1).2.1 (TX7 1).2.2.1 ∈ q_tb) (hok : q_ok 1 o = true) (K : qAW l G M X n lv (.ref (q_ad G 33 o) :: st) μ r) : qAW l G M X pc lv (.ref (q_ad G 1 o) :: st) μ r :=
  aw_get d n hn hw (T := TX7) (f := 1) (N := 2) in_X7 at_1 hok rfl rfl (by decide) rfl K
theorem gfN_X7_1 {idx o : Nat} (d : decode M.2.2.2.1 pc = .ok (.getfield idx, 3)) (n : Nat) (hn : pc + 3 = n) (host : String) (hw : (M.2.1, idx, (TX7 1).1, (TX7 1).2.1, (TX7 1).2.2.1, host) ∈ q_nsL) (hok : q_ok 1 o = true) (K : qAW l G M X n lv (.ref (q_ad G 33 o) :: st) μ r) : qAW l G M X pc lv (.ref (q_ad G 1 o) :: st) μ r :=
  aw_getN d n hn host hw (T := TX7) (f := 1) (N := 2) in_X7 at_1 hok rfl rfl (by decide) rfl K
theorem gfN_X7_0 {idx o : Nat} (d : decode M.2.2.2.1 pc = .ok (.getfield idx, 3)) (n : Nat) (hn : pc + 3 = n) (host : String) (hw : (M.2.1, idx, (TX7 0).1, (TX7 0).2.1, (TX7 0).2.2.1, host) ∈ q_nsL) (hok : q_ok 1 o = true) (K : qAW l G M X n lv (.ref (q_ad G 20 o) :: st) μ r) : qAW l G M X pc lv (.ref (q_ad G 1 o) :: st) μ r :=
  aw_getN d n hn host hw (T := TX7) (f := 0) (N := 2) in_X7 at_1 hok rfl rfl (by decide) rfl K
theorem gfN_X3_2 {idx o : Nat} (d : decode M.2.2.2.1 pc = .ok (.getfield idx, 3)) (n : Nat) (hn : pc + 3 = n) (host : String) (hw : (M.2.1, idx, (TX3 2).1, (TX3 2).2.1, (TX3 2).2.2.1, host) ∈ q_nsL) (hok : q_ok 3 o = true) (K : qAW l G M X n lv (.int (μ.1 3 o 2) :: st) μ r) : qAW l G M X pc lv (.ref (q_ad G 3 o) :: st) μ r :=
  aw_getN d n hn host hw (T := TX3) (f := 2) (N := 4) in_X3 at_3 hok rfl rfl (by decide) rfl K
theorem gfN_X3_3 {idx o : Nat} (d : decode M.2.2.2.1 pc = .ok (.getfield idx, 3)) (n : Nat) (hn : pc + 3 = n) (host : String) (hw : (M.2.1, idx, (TX3 3).1, (TX3 3).2.1, (TX3 3).2.2.1, host) ∈ q_nsL) (hok : q_ok 3 o = true) (K : qAW l G M X n lv (.int (μ.1 3 o 3) :: st) μ r) : qAW l G M X pc lv (.ref (q_ad G 3 o) :: st) μ r :=
  aw_getN d n hn host hw (T := TX3) (f := 3) (N := 4) in_X3 at_3 hok rfl rfl (by decide) rfl K
theorem gfN_X4_1 {idx o : Nat} (d : decode M.2.2.2.1 pc = .ok (.getfield idx, 3)) (n : Nat) (hn : pc + 3 = n) (host : String) (hw : (M.2.1, idx, (TX4 1).1, (TX4 1).2.1, (TX4 1).2.2.1, host) ∈ q_nsL) (hok : q_ok 5 o = true) (K : qAW l G M X n lv (.ref (q_ad G 46 o) :: st) μ r) : qAW l G M X pc lv (.ref (q_ad G 5 o) :: st) μ r :=
  aw_getN d n hn host hw (T := TX4) (f := 1) (N := 5) in_X4 at_5 hok rfl rfl (by decide) rfl K
theorem pfN_X3_2 {idx o : Nat} {x : Int32} (d : decode M.2.2.2.1 pc = .ok (.putfield idx, 3)) (n : Nat) (hn : pc + 3 = n) (host : String) (hw : (M.2.1, idx, (TX3 2).1, (TX3 2).2.1, (TX3 2).2.2.1, host) ∈ q_nsL) (hok : q_ok 3 o = true) (K : qAW l G M X n lv st (q_si μ 3 o 2 x) r) : qAW l G M X pc lv (.int x :: .ref (q_ad G 3 o) :: st) μ r :=
  aw_putN d n hn host hw (T := TX3) (f := 2) (N := 4) (μ2 := q_si μ 3 o 2 x) in_X3 tyX3_ok nmX3 at_3 hok rfl rfl (by decide) (Nat.le_of_ble_eq_true rfl) rfl rfl rfl rfl (by simp [q_fl, q_si]) (fun a b _ h => q_rep_si a b h) K
theorem gfN_X5_2 {idx o : Nat} (d : decode M.2.2.2.1 pc = .ok (.getfield idx, 3)) (n : Nat) (hn : pc + 3 = n) (host : String) (hw : (M.2.1, idx, (TX5 2).1, (TX5 2).2.1, (TX5 2).2.2.1, host) ∈ q_nsL) (hok : q_ok 4 o = true) (K : qAW l G M X n lv (.int (μ.1 4 o 2) :: st) μ r) : qAW l G M X pc lv (.ref (q_ad G 4 o) :: st) μ r :=
  aw_getN d n hn host hw (T := TX5) (f := 2) (N := 3) in_X5 at_4 hok rfl rfl (by decide) rfl K
theorem gfN_X5_0 {idx o : Nat} (d : decode M.2.2.2.1 pc = .ok (.getfield idx, 3)) (n : Nat) (hn : pc + 3 = n) (host : String) (hw : (M.2.1, idx, (TX5 0).1, (TX5 0).2.1, (TX5 0).2.2.1, host) ∈ q_nsL) (hok : q_ok 4 o = true) (K : qAW l G M X n lv (.ref (q_ad G 43 o) :: st) μ r) : qAW l G M X pc lv (.ref (q_ad G 4 o) :: st) μ r :=
  aw_getN d n hn host hw (T := TX5) (f := 0) (N := 3) in_X5 at_4 hok rfl rfl (by decide) rfl K
theorem gfN_X4_4 {idx o : Nat} (d : decode M.2.2.2.1 pc = .ok (.getfield idx, 3)) (n : Nat) (hn : pc + 3 = n) (host : String) (hw : (M.2.1, idx, (TX4 4).1, (TX4 4).2.1, (TX4 4).2.2.1, host) ∈ q_nsL) (hok : q_ok 5 o = true) (K : qAW l G M X n lv (.int (μ.1 5 o 4) :: st) μ r) : qAW l G M X pc lv (.ref (q_ad G 5 o) :: st) μ r :=
  aw_getN d n hn host hw (T := TX4) (f := 4) (N := 5) in_X4 at_5 hok rfl rfl (by decide) rfl K
theorem gfN_X4_3 {idx o : Nat} (d : decode M.2.2.2.1 pc = .ok (.getfield idx, 3)) (n : Nat) (hn : pc + 3 = n) (host : String) (hw : (M.2.1, idx, (TX4 3).1, (TX4 3).2.1, (TX4 3).2.2.1, host) ∈ q_nsL) (hok : q_ok 5 o = true) (K : qAW l G M X n lv (.int (μ.1 5 o 3) :: st) μ r) : qAW l G M X pc lv (.ref (q_ad G 5 o) :: st) μ r :=
  aw_getN d n hn host hw (T := TX4) (f := 3) (N := 5) in_X4 at_5 hok rfl rfl (by decide) rfl K
theorem gfN_X4_0 {idx o : Nat} (d : decode M.2.2.2.1 pc = .ok (.getfield idx, 3)) (n : Nat) (hn : pc + 3 = n) (host : String) (hw : (M.2.1, idx, (TX4 0).1, (TX4 0).2.1, (TX4 0).2.2.1, host) ∈ q_nsL) (hok : q_ok 5 o = true) (K : qAW l G M X n lv (.ref (q_ad G 45 o) :: st) μ r) : qAW l G M X pc lv (.ref (q_ad G 5 o) :: st) μ r :=
  aw_getN d n hn host hw (T := TX4) (f := 0) (N := 5) in_X4 at_5 hok rfl rfl (by decide) rfl K
theorem gfN_X0_3 {idx o : Nat} (d : decode M.2.2.2.1 pc = .ok (.getfield idx, 3)) (n : Nat) (hn : pc + 3 = n) (host : String) (hw : (M.2.1, idx, (TX0 3).1, (TX0 3).2.1, (TX0 3).2.2.1, host) ∈ q_nsL) (hok : q_ok 2 o = true) (K : qAW l G M X n lv (.ref (q_ad G 40 o) :: st) μ r) : qAW l G M X pc lv (.ref (q_ad G 2 o) :: st) μ r :=
  aw_getN d n hn host hw (T := TX0) (f := 3) (N := 19) in_X0 at_2 hok rfl rfl (by decide) rfl K
theorem gf_X1_1 {idx o : Nat} (d : decode M.2.2.2.1 pc = .ok (.getfield idx, 3)) (n : Nat) (hn : pc + 3 = n) (hw : Cond.fieldLink M.2.1 idx (TX1 1).1 (TX1 1).2.1 (TX1 1).2.2.1 ∈ q_tb) (hok : q_ok 8 o = true) (K : qAW l G M X n lv (.int (μ.1 8 o 1) :: st) μ r) : qAW l G M X pc lv (.ref (q_ad G 8 o) :: st) μ r :=
  aw_get d n hn hw (T := TX1) (f := 1) (N := 3) in_X1 at_8 hok rfl rfl (by decide) rfl K
theorem gf_X1_2 {idx o : Nat} (d : decode M.2.2.2.1 pc = .ok (.getfield idx, 3)) (n : Nat) (hn : pc + 3 = n) (hw : Cond.fieldLink M.2.1 idx (TX1 2).1 (TX1 2).2.1 (TX1 2).2.2.1 ∈ q_tb) (hok : q_ok 8 o = true) (K : qAW l G M X n lv (.int (μ.1 8 o 2) :: st) μ r) : qAW l G M X pc lv (.ref (q_ad G 8 o) :: st) μ r :=
  aw_get d n hn hw (T := TX1) (f := 2) (N := 3) in_X1 at_8 hok rfl rfl (by decide) rfl K
theorem gfN_X0_12 {idx o : Nat} (d : decode M.2.2.2.1 pc = .ok (.getfield idx, 3)) (n : Nat) (hn : pc + 3 = n) (host : String) (hw : (M.2.1, idx, (TX0 12).1, (TX0 12).2.1, (TX0 12).2.2.1, host) ∈ q_nsL) (hok : q_ok 2 o = true) (K : qAW l G M X n lv (.int (μ.1 2 o 12) :: st) μ r) : qAW l G M X pc lv (.ref (q_ad G 2 o) :: st) μ r :=
  aw_getN d n hn host hw (T := TX0) (f := 12) (N := 19) in_X0 at_2 hok rfl rfl (by decide) rfl K
theorem pf_X1_1 {idx o : Nat} {x : Int32} (d : decode M.2.2.2.1 pc = .ok (.putfield idx, 3)) (n : Nat) (hn : pc + 3 = n) (hw : Cond.fieldLink M.2.1 idx (TX1 1).1 (TX1 1).2.1 (TX1 1).2.2.1 ∈ q_tb) (hok : q_ok 8 o = true) (K : qAW l G M X n lv st (q_si μ 8 o 1 x) r) : qAW l G M X pc lv (.int x :: .ref (q_ad G 8 o) :: st) μ r :=
  aw_put d n hn hw (T := TX1) (f := 1) (N := 3) (μ2 := q_si μ 8 o 1 x) in_X1 tyX1_ok nmX1 at_8 hok rfl rfl (by decide) (Nat.le_of_ble_eq_true rfl) rfl rfl rfl rfl (by simp [q_fl, q_si]) (fun a b _ h => q_rep_si a b h) K
theorem gf_X2_4 {idx o : Nat} (d : decode M.2.2.2.1 pc = .ok (.getfield idx, 3)) (n : Nat) (hn : pc + 3 = n) (hw : Cond.fieldLink M.2.1 idx (TX2 4).1 (TX2 4).2.1 (TX2 4).2.2.1 ∈ q_tb) (hok : q_ok 9 o = true) (K : qAW l G M X n lv (.int (μ.1 9 o 4) :: st) μ r) : qAW l G M X pc lv (.ref (q_ad G 9 o) :: st) μ r :=
  aw_get d n hn hw (T := TX2) (f := 4) (N := 6) in_X2 at_9 hok rfl rfl (by decide) rfl K
theorem gf_X2_5 {idx o : Nat} (d : decode M.2.2.2.1 pc = .ok (.getfield idx, 3)) (n : Nat) (hn : pc + 3 = n) (hw : Cond.fieldLink M.2.1 idx (TX2 5).1 (TX2 5).2.1 (TX2 5).2.2.1 ∈ q_tb) (hok : q_ok 9 o = true) (K : qAW l G M X n lv (.int (μ.1 9 o 5) :: st) μ r) : qAW l G M X pc lv (.ref (q_ad G 9 o) :: st) μ r :=
  aw_get d n hn hw (T := TX2) (f := 5) (N := 6) in_X2 at_9 hok rfl rfl (by decide) rfl K
theorem gf_X2_0 {idx o : Nat} (d : decode M.2.2.2.1 pc = .ok (.getfield idx, 3)) (n : Nat) (hn : pc + 3 = n) (hw : Cond.fieldLink M.2.1 idx (TX2 0).1 (TX2 0).2.1 (TX2 0).2.2.1 ∈ q_tb) (hok : q_ok 9 o = true) (K : qAW l G M X n lv (.ref (q_ad G 52 o) :: st) μ r) : qAW l G M X pc lv (.ref (q_ad G 9 o) :: st) μ r :=
  aw_get d n hn hw (T := TX2) (f := 0) (N := 6) in_X2 at_9 hok rfl rfl (by decide) rfl K
theorem gf_X2_1 {idx o : Nat} (d : decode M.2.2.2.1 pc = .ok (.getfield idx, 3)) (n : Nat) (hn : pc + 3 = n) (hw : Cond.fieldLink M.2.1 idx (TX2 1).1 (TX2 1).2.1 (TX2 1).2.2.1 ∈ q_tb) (hok : q_ok 9 o = true) (K : qAW l G M X n lv (.ref (q_ad G 53 o) :: st) μ r) : qAW l G M X pc lv (.ref (q_ad G 9 o) :: st) μ r :=
  aw_get d n hn hw (T := TX2) (f := 1) (N := 6) in_X2 at_9 hok rfl rfl (by decide) rfl K
theorem pf_X2_4 {idx o : Nat} {x : Int32} (d : decode M.2.2.2.1 pc = .ok (.putfield idx, 3)) (n : Nat) (hn : pc + 3 = n) (hw : Cond.fieldLink M.2.1 idx (TX2 4).1 (TX2 4).2.1 (TX2 4).2.2.1 ∈ q_tb) (hok : q_ok 9 o = true) (K : qAW l G M X n lv st (q_si μ 9 o 4 x) r) : qAW l G M X pc lv (.int x :: .ref (q_ad G 9 o) :: st) μ r :=
  aw_put d n hn hw (T := TX2) (f := 4) (N := 6) (μ2 := q_si μ 9 o 4 x) in_X2 tyX2_ok nmX2 at_9 hok rfl rfl (by decide) (Nat.le_of_ble_eq_true rfl) rfl rfl rfl rfl (by simp [q_fl, q_si]) (fun a b _ h => q_rep_si a b h) K
theorem pf_X2_5 {idx o : Nat} {x : Int32} (d : decode M.2.2.2.1 pc = .ok (.putfield idx, 3)) (n : Nat) (hn : pc + 3 = n) (hw : Cond.fieldLink M.2.1 idx (TX2 5).1 (TX2 5).2.1 (TX2 5).2.2.1 ∈ q_tb) (hok : q_ok 9 o = true) (K : qAW l G M X n lv st (q_si μ 9 o 5 x) r) : qAW l G M X pc lv (.int x :: .ref (q_ad G 9 o) :: st) μ r :=
  aw_put d n hn hw (T := TX2) (f := 5) (N := 6) (μ2 := q_si μ 9 o 5 x) in_X2 tyX2_ok nmX2 at_9 hok rfl rfl (by decide) (Nat.le_of_ble_eq_true rfl) rfl rfl rfl rfl (by simp [q_fl, q_si]) (fun a b _ h => q_rep_si a b h) K
theorem gf_X7_0 {idx o : Nat} (d : decode M.2.2.2.1 pc = .ok (.getfield idx, 3)) (n : Nat) (hn : pc + 3 = n) (hw : Cond.fieldLink M.2.1 idx (TX7 0).1 (TX7 0).2.1 (TX7 0).2.2.1 ∈ q_tb) (hok : q_ok 1 o = true) (K : qAW l G M X n lv (.ref (q_ad G 20 o) :: st) μ r) : qAW l G M X pc lv (.ref (q_ad G 1 o) :: st) μ r :=
  aw_get d n hn hw (T := TX7) (f := 0) (N := 2) in_X7 at_1 hok rfl rfl (by decide) rfl K
theorem gfN_X0_6 {idx o : Nat} (d : decode M.2.2.2.1 pc = .ok (.getfield idx, 3)) (n : Nat) (hn : pc + 3 = n) (host : String) (hw : (M.2.1, idx, (TX0 6).1, (TX0 6).2.1, (TX0 6).2.2.1, host) ∈ q_nsL) (hok : q_ok 2 o = true) (K : qAW l G M X n lv (.ref (q_ad G 4 o) :: st) μ r) : qAW l G M X pc lv (.ref (q_ad G 2 o) :: st) μ r :=
  aw_getN d n hn host hw (T := TX0) (f := 6) (N := 19) in_X0 at_2 hok rfl rfl (by decide) rfl K
theorem gf_X8_2 {idx o : Nat} (d : decode M.2.2.2.1 pc = .ok (.getfield idx, 3)) (n : Nat) (hn : pc + 3 = n) (hw : Cond.fieldLink M.2.1 idx (TX8 2).1 (TX8 2).2.1 (TX8 2).2.2.1 ∈ q_tb) (hok : q_ok 6 o = true) (K : qAW l G M X n lv (.ref (q_ad G 49 0) :: st) μ r) : qAW l G M X pc lv (.ref (q_ad G 6 o) :: st) μ r :=
  aw_get d n hn hw (T := TX8) (f := 2) (N := 4) in_X8 at_6 hok rfl rfl (by decide) rfl K
theorem gfN_X5_1 {idx o : Nat} (d : decode M.2.2.2.1 pc = .ok (.getfield idx, 3)) (n : Nat) (hn : pc + 3 = n) (host : String) (hw : (M.2.1, idx, (TX5 1).1, (TX5 1).2.1, (TX5 1).2.2.1, host) ∈ q_nsL) (hok : q_ok 4 o = true) (K : qAW l G M X n lv (.ref (q_ad G 44 o) :: st) μ r) : qAW l G M X pc lv (.ref (q_ad G 4 o) :: st) μ r :=
  aw_getN d n hn host hw (T := TX5) (f := 1) (N := 3) in_X5 at_4 hok rfl rfl (by decide) rfl K
theorem gf_X8_0 {idx o : Nat} (d : decode M.2.2.2.1 pc = .ok (.getfield idx, 3)) (n : Nat) (hn : pc + 3 = n) (hw : Cond.fieldLink M.2.1 idx (TX8 0).1 (TX8 0).2.1 (TX8 0).2.2.1 ∈ q_tb) (hok : q_ok 6 o = true) (K : qAW l G M X n lv (.ref (q_ad G 47 0) :: st) μ r) : qAW l G M X pc lv (.ref (q_ad G 6 o) :: st) μ r :=
  aw_get d n hn hw (T := TX8) (f := 0) (N := 4) in_X8 at_6 hok rfl rfl (by decide) rfl K
theorem gfN_X0_2 {idx o : Nat} (d : decode M.2.2.2.1 pc = .ok (.getfield idx, 3)) (n : Nat) (hn : pc + 3 = n) (host : String) (hw : (M.2.1, idx, (TX0 2).1, (TX0 2).2.1, (TX0 2).2.2.1, host) ∈ q_nsL) (hok : q_ok 2 o = true) (K : qAW l G M X n lv (.ref (q_ad G 39 o) :: st) μ r) : qAW l G M X pc lv (.ref (q_ad G 2 o) :: st) μ r :=
  aw_getN d n hn host hw (T := TX0) (f := 2) (N := 19) in_X0 at_2 hok rfl rfl (by decide) rfl K
theorem gf_X8_3 {idx o : Nat} (d : decode M.2.2.2.1 pc = .ok (.getfield idx, 3)) (n : Nat) (hn : pc + 3 = n) (hw : Cond.fieldLink M.2.1 idx (TX8 3).1 (TX8 3).2.1 (TX8 3).2.2.1 ∈ q_tb) (hok : q_ok 6 o = true) (K : qAW l G M X n lv (.ref (q_ad G 50 0) :: st) μ r) : qAW l G M X pc lv (.ref (q_ad G 6 o) :: st) μ r :=
  aw_get d n hn hw (T := TX8) (f := 3) (N := 4) in_X8 at_6 hok rfl rfl (by decide) rfl K
theorem gfN_X0_1 {idx o : Nat} (d : decode M.2.2.2.1 pc = .ok (.getfield idx, 3)) (n : Nat) (hn : pc + 3 = n) (host : String) (hw : (M.2.1, idx, (TX0 1).1, (TX0 1).2.1, (TX0 1).2.2.1, host) ∈ q_nsL) (hok : q_ok 2 o = true) (K : qAW l G M X n lv (.ref (q_ad G 38 o) :: st) μ r) : qAW l G M X pc lv (.ref (q_ad G 2 o) :: st) μ r :=
  aw_getN d n hn host hw (T := TX0) (f := 1) (N := 19) in_X0 at_2 hok rfl rfl (by decide) rfl K
theorem gfN_X0_13 {idx o : Nat} (d : decode M.2.2.2.1 pc = .ok (.getfield idx, 3)) (n : Nat) (hn : pc + 3 = n) (host : String) (hw : (M.2.1, idx, (TX0 13).1, (TX0 13).2.1, (TX0 13).2.2.1, host) ∈ q_nsL) (hok : q_ok 2 o = true) (K : qAW l G M X n lv (.int (μ.1 2 o 13) :: st) μ r) : qAW l G M X pc lv (.ref (q_ad G 2 o) :: st) μ r :=
  aw_getN d n hn host hw (T := TX0) (f := 13) (N := 19) in_X0 at_2 hok rfl rfl (by decide) rfl K
theorem gfN_X0_0 {idx o : Nat} (d : decode M.2.2.2.1 pc = .ok (.getfield idx, 3)) (n : Nat) (hn : pc + 3 = n) (host : String) (hw : (M.2.1, idx, (TX0 0).1, (TX0 0).2.1, (TX0 0).2.2.1, host) ∈ q_nsL) (hok : q_ok 2 o = true) (K : qAW l G M X n lv (.ref (q_ad G 37 o) :: st) μ r) : qAW l G M X pc lv (.ref (q_ad G 2 o) :: st) μ r :=
  aw_getN d n hn host hw (T := TX0) (f := 0) (N := 19) in_X0 at_2 hok rfl rfl (by decide) rfl K
theorem gfN_X0_16 {idx o : Nat} (d : decode M.2.2.2.1 pc = .ok (.getfield idx, 3)) (n : Nat) (hn : pc + 3 = n) (host : String) (hw : (M.2.1, idx, (TX0 16).1, (TX0 16).2.1, (TX0 16).2.2.1, host) ∈ q_nsL) (hok : q_ok 2 o = true) (K : qAW l G M X n lv (.int (μ.1 2 o 16) :: st) μ r) : qAW l G M X pc lv (.ref (q_ad G 2 o) :: st) μ r :=
  aw_getN d n hn host hw (T := TX0) (f := 16) (N := 19) in_X0 at_2 hok rfl rfl (by decide) rfl K
theorem pfN_X0_16 {idx o : Nat} {x : Int32} (d : decode M.2.2.2.1 pc = .ok (.putfield idx, 3)) (n : Nat) (hn : pc + 3 = n) (host : String) (hw : (M.2.1, idx, (TX0 16).1, (TX0 16).2.1, (TX0 16).2.2.1, host) ∈ q_nsL) (hok : q_ok 2 o = true) (K : qAW l G M X n lv st (q_si μ 2 o 16 x) r) : qAW l G M X pc lv (.int x :: .ref (q_ad G 2 o) :: st) μ r :=
  aw_putN d n hn host hw (T := TX0) (f := 16) (N := 19) (μ2 := q_si μ 2 o 16 x) in_X0 tyX0_ok nmX0 at_2 hok rfl rfl (by decide) (Nat.le_of_ble_eq_true rfl) rfl rfl rfl rfl (by simp [q_fl, q_si]) (fun a b _ h => q_rep_si a b h) K
theorem gf_X8_1 {idx o : Nat} (d : decode M.2.2.2.1 pc = .ok (.getfield idx, 3)) (n : Nat) (hn : pc + 3 = n) (hw : Cond.fieldLink M.2.1 idx (TX8 1).1 (TX8 1).2.1 (TX8 1).2.2.1 ∈ q_tb) (hok : q_ok 6 o = true) (K : qAW l G M X n lv (.ref (q_ad G 48 0) :: st) μ r) : qAW l G M X pc lv (.ref (q_ad G 6 o) :: st) μ r :=
  aw_get d n hn hw (T := TX8) (f := 1) (N := 4) in_X8 at_6 hok rfl rfl (by decide) rfl K
theorem gfN_X0_5 {idx o : Nat} (d : decode M.2.2.2.1 pc = .ok (.getfield idx, 3)) (n : Nat) (hn : pc + 3 = n) (host : String) (hw : (M.2.1, idx, (TX0 5).1, (TX0 5).2.1, (TX0 5).2.2.1, host) ∈ q_nsL) (hok : q_ok 2 o = true) (K : qAW l G M X n lv (.ref (q_ad G 3 o) :: st) μ r) : qAW l G M X pc lv (.ref (q_ad G 2 o) :: st) μ r :=
  aw_getN d n hn host hw (T := TX0) (f := 5) (N := 19) in_X0 at_2 hok rfl rfl (by decide) rfl K
theorem gfN_X3_0 {idx o : Nat} (d : decode M.2.2.2.1 pc = .ok (.getfield idx, 3)) (n : Nat) (hn : pc + 3 = n) (host : String) (hw : (M.2.1, idx, (TX3 0).1, (TX3 0).2.1, (TX3 0).2.2.1, host) ∈ q_nsL) (hok : q_ok 3 o = true) (K : qAW l G M X n lv (.int (μ.1 3 o 0) :: st) μ r) : qAW l G M X pc lv (.ref (q_ad G 3 o) :: st) μ r :=
  aw_getN d n hn host hw (T := TX3) (f := 0) (N := 4) in_X3 at_3 hok rfl rfl (by decide) rfl K
theorem gfN_X3_1 {idx o : Nat} (d : decode M.2.2.2.1 pc = .ok (.getfield idx, 3)) (n : Nat) (hn : pc + 3 = n) (host : String) (hw : (M.2.1, idx, (TX3 1).1, (TX3 1).2.1, (TX3 1).2.2.1, host) ∈ q_nsL) (hok : q_ok 3 o = true) (K : qAW l G M X n lv (.int (μ.1 3 o 1) :: st) μ r) : qAW l G M X pc lv (.ref (q_ad G 3 o) :: st) μ r :=
  aw_getN d n hn host hw (T := TX3) (f := 1) (N := 4) in_X3 at_3 hok rfl rfl (by decide) rfl K
theorem gfN_X0_4 {idx o : Nat} (d : decode M.2.2.2.1 pc = .ok (.getfield idx, 3)) (n : Nat) (hn : pc + 3 = n) (host : String) (hw : (M.2.1, idx, (TX0 4).1, (TX0 4).2.1, (TX0 4).2.2.1, host) ∈ q_nsL) (hok : q_ok 2 o = true) (K : qAW l G M X n lv (.ref (q_ad G 41 o) :: st) μ r) : qAW l G M X pc lv (.ref (q_ad G 2 o) :: st) μ r :=
  aw_getN d n hn host hw (T := TX0) (f := 4) (N := 19) in_X0 at_2 hok rfl rfl (by decide) rfl K
theorem gfN_X0_15 {idx o : Nat} (d : decode M.2.2.2.1 pc = .ok (.getfield idx, 3)) (n : Nat) (hn : pc + 3 = n) (host : String) (hw : (M.2.1, idx, (TX0 15).1, (TX0 15).2.1, (TX0 15).2.2.1, host) ∈ q_nsL) (hok : q_ok 2 o = true) (K : qAW l G M X n lv (.int (μ.1 2 o 15) :: st) μ r) : qAW l G M X pc lv (.ref (q_ad G 2 o) :: st) μ r :=
  aw_getN d n hn host hw (T := TX0) (f := 15) (N := 19) in_X0 at_2 hok rfl rfl (by decide) rfl K
theorem pfN_X0_15 {idx o : Nat} {x : Int32} (d : decode M.2.2.2.1 pc = .ok (.putfield idx, 3)) (n : Nat) (hn : pc + 3 = n) (host : String) (hw : (M.2.1, idx, (TX0 15).1, (TX0 15).2.1, (TX0 15).2.2.1, host) ∈ q_nsL) (hok : q_ok 2 o = true) (K : qAW l G M X n lv st (q_si μ 2 o 15 x) r) : qAW l G M X pc lv (.int x :: .ref (q_ad G 2 o) :: st) μ r :=
  aw_putN d n hn host hw (T := TX0) (f := 15) (N := 19) (μ2 := q_si μ 2 o 15 x) in_X0 tyX0_ok nmX0 at_2 hok rfl rfl (by decide) (Nat.le_of_ble_eq_true rfl) rfl rfl rfl rfl (by simp [q_fl, q_si]) (fun a b _ h => q_rep_si a b h) K
theorem gfN_X0_14 {idx o : Nat} (d : decode M.2.2.2.1 pc = .ok (.getfield idx, 3)) (n : Nat) (hn : pc + 3 = n) (host : String) (hw : (M.2.1, idx, (TX0 14).1, (TX0 14).2.1, (TX0 14).2.2.1, host) ∈ q_nsL) (hok : q_ok 2 o = true) (K : qAW l G M X n lv (.int (μ.1 2 o 14) :: st) μ r) : qAW l G M X pc lv (.ref (q_ad G 2 o) :: st) μ r :=
  aw_getN d n hn host hw (T := TX0) (f := 14) (N := 19) in_X0 at_2 hok rfl rfl (by decide) rfl K
theorem pfN_X0_14 {idx o : Nat} {x : Int32} (d : decode M.2.2.2.1 pc = .ok (.putfield idx, 3)) (n : Nat) (hn : pc + 3 = n) (host : String) (hw : (M.2.1, idx, (TX0 14).1, (TX0 14).2.1, (TX0 14).2.2.1, host) ∈ q_nsL) (hok : q_ok 2 o = true) (K : qAW l G M X n lv st (q_si μ 2 o 14 x) r) : qAW l G M X pc lv (.int x :: .ref (q_ad G 2 o) :: st) μ r :=
  aw_putN d n hn host hw (T := TX0) (f := 14) (N := 19) (μ2 := q_si μ 2 o 14 x) in_X0 tyX0_ok nmX0 at_2 hok rfl rfl (by decide) (Nat.le_of_ble_eq_true rfl) rfl rfl rfl rfl (by simp [q_fl, q_si]) (fun a b _ h => q_rep_si a b h) K
theorem pf_X10_16 {idx o : Nat} {x : Int32} (d : decode M.2.2.2.1 pc = .ok (.putfield idx, 3)) (n : Nat) (hn : pc + 3 = n) (hw : Cond.fieldLink M.2.1 idx (TX10 16).1 (TX10 16).2.1 (TX10 16).2.2.1 ∈ q_tb) (hok : q_ok 0 o = true) (K : qAW l G M X n lv st (q_si μ 0 o 16 x) r) : qAW l G M X pc lv (.int x :: .ref (q_ad G 0 o) :: st) μ r :=
  aw_put d n hn hw (T := TX10) (f := 16) (N := 19) (μ2 := q_si μ 0 o 16 x) in_X10 tyX10_ok nmX10 at_0 hok rfl rfl (by decide) (Nat.le_of_ble_eq_true rfl) rfl rfl rfl rfl (by simp [q_fl, q_si]) (fun a b _ h => q_rep_si a b h) K
theorem gf_X10_13 {idx o : Nat} (d : decode M.2.2.2.1 pc = .ok (.getfield idx, 3)) (n : Nat) (hn : pc + 3 = n) (hw : Cond.fieldLink M.2.1 idx (TX10 13).1 (TX10 13).2.1 (TX10 13).2.2.1 ∈ q_tb) (hok : q_ok 0 o = true) (K : qAW l G M X n lv (.ref (q_ad G 36 0) :: st) μ r) : qAW l G M X pc lv (.ref (q_ad G 0 o) :: st) μ r :=
  aw_get d n hn hw (T := TX10) (f := 13) (N := 19) in_X10 at_0 hok rfl rfl (by decide) rfl K
theorem gf_X10_0 {idx o : Nat} (d : decode M.2.2.2.1 pc = .ok (.getfield idx, 3)) (n : Nat) (hn : pc + 3 = n) (hw : Cond.fieldLink M.2.1 idx (TX10 0).1 (TX10 0).2.1 (TX10 0).2.2.1 ∈ q_tb) (hok : q_ok 0 o = true) (K : qAW l G M X n lv (.ref (q_ad G 1 0) :: st) μ r) : qAW l G M X pc lv (.ref (q_ad G 0 o) :: st) μ r :=
  aw_get d n hn hw (T := TX10) (f := 0) (N := 19) in_X10 at_0 hok rfl rfl (by decide) rfl K
theorem pf_X10_15 {idx o : Nat} {x : Int32} (d : decode M.2.2.2.1 pc = .ok (.putfield idx, 3)) (n : Nat) (hn : pc + 3 = n) (hw : Cond.fieldLink M.2.1 idx (TX10 15).1 (TX10 15).2.1 (TX10 15).2.2.1 ∈ q_tb) (hok : q_ok 0 o = true) (K : qAW l G M X n lv st (q_si μ 0 o 15 x) r) : qAW l G M X pc lv (.int x :: .ref (q_ad G 0 o) :: st) μ r :=
  aw_put d n hn hw (T := TX10) (f := 15) (N := 19) (μ2 := q_si μ 0 o 15 x) in_X10 tyX10_ok nmX10 at_0 hok rfl rfl (by decide) (Nat.le_of_ble_eq_true rfl) rfl rfl rfl rfl (by simp [q_fl, q_si]) (fun a b _ h => q_rep_si a b h) K
theorem gf_X10_4 {idx o : Nat} (d : decode M.2.2.2.1 pc = .ok (.getfield idx, 3)) (n : Nat) (hn : pc + 3 = n) (hw : Cond.fieldLink M.2.1 idx (TX10 4).1 (TX10 4).2.1 (TX10 4).2.2.1 ∈ q_tb) (hok : q_ok 0 o = true) (K : qAW l G M X n lv (.ref (q_ad G 21 0) :: st) μ r) : qAW l G M X pc lv (.ref (q_ad G 0 o) :: st) μ r :=
  aw_get d n hn hw (T := TX10) (f := 4) (N := 19) in_X10 at_0 hok rfl rfl (by decide) rfl K
theorem gfN_X0_7 {idx o : Nat} (d : decode M.2.2.2.1 pc = .ok (.getfield idx, 3)) (n : Nat) (hn : pc + 3 = n) (host : String) (hw : (M.2.1, idx, (TX0 7).1, (TX0 7).2.1, (TX0 7).2.2.1, host) ∈ q_nsL) (hok : q_ok 2 o = true) (K : qAW l G M X n lv (.ref (q_ad G 5 o) :: st) μ r) : qAW l G M X pc lv (.ref (q_ad G 2 o) :: st) μ r :=
  aw_getN d n hn host hw (T := TX0) (f := 7) (N := 19) in_X0 at_2 hok rfl rfl (by decide) rfl K
theorem gfN_X4_2 {idx o : Nat} (d : decode M.2.2.2.1 pc = .ok (.getfield idx, 3)) (n : Nat) (hn : pc + 3 = n) (host : String) (hw : (M.2.1, idx, (TX4 2).1, (TX4 2).2.1, (TX4 2).2.2.1, host) ∈ q_nsL) (hok : q_ok 5 o = true) (K : qAW l G M X n lv (.int (μ.1 5 o 2) :: st) μ r) : qAW l G M X pc lv (.ref (q_ad G 5 o) :: st) μ r :=
  aw_getN d n hn host hw (T := TX4) (f := 2) (N := 5) in_X4 at_5 hok rfl rfl (by decide) rfl K
theorem gfN_X0_10 {idx o : Nat} (d : decode M.2.2.2.1 pc = .ok (.getfield idx, 3)) (n : Nat) (hn : pc + 3 = n) (host : String) (hw : (M.2.1, idx, (TX0 10).1, (TX0 10).2.1, (TX0 10).2.2.1, host) ∈ q_nsL) (hok : q_ok 2 o = true) (K : qAW l G M X n lv (.int (μ.1 2 o 10) :: st) μ r) : qAW l G M X pc lv (.ref (q_ad G 2 o) :: st) μ r :=
  aw_getN d n hn host hw (T := TX0) (f := 10) (N := 19) in_X0 at_2 hok rfl rfl (by decide) rfl K
theorem pfN_X0_10 {idx o : Nat} {x : Int32} (d : decode M.2.2.2.1 pc = .ok (.putfield idx, 3)) (n : Nat) (hn : pc + 3 = n) (host : String) (hw : (M.2.1, idx, (TX0 10).1, (TX0 10).2.1, (TX0 10).2.2.1, host) ∈ q_nsL) (hok : q_ok 2 o = true) (hb : q_b x = true) (K : qAW l G M X n lv st (q_si μ 2 o 10 x) r) : qAW l G M X pc lv (.int x :: .ref (q_ad G 2 o) :: st) μ r :=
  aw_putN d n hn host hw (T := TX0) (f := 10) (N := 19) (μ2 := q_si μ 2 o 10 x) in_X0 tyX0_ok nmX0 at_2 hok rfl rfl (by decide) (Nat.le_of_ble_eq_true rfl) rfl rfl (q_nb hb).1 (q_nb hb).2 (by simp [q_fl, q_si]) (fun a b _ h => q_rep_si a b h) K
theorem gf_X10_8 {idx o : Nat} (d : decode M.2.2.2.1 pc = .ok (.getfield idx, 3)) (n : Nat) (hn : pc + 3 = n) (hw : Cond.fieldLink M.2.1 idx (TX10 8).1 (TX10 8).2.1 (TX10 8).2.2.1 ∈ q_tb) (hok : q_ok 0 o = true) (K : qAW l G M X n lv (.ref (q_ad G 22 0) :: st) μ r) : qAW l G M X pc lv (.ref (q_ad G 0 o) :: st) μ r :=
  aw_get d n hn hw (T := TX10) (f := 8) (N := 19) in_X10 at_0 hok rfl rfl (by decide) rfl K
theorem gfN_X1_0 {idx o : Nat} (d : decode M.2.2.2.1 pc = .ok (.getfield idx, 3)) (n : Nat) (hn : pc + 3 = n) (host : String) (hw : (M.2.1, idx, (TX1 0).1, (TX1 0).2.1, (TX1 0).2.2.1, host) ∈ q_nsL) (hok : q_ok 8 o = true) (K : qAW l G M X n lv (.int (μ.1 8 o 0) :: st) μ r) : qAW l G M X pc lv (.ref (q_ad G 8 o) :: st) μ r :=
  aw_getN d n hn host hw (T := TX1) (f := 0) (N := 3) in_X1 at_8 hok rfl rfl (by decide) rfl K
theorem pfN_X1_0 {idx o : Nat} {x : Int32} (d : decode M.2.2.2.1 pc = .ok (.putfield idx, 3)) (n : Nat) (hn : pc + 3 = n) (host : String) (hw : (M.2.1, idx, (TX1 0).1, (TX1 0).2.1, (TX1 0).2.2.1, host) ∈ q_nsL) (hok : q_ok 8 o = true) (K : qAW l G M X n lv st (q_si μ 8 o 0 x) r) : qAW l G M X pc lv (.int x :: .ref (q_ad G 8 o) :: st) μ r :=
  aw_putN d n hn host hw (T := TX1) (f := 0) (N := 3) (μ2 := q_si μ 8 o 0 x) in_X1 tyX1_ok nmX1 at_8 hok rfl rfl (by decide) (Nat.le_of_ble_eq_true rfl) rfl rfl rfl rfl (by simp [q_fl, q_si]) (fun a b _ h => q_rep_si a b h) K
theorem gf_X10_9 {idx o : Nat} (d : decode M.2.2.2.1 pc = .ok (.getfield idx, 3)) (n : Nat) (hn : pc + 3 = n) (hw : Cond.fieldLink M.2.1 idx (TX10 9).1 (TX10 9).2.1 (TX10 9).2.2.1 ∈ q_tb) (hok : q_ok 0 o = true) (K : qAW l G M X n lv (.ref (q_ad G 23 0) :: st) μ r) : qAW l G M X pc lv (.ref (q_ad G 0 o) :: st) μ r :=
  aw_get d n hn hw (T := TX10) (f := 9) (N := 19) in_X10 at_0 hok rfl rfl (by decide) rfl K
theorem gfN_X2_2 {idx o : Nat} (d : decode M.2.2.2.1 pc = .ok (.getfield idx, 3)) (n : Nat) (hn : pc + 3 = n) (host : String) (hw : (M.2.1, idx, (TX2 2).1, (TX2 2).2.1, (TX2 2).2.2.1, host) ∈ q_nsL) (hok : q_ok 9 o = true) (K : qAW l G M X n lv (.int (μ.1 9 o 2) :: st) μ r) : qAW l G M X pc lv (.ref (q_ad G 9 o) :: st) μ r :=
  aw_getN d n hn host hw (T := TX2) (f := 2) (N := 6) in_X2 at_9 hok rfl rfl (by decide) rfl K
theorem pfN_X2_2 {idx o : Nat} {x : Int32} (d : decode M.2.2.2.1 pc = .ok (.putfield idx, 3)) (n : Nat) (hn : pc + 3 = n) (host : String) (hw : (M.2.1, idx, (TX2 2).1, (TX2 2).2.1, (TX2 2).2.2.1, host) ∈ q_nsL) (hok : q_ok 9 o = true) (K : qAW l G M X n lv st (q_si μ 9 o 2 x) r) : qAW l G M X pc lv (.int x :: .ref (q_ad G 9 o) :: st) μ r :=
  aw_putN d n hn host hw (T := TX2) (f := 2) (N := 6) (μ2 := q_si μ 9 o 2 x) in_X2 tyX2_ok nmX2 at_9 hok rfl rfl (by decide) (Nat.le_of_ble_eq_true rfl) rfl rfl rfl rfl (by simp [q_fl, q_si]) (fun a b _ h => q_rep_si a b h) K
theorem gfN_X0_11 {idx o : Nat} (d : decode M.2.2.2.1 pc = .ok (.getfield idx, 3)) (n : Nat) (hn : pc + 3 = n) (host : String) (hw : (M.2.1, idx, (TX0 11).1, (TX0 11).2.1, (TX0 11).2.2.1, host) ∈ q_nsL) (hok : q_ok 2 o = true) (K : qAW l G M X n lv (.int (μ.1 2 o 11) :: st) μ r) : qAW l G M X pc lv (.ref (q_ad G 2 o) :: st) μ r :=
  aw_getN d n hn host hw (T := TX0) (f := 11) (N := 19) in_X0 at_2 hok rfl rfl (by decide) rfl K
theorem pfN_X3_0 {idx o : Nat} {x : Int32} (d : decode M.2.2.2.1 pc = .ok (.putfield idx, 3)) (n : Nat) (hn : pc + 3 = n) (host : String) (hw : (M.2.1, idx, (TX3 0).1, (TX3 0).2.1, (TX3 0).2.2.1, host) ∈ q_nsL) (hok : q_ok 3 o = true) (K : qAW l G M X n lv st (q_si μ 3 o 0 x) r) : qAW l G M X pc lv (.int x :: .ref (q_ad G 3 o) :: st) μ r :=
  aw_putN d n hn host hw (T := TX3) (f := 0) (N := 4) (μ2 := q_si μ 3 o 0 x) in_X3 tyX3_ok nmX3 at_3 hok rfl rfl (by decide) (Nat.le_of_ble_eq_true rfl) rfl rfl rfl rfl (by simp [q_fl, q_si]) (fun a b _ h => q_rep_si a b h) K
theorem pfN_X3_1 {idx o : Nat} {x : Int32} (d : decode M.2.2.2.1 pc = .ok (.putfield idx, 3)) (n : Nat) (hn : pc + 3 = n) (host : String) (hw : (M.2.1, idx, (TX3 1).1, (TX3 1).2.1, (TX3 1).2.2.1, host) ∈ q_nsL) (hok : q_ok 3 o = true) (K : qAW l G M X n lv st (q_si μ 3 o 1 x) r) : qAW l G M X pc lv (.int x :: .ref (q_ad G 3 o) :: st) μ r :=
  aw_putN d n hn host hw (T := TX3) (f := 1) (N := 4) (μ2 := q_si μ 3 o 1 x) in_X3 tyX3_ok nmX3 at_3 hok rfl rfl (by decide) (Nat.le_of_ble_eq_true rfl) rfl rfl rfl rfl (by simp [q_fl, q_si]) (fun a b _ h => q_rep_si a b h) K
theorem pfN_X3_3 {idx o : Nat} {x : Int32} (d : decode M.2.2.2.1 pc = .ok (.putfield idx, 3)) (n : Nat) (hn : pc + 3 = n) (host : String) (hw : (M.2.1, idx, (TX3 3).1, (TX3 3).2.1, (TX3 3).2.2.1, host) ∈ q_nsL) (hok : q_ok 3 o = true) (K : qAW l G M X n lv st (q_si μ 3 o 3 x) r) : qAW l G M X pc lv (.int x :: .ref (q_ad G 3 o) :: st) μ r :=
  aw_putN d n hn host hw (T := TX3) (f := 3) (N := 4) (μ2 := q_si μ 3 o 3 x) in_X3 tyX3_ok nmX3 at_3 hok rfl rfl (by decide) (Nat.le_of_ble_eq_true rfl) rfl rfl rfl rfl (by simp [q_fl, q_si]) (fun a b _ h => q_rep_si a b h) K
theorem pfN_X0_17 {idx o : Nat} {x : Int32} (d : decode M.2.2.2.1 pc = .ok (.putfield idx, 3)) (n : Nat) (hn : pc + 3 = n) (host : String) (hw : (M.2.1, idx, (TX0 17).1, (TX0 17).2.1, (TX0 17).2.2.1, host) ∈ q_nsL) (hok : q_ok 2 o = true) (K : qAW l G M X n lv st (q_si μ 2 o 17 x) r) : qAW l G M X pc lv (.int x :: .ref (q_ad G 2 o) :: st) μ r :=
  aw_putN d n hn host hw (T := TX0) (f := 17) (N := 19) (μ2 := q_si μ 2 o 17 x) in_X0 tyX0_ok nmX0 at_2 hok rfl rfl (by decide) (Nat.le_of_ble_eq_true rfl) rfl rfl rfl rfl (by simp [q_fl, q_si]) (fun a b _ h => q_rep_si a b h) K
theorem pfN_X0_18 {idx o : Nat} {x : Int32} (d : decode M.2.2.2.1 pc = .ok (.putfield idx, 3)) (n : Nat) (hn : pc + 3 = n) (host : String) (hw : (M.2.1, idx, (TX0 18).1, (TX0 18).2.1, (TX0 18).2.2.1, host) ∈ q_nsL) (hok : q_ok 2 o = true) (K : qAW l G M X n lv st (q_si μ 2 o 18 x) r) : qAW l G M X pc lv (.int x :: .ref (q_ad G 2 o) :: st) μ r :=
  aw_putN d n hn host hw (T := TX0) (f := 18) (N := 19) (μ2 := q_si μ 2 o 18 x) in_X0 tyX0_ok nmX0 at_2 hok rfl rfl (by decide) (Nat.le_of_ble_eq_true rfl) rfl rfl rfl rfl (by simp [q_fl, q_si]) (fun a b _ h => q_rep_si a b h) K
theorem gf_X10_6 {idx o : Nat} (d : decode M.2.2.2.1 pc = .ok (.getfield idx, 3)) (n : Nat) (hn : pc + 3 = n) (hw : Cond.fieldLink M.2.1 idx (TX10 6).1 (TX10 6).2.1 (TX10 6).2.2.1 ∈ q_tb) (hok : q_ok 0 o = true) (K : qAW l G M X n lv (.ref (q_ad G 6 0) :: st) μ r) : qAW l G M X pc lv (.ref (q_ad G 0 o) :: st) μ r :=
  aw_get d n hn hw (T := TX10) (f := 6) (N := 19) in_X10 at_0 hok rfl rfl (by decide) rfl K
theorem gfN_X2_3 {idx o : Nat} (d : decode M.2.2.2.1 pc = .ok (.getfield idx, 3)) (n : Nat) (hn : pc + 3 = n) (host : String) (hw : (M.2.1, idx, (TX2 3).1, (TX2 3).2.1, (TX2 3).2.2.1, host) ∈ q_nsL) (hok : q_ok 9 o = true) (K : qAW l G M X n lv (.int (μ.1 9 o 3) :: st) μ r) : qAW l G M X pc lv (.ref (q_ad G 9 o) :: st) μ r :=
  aw_getN d n hn host hw (T := TX2) (f := 3) (N := 6) in_X2 at_9 hok rfl rfl (by decide) rfl K
theorem pfN_X0_11 {idx o : Nat} {x : Int32} (d : decode M.2.2.2.1 pc = .ok (.putfield idx, 3)) (n : Nat) (hn : pc + 3 = n) (host : String) (hw : (M.2.1, idx, (TX0 11).1, (TX0 11).2.1, (TX0 11).2.2.1, host) ∈ q_nsL) (hok : q_ok 2 o = true) (K : qAW l G M X n lv st (q_si μ 2 o 11 x) r) : qAW l G M X pc lv (.int x :: .ref (q_ad G 2 o) :: st) μ r :=
  aw_putN d n hn host hw (T := TX0) (f := 11) (N := 19) (μ2 := q_si μ 2 o 11 x) in_X0 tyX0_ok nmX0 at_2 hok rfl rfl (by decide) (Nat.le_of_ble_eq_true rfl) rfl rfl rfl rfl (by simp [q_fl, q_si]) (fun a b _ h => q_rep_si a b h) K
theorem gfN_X1_1 {idx o : Nat} (d : decode M.2.2.2.1 pc = .ok (.getfield idx, 3)) (n : Nat) (hn : pc + 3 = n) (host : String) (hw : (M.2.1, idx, (TX1 1).1, (TX1 1).2.1, (TX1 1).2.2.1, host) ∈ q_nsL) (hok : q_ok 8 o = true) (K : qAW l G M X n lv (.int (μ.1 8 o 1) :: st) μ r) : qAW l G M X pc lv (.ref (q_ad G 8 o) :: st) μ r :=
  aw_getN d n hn host hw (T := TX1) (f := 1) (N := 3) in_X1 at_8 hok rfl rfl (by decide) rfl K
theorem pfN_X1_1 {idx o : Nat} {x : Int32} (d : decode M.2.2.2.1 pc = .ok (.putfield idx, 3)) (n : Nat) (hn : pc + 3 = n) (host : String) (hw : (M.2.1, idx, (TX1 1).1, (TX1 1).2.1, (TX1 1).2.2.1, host) ∈ q_nsL) (hok : q_ok 8 o = true) (K : qAW l G M X n lv st (q_si μ 8 o 1 x) r) : qAW l G M X pc lv (.int x :: .ref (q_ad G 8 o) :: st) μ r :=
  aw_putN d n hn host hw (T := TX1) (f := 1) (N := 3) (μ2 := q_si μ 8 o 1 x) in_X1 tyX1_ok nmX1 at_8 hok rfl rfl (by decide) (Nat.le_of_ble_eq_true rfl) rfl rfl rfl rfl (by simp [q_fl, q_si]) (fun a b _ h => q_rep_si a b h) K
theorem pfN_X2_3 {idx o : Nat} {x : Int32} (d : decode M.2.2.2.1 pc = .ok (.putfield idx, 3)) (n : Nat) (hn : pc + 3 = n) (host : String) (hw : (M.2.1, idx, (TX2 3).1, (TX2 3).2.1, (TX2 3).2.2.1, host) ∈ q_nsL) (hok : q_ok 9 o = true) (K : qAW l G M X n lv st (q_si μ 9 o 3 x) r) : qAW l G M X pc lv (.int x :: .ref (q_ad G 9 o) :: st) μ r :=
  aw_putN d n hn host hw (T := TX2) (f := 3) (N := 6) (μ2 := q_si μ 9 o 3 x) in_X2 tyX2_ok nmX2 at_9 hok rfl rfl (by decide) (Nat.le_of_ble_eq_true rfl) rfl rfl rfl rfl (by simp [q_fl, q_si]) (fun a b _ h => q_rep_si a b h) K
theorem pfN_X4_3 {idx o : Nat} {x : Int32} (d : decode M.2.2.2.1 pc = .ok (.putfield idx, 3)) (n : Nat) (hn : pc + 3 = n) (host : String) (hw : (M.2.1, idx, (TX4 3).1, (TX4 3).2.1, (TX4 3).2.2.1, host) ∈ q_nsL) (hok : q_ok 5 o = true) (K : qAW l G M X n lv st (q_si μ 5 o 3 x) r) : qAW l G M X pc lv (.int x :: .ref (q_ad G 5 o) :: st) μ r :=
  aw_putN d n hn host hw (T := TX4) (f := 3) (N := 5) (μ2 := q_si μ 5 o 3 x) in_X4 tyX4_ok nmX4 at_5 hok rfl rfl (by decide) (Nat.le_of_ble_eq_true rfl) rfl rfl rfl rfl (by simp [q_fl, q_si]) (fun a b _ h => q_rep_si a b h) K
theorem pfN_X4_4 {idx o : Nat} {x : Int32} (d : decode M.2.2.2.1 pc = .ok (.putfield idx, 3)) (n : Nat) (hn : pc + 3 = n) (host : String) (hw : (M.2.1, idx, (TX4 4).1, (TX4 4).2.1, (TX4 4).2.2.1, host) ∈ q_nsL) (hok : q_ok 5 o = true) (K : qAW l G M X n lv st (q_si μ 5 o 4 x) r) : qAW l G M X pc lv (.int x :: .ref (q_ad G 5 o) :: st) μ r :=
  aw_putN d n hn host hw (T := TX4) (f := 4) (N := 5) (μ2 := q_si μ 5 o 4 x) in_X4 tyX4_ok nmX4 at_5 hok rfl rfl (by decide) (Nat.le_of_ble_eq_true rfl) rfl rfl rfl rfl (by simp [q_fl, q_si]) (fun a b _ h => q_rep_si a b h) K
theorem gf_X10_15 {idx o : Nat} (d : decode M.2.2.2.1 pc = .ok (.getfield idx, 3)) (n : Nat) (hn : pc + 3 = n) (hw : Cond.fieldLink M.2.1 idx (TX10 15).1 (TX10 15).2.1 (TX10 15).2.2.1 ∈ q_tb) (hok : q_ok 0 o = true) (K : qAW l G M X n lv (.int (μ.1 0 o 15) :: st) μ r) : qAW l G M X pc lv (.ref (q_ad G 0 o) :: st) μ r :=
  aw_get d n hn hw (T := TX10) (f := 15) (N := 19) in_X10 at_0 hok rfl rfl (by decide) rfl K
end FR
