theorem wc_0 : Cond.methodLink RX10 1 Lib.objectInit ∈ q_tb := q_tb_of (q_t1 19 (by decide +kernel)) rfl
theorem wc_1 : Cond.instanceMethod Lib.objectInit ∈ q_tb := q_tb_of (q_t1 20 (by decide +kernel)) rfl
theorem wc_2 : Cond.code Lib.objectInit ⟨#[0xb1]⟩ 1 none ∈ q_tb := q_tb_of (q_t1 21 (by decide +kernel)) rfl
theorem wc_3 : Cond.classLink RX10 7 RX7 ∈ q_tb := q_tb_of (q_t1 22 (by decide +kernel)) rfl
theorem wc_4 : Cond.instantiable RX7 2 ∈ q_tb := q_tb_of (q_t1 23 (by decide +kernel)) rfl
theorem wc_5 : Cond.initialized RX7 ∈ q_tb := q_tb_of (q_t1 2 (by decide +kernel)) rfl
theorem wc_6 : Cond.methodLink RX7 1 Lib.objectInit ∈ q_tb := q_tb_of (q_t1 27 (by decide +kernel)) rfl
theorem wc_7 : Cond.classLink RX7 7 "[[I" ∈ q_tb := q_tb_of (q_t1 28 (by decide +kernel)) rfl
theorem wc_8 : Cond.arrayClass .int ∈ q_tb := q_tb_of (q_t1 40 (by decide +kernel)) rfl
theorem wc_9 : Cond.fieldLink RX7 9 "SeaCells$Shelf" "places" "[[I" ∈ q_tb := q_tb_of (q_t1 30 (by decide +kernel)) rfl
theorem wc_10 : Cond.fieldLink RX7 14 "SeaCells$Shelf" "sizes" "[I" ∈ q_tb := q_tb_of (q_t1 33 (by decide +kernel)) rfl
theorem wc_11 : Cond.code yX7_init cX7_init 4 none ∈ q_tb := q_tb_of (q_t1 26 rfl) rfl
theorem wc_12 : Cond.instanceMethod yX7_init ∈ q_tb := q_tb_of (q_t1 25 (by decide +kernel)) rfl
theorem wc_13 : Cond.methodLink RX10 11 yX7_init ∈ q_tb := q_tb_of (q_t1 24 (by decide +kernel)) rfl
theorem wc_14 : Cond.fieldLink RX10 14 "SeaCells" "rows" "LSeaCells$Shelf;" ∈ q_tb := q_tb_of (q_t2 75 (by decide +kernel)) rfl
theorem wc_15 : Cond.fieldLink RX10 18 "SeaCells" "texts" "LSeaCells$Shelf;" ∈ q_tb := q_tb_of (q_t2 76 (by decide +kernel)) rfl
theorem wc_16 : Cond.fieldLink RX10 21 "SeaCells" "worlds" "LSeaCells$Shelf;" ∈ q_tb := q_tb_of (q_t2 77 (by decide +kernel)) rfl
theorem wc_17 : Cond.fieldLink RX10 24 "SeaCells" "weights" "[I" ∈ q_tb := q_tb_of (q_t2 78 (by decide +kernel)) rfl
theorem wc_18 : Cond.classLink RX10 28 "SeaCells$Board" ∈ q_tb := q_tb_of (q_t1 41 (by decide +kernel)) rfl
theorem wc_19 : Cond.fieldLink RX10 30 "SeaCells" "boards" "[LSeaCells$Board;" ∈ q_tb := q_tb_of (q_t2 79 (by decide +kernel)) rfl
theorem wc_20 : Cond.instantiable RX0 19 ∈ q_tb := q_tb_of (q_t1 43 (by decide +kernel)) rfl
theorem wc_21 : Cond.initialized RX0 ∈ q_tb := q_tb_of (q_t1 3 (by decide +kernel)) rfl
theorem wc_22 : Cond.methodLink RX0 3 Lib.objectInit ∈ q_tb := q_tb_of (q_t1 47 (by decide +kernel)) rfl
theorem wc_23 : Cond.fieldLink RX0 9 "SeaCells$Board" "bottom" "[I" ∈ q_tb := q_tb_of (q_t1 128 (by decide +kernel)) rfl
theorem wc_24 : Cond.fieldLink RX0 15 "SeaCells$Board" "water" "[I" ∈ q_tb := q_tb_of (q_t1 131 (by decide +kernel)) rfl
theorem wc_25 : Cond.fieldLink RX0 18 "SeaCells$Board" "stuff" "[I" ∈ q_tb := q_tb_of (q_t1 134 (by decide +kernel)) rfl
theorem wc_26 : Cond.fieldLink RX0 21 "SeaCells$Board" "flow" "[I" ∈ q_tb := q_tb_of (q_t1 137 (by decide +kernel)) rfl
theorem wc_27 : Cond.arrayClass .boolean ∈ q_tb := q_tb_of (q_t1 75 (by decide +kernel)) rfl
theorem wc_28 : Cond.fieldLink RX0 24 "SeaCells$Board" "shut" "[Z" ∈ q_tb := q_tb_of (q_t1 141 (by decide +kernel)) rfl
theorem wc_29 : Cond.classLink RX0 28 RX3 ∈ q_tb := q_tb_of (q_t1 48 (by decide +kernel)) rfl
theorem wc_30 : Cond.instantiable RX3 4 ∈ q_tb := q_tb_of (q_t1 49 (by decide +kernel)) rfl
theorem wc_31 : Cond.initialized RX3 ∈ q_tb := q_tb_of (q_t1 4 (by decide +kernel)) rfl
theorem wc_32 : Cond.methodLink RX3 1 Lib.objectInit ∈ q_tb := q_tb_of (q_t1 53 (by decide +kernel)) rfl
theorem wc_33 : Cond.fieldLink RX3 7 "SeaCells$Laws" "pull" "I" ∈ q_tb := q_tb_of (q_t1 54 (by decide +kernel)) rfl
theorem wc_34 : Cond.fieldLink RX3 13 "SeaCells$Laws" "drag" "I" ∈ q_tb := q_tb_of (q_t1 57 (by decide +kernel)) rfl
theorem wc_35 : Cond.code yX3_init cX3_init 1 none ∈ q_tb := q_tb_of (q_t1 52 rfl) rfl
theorem wc_36 : Cond.instanceMethod yX3_init ∈ q_tb := q_tb_of (q_t1 51 (by decide +kernel)) rfl
theorem wc_37 : Cond.fieldLink RX0 31 "SeaCells$Board" "laws" "LSeaCells$Laws;" ∈ q_tb := q_tb_of (q_t1 144 (by decide +kernel)) rfl
theorem wc_38 : Cond.classLink RX0 35 RX5 ∈ q_tb := q_tb_of (q_t1 76 (by decide +kernel)) rfl
theorem wc_39 : Cond.instantiable RX5 3 ∈ q_tb := q_tb_of (q_t1 77 (by decide +kernel)) rfl
theorem wc_40 : Cond.initialized RX5 ∈ q_tb := q_tb_of (q_t1 5 (by decide +kernel)) rfl
theorem wc_41 : Cond.methodLink RX5 3 Lib.objectInit ∈ q_tb := q_tb_of (q_t1 81 (by decide +kernel)) rfl
theorem wc_42 : Cond.fieldLink RX5 9 "SeaCells$Rivers" "cell" "[I" ∈ q_tb := q_tb_of (q_t1 82 (by decide +kernel)) rfl
theorem wc_43 : Cond.fieldLink RX5 15 "SeaCells$Rivers" "much" "[I" ∈ q_tb := q_tb_of (q_t1 86 (by decide +kernel)) rfl
theorem wc_44 : Cond.code yX5_init cX5_init 1 none ∈ q_tb := q_tb_of (q_t1 80 rfl) rfl
theorem wc_45 : Cond.instanceMethod yX5_init ∈ q_tb := q_tb_of (q_t1 79 (by decide +kernel)) rfl
theorem wc_46 : Cond.fieldLink RX0 38 "SeaCells$Board" "rivers" "LSeaCells$Rivers;" ∈ q_tb := q_tb_of (q_t1 147 (by decide +kernel)) rfl
theorem wc_47 : Cond.classLink RX0 42 RX4 ∈ q_tb := q_tb_of (q_t1 100 (by decide +kernel)) rfl
theorem wc_48 : Cond.instantiable RX4 5 ∈ q_tb := q_tb_of (q_t1 101 (by decide +kernel)) rfl
theorem wc_49 : Cond.initialized RX4 ∈ q_tb := q_tb_of (q_t1 6 (by decide +kernel)) rfl
theorem wc_50 : Cond.methodLink RX4 3 Lib.objectInit ∈ q_tb := q_tb_of (q_t1 105 (by decide +kernel)) rfl
theorem wc_51 : Cond.fieldLink RX4 9 "SeaCells$Lie" "mark" "[I" ∈ q_tb := q_tb_of (q_t1 106 (by decide +kernel)) rfl
theorem wc_52 : Cond.fieldLink RX4 15 "SeaCells$Lie" "rest" "[I" ∈ q_tb := q_tb_of (q_t1 108 (by decide +kernel)) rfl
theorem wc_53 : Cond.fieldLink RX4 18 "SeaCells$Lie" "on" "I" ∈ q_tb := q_tb_of (q_t1 110 (by decide +kernel)) rfl
theorem wc_54 : Cond.code yX4_init cX4_init 1 none ∈ q_tb := q_tb_of (q_t1 104 rfl) rfl
theorem wc_55 : Cond.instanceMethod yX4_init ∈ q_tb := q_tb_of (q_t1 103 (by decide +kernel)) rfl
theorem wc_56 : Cond.fieldLink RX0 45 "SeaCells$Board" "lie" "LSeaCells$Lie;" ∈ q_tb := q_tb_of (q_t1 150 (by decide +kernel)) rfl
theorem wc_57 : Cond.fieldLink RX0 49 "SeaCells$Board" "posts" "[I" ∈ q_tb := q_tb_of (q_t1 152 (by decide +kernel)) rfl
theorem wc_58 : Cond.fieldLink RX0 52 "SeaCells$Board" "w" "I" ∈ q_tb := q_tb_of (q_t1 158 (by decide +kernel)) rfl
theorem wc_59 : Cond.fieldLink RX0 56 "SeaCells$Board" "h" "I" ∈ q_tb := q_tb_of (q_t1 162 (by decide +kernel)) rfl
theorem wc_60 : Cond.fieldLink RX0 59 "SeaCells$Board" "tideRow" "I" ∈ q_tb := q_tb_of (q_t1 171 (by decide +kernel)) rfl
theorem wc_61 : Cond.code yX0_init cX0_init 1 none ∈ q_tb := q_tb_of (q_t1 46 rfl) rfl
theorem wc_62 : Cond.instanceMethod yX0_init ∈ q_tb := q_tb_of (q_t1 45 (by decide +kernel)) rfl
theorem wc_63 : Cond.fieldLink RX10 35 "SeaCells" "trial" "LSeaCells$Board;" ∈ q_tb := q_tb_of (q_t2 80 (by decide +kernel)) rfl
theorem wc_64 : Cond.classLink RX10 39 RX8 ∈ q_tb := q_tb_of (q_t1 214 (by decide +kernel)) rfl
theorem wc_65 : Cond.instantiable RX8 4 ∈ q_tb := q_tb_of (q_t1 215 (by decide +kernel)) rfl
theorem wc_66 : Cond.initialized RX8 ∈ q_tb := q_tb_of (q_t1 7 (by decide +kernel)) rfl
theorem wc_67 : Cond.methodLink RX8 3 Lib.objectInit ∈ q_tb := q_tb_of (q_t1 219 (by decide +kernel)) rfl
theorem wc_68 : Cond.fieldLink RX8 9 "SeaCells$Stepper" "flow" "[I" ∈ q_tb := q_tb_of (q_t1 220 (by decide +kernel)) rfl
theorem wc_69 : Cond.fieldLink RX8 15 "SeaCells$Stepper" "out" "[I" ∈ q_tb := q_tb_of (q_t1 221 (by decide +kernel)) rfl
theorem wc_70 : Cond.fieldLink RX8 18 "SeaCells$Stepper" "water" "[I" ∈ q_tb := q_tb_of (q_t1 222 (by decide +kernel)) rfl
theorem wc_71 : Cond.fieldLink RX8 21 "SeaCells$Stepper" "stuff" "[I" ∈ q_tb := q_tb_of (q_t1 223 (by decide +kernel)) rfl
theorem wc_72 : Cond.code yX8_init cX8_init 1 none ∈ q_tb := q_tb_of (q_t1 218 rfl) rfl
theorem wc_73 : Cond.instanceMethod yX8_init ∈ q_tb := q_tb_of (q_t1 217 (by decide +kernel)) rfl
theorem wc_74 : Cond.fieldLink RX10 42 "SeaCells" "stepper" "LSeaCells$Stepper;" ∈ q_tb := q_tb_of (q_t2 81 (by decide +kernel)) rfl
theorem wc_75 : Cond.classLink RX10 46 RX6 ∈ q_tb := q_tb_of (q_t1 233 (by decide +kernel)) rfl
theorem wc_76 : Cond.instantiable RX6 7 ∈ q_tb := q_tb_of (q_t1 234 (by decide +kernel)) rfl
theorem wc_77 : Cond.initialized RX6 ∈ q_tb := q_tb_of (q_t1 8 (by decide +kernel)) rfl
theorem wc_78 : Cond.methodLink RX6 3 Lib.objectInit ∈ q_tb := q_tb_of (q_t1 238 (by decide +kernel)) rfl
theorem wc_79 : Cond.fieldLink RX6 9 "SeaCells$Script" "bytes" "[I" ∈ q_tb := q_tb_of (q_t1 239 (by decide +kernel)) rfl
theorem wc_80 : Cond.fieldLink RX6 15 "SeaCells$Script" "fault" "I" ∈ q_tb := q_tb_of (q_t2 0 (by decide +kernel)) rfl
theorem wc_81 : Cond.code yX6_init cX6_init 1 none ∈ q_tb := q_tb_of (q_t1 237 rfl) rfl
theorem wc_82 : Cond.instanceMethod yX6_init ∈ q_tb := q_tb_of (q_t1 236 (by decide +kernel)) rfl
theorem wc_83 : Cond.fieldLink RX10 49 "SeaCells" "script" "LSeaCells$Script;" ∈ q_tb := q_tb_of (q_t2 82 (by decide +kernel)) rfl
theorem wc_84 : Cond.classLink RX10 53 "SeaCells$Boat" ∈ q_tb := q_tb_of (q_t2 16 (by decide +kernel)) rfl
theorem wc_85 : Cond.fieldLink RX10 55 "SeaCells" "boats" "[LSeaCells$Boat;" ∈ q_tb := q_tb_of (q_t2 83 (by decide +kernel)) rfl
theorem wc_86 : Cond.classLink RX10 59 "SeaCells$Gauge" ∈ q_tb := q_tb_of (q_t2 18 (by decide +kernel)) rfl
theorem wc_87 : Cond.fieldLink RX10 61 "SeaCells" "gauges" "[LSeaCells$Gauge;" ∈ q_tb := q_tb_of (q_t2 84 (by decide +kernel)) rfl
theorem wc_88 : Cond.classLink RX10 65 RX9 ∈ q_tb := q_tb_of (q_t2 20 (by decide +kernel)) rfl
theorem wc_89 : Cond.instantiable RX9 3 ∈ q_tb := q_tb_of (q_t2 21 (by decide +kernel)) rfl
theorem wc_90 : Cond.initialized RX9 ∈ q_tb := q_tb_of (q_t1 9 (by decide +kernel)) rfl
theorem wc_91 : Cond.methodLink RX9 1 Lib.objectInit ∈ q_tb := q_tb_of (q_t2 25 (by decide +kernel)) rfl
theorem wc_92 : Cond.code yX9_init cX9_init 1 none ∈ q_tb := q_tb_of (q_t2 24 rfl) rfl
theorem wc_93 : Cond.instanceMethod yX9_init ∈ q_tb := q_tb_of (q_t2 23 (by decide +kernel)) rfl
theorem wc_94 : Cond.fieldLink RX10 68 "SeaCells" "latestTone" "LSeaCells$Tone;" ∈ q_tb := q_tb_of (q_t2 85 (by decide +kernel)) rfl
theorem wc_95 : Cond.fieldLink RX10 72 "SeaCells" "trialTone" "LSeaCells$Tone;" ∈ q_tb := q_tb_of (q_t2 86 (by decide +kernel)) rfl
theorem wc_96 : Cond.fieldLink RX10 75 "SeaCells" "misfits" "[I" ∈ q_tb := q_tb_of (q_t2 87 (by decide +kernel)) rfl
theorem wc_97 : Cond.fieldLink RX10 78 "SeaCells" "findingCounts" "[I" ∈ q_tb := q_tb_of (q_t2 88 (by decide +kernel)) rfl
theorem wc_98 : Cond.fieldLink RX10 81 "SeaCells" "latestLower" "J" ∈ q_tb := q_tb_of (q_t2 91 (by decide +kernel)) rfl
theorem wc_99 : Cond.instantiable RX1 3 ∈ q_tb := q_tb_of (q_t2 33 (by decide +kernel)) rfl
theorem wc_100 : Cond.initialized RX1 ∈ q_tb := q_tb_of (q_t1 10 (by decide +kernel)) rfl
theorem wc_101 : Cond.methodLink RX1 3 Lib.objectInit ∈ q_tb := q_tb_of (q_t2 37 (by decide +kernel)) rfl
theorem wc_102 : Cond.fieldLink RX1 9 "SeaCells$Boat" "board" "I" ∈ q_tb := q_tb_of (q_t2 38 (by decide +kernel)) rfl
theorem wc_103 : Cond.code yX1_init cX1_init 1 none ∈ q_tb := q_tb_of (q_t2 36 rfl) rfl
theorem wc_104 : Cond.instanceMethod yX1_init ∈ q_tb := q_tb_of (q_t2 35 (by decide +kernel)) rfl
theorem wc_105 : Cond.instantiable RX2 6 ∈ q_tb := q_tb_of (q_t2 50 (by decide +kernel)) rfl
theorem wc_106 : Cond.initialized RX2 ∈ q_tb := q_tb_of (q_t1 11 (by decide +kernel)) rfl
theorem wc_107 : Cond.methodLink RX2 3 Lib.objectInit ∈ q_tb := q_tb_of (q_t2 54 (by decide +kernel)) rfl
theorem wc_108 : Cond.fieldLink RX2 9 "SeaCells$Gauge" "levels" "[I" ∈ q_tb := q_tb_of (q_t2 55 (by decide +kernel)) rfl
theorem wc_109 : Cond.fieldLink RX2 15 "SeaCells$Gauge" "lost" "[Z" ∈ q_tb := q_tb_of (q_t2 56 (by decide +kernel)) rfl
theorem wc_110 : Cond.fieldLink RX2 19 "SeaCells$Gauge" "board" "I" ∈ q_tb := q_tb_of (q_t2 57 (by decide +kernel)) rfl
theorem wc_111 : Cond.code yX2_init cX2_init 1 none ∈ q_tb := q_tb_of (q_t2 53 rfl) rfl
theorem wc_112 : Cond.instanceMethod yX2_init ∈ q_tb := q_tb_of (q_t2 52 (by decide +kernel)) rfl
theorem wc_113 : Cond.code yX10_init cX10_init 2 none ∈ q_tb := q_tb_of (q_t1 18 rfl) rfl
theorem wc_114 : Cond.initialized RX10 ∈ q_tb := q_tb_of (q_t1 1 (by decide +kernel)) rfl
theorem wc_115 : Cond.instanceMethod yX10_init ∈ q_tb := q_tb_of (q_t1 17 (by decide +kernel)) rfl
theorem df_X0 : ∀ j, j < 19 → defaultValue (tyX0 j) = vp_V [.null, .null, .null, .null, .null, .null, .null, .null, .null, .int 0, .int 0, .int 0, .int 0, .int 0, .int 0, .int 0, .int 0, .int 0, .int 0] j := by
  intro j hj
  match j, hj with
  | 0, _ => rfl
  | 1, _ => rfl
  | 2, _ => rfl
  | 3, _ => rfl
  | 4, _ => rfl
  | 5, _ => rfl
  | 6, _ => rfl
  | 7, _ => rfl
  | 8, _ => rfl
  | 9, _ => rfl
  | 10, _ => rfl
  | 11, _ => rfl
  | 12, _ => rfl
  | 13, _ => rfl
  | 14, _ => rfl
  | 15, _ => rfl
  | 16, _ => rfl
  | 17, _ => rfl
  | 18, _ => rfl
  | n + 19, h => exact absurd h (by omega)
theorem df_X1 : ∀ j, j < 3 → defaultValue (tyX1 j) = vp_V [.int 0, .int 0, .int 0] j := by
  intro j hj
  match j, hj with
  | 0, _ => rfl
  | 1, _ => rfl
  | 2, _ => rfl
  | n + 3, h => exact absurd h (by omega)
theorem df_X2 : ∀ j, j < 6 → defaultValue (tyX2 j) = vp_V [.null, .null, .int 0, .int 0, .int 0, .int 0] j := by
  intro j hj
  match j, hj with
  | 0, _ => rfl
  | 1, _ => rfl
  | 2, _ => rfl
  | 3, _ => rfl
  | 4, _ => rfl
  | 5, _ => rfl
  | n + 6, h => exact absurd h (by omega)
theorem df_X3 : ∀ j, j < 4 → defaultValue (tyX3 j) = vp_V [.int 0, .int 0, .int 0, .int 0] j := by
  intro j hj
  match j, hj with
  | 0, _ => rfl
  | 1, _ => rfl
  | 2, _ => rfl
  | 3, _ => rfl
  | n + 4, h => exact absurd h (by omega)
theorem df_X4 : ∀ j, j < 5 → defaultValue (tyX4 j) = vp_V [.null, .null, .int 0, .int 0, .int 0] j := by
  intro j hj
  match j, hj with
  | 0, _ => rfl
  | 1, _ => rfl
  | 2, _ => rfl
  | 3, _ => rfl
  | 4, _ => rfl
  | n + 5, h => exact absurd h (by omega)
theorem df_X5 : ∀ j, j < 3 → defaultValue (tyX5 j) = vp_V [.null, .null, .int 0] j := by
  intro j hj
  match j, hj with
  | 0, _ => rfl
  | 1, _ => rfl
  | 2, _ => rfl
  | n + 3, h => exact absurd h (by omega)
theorem df_X6 : ∀ j, j < 7 → defaultValue (tyX6 j) = vp_V [.null, .int 0, .int 0, .int 0, .int 0, .int 0, .int 0] j := by
  intro j hj
  match j, hj with
  | 0, _ => rfl
  | 1, _ => rfl
  | 2, _ => rfl
  | 3, _ => rfl
  | 4, _ => rfl
  | 5, _ => rfl
  | 6, _ => rfl
  | n + 7, h => exact absurd h (by omega)
theorem df_X7 : ∀ j, j < 2 → defaultValue (tyX7 j) = vp_V [.null, .null] j := by
  intro j hj
  match j, hj with
  | 0, _ => rfl
  | 1, _ => rfl
  | n + 2, h => exact absurd h (by omega)
theorem df_X8 : ∀ j, j < 4 → defaultValue (tyX8 j) = vp_V [.null, .null, .null, .null] j := by
  intro j hj
  match j, hj with
  | 0, _ => rfl
  | 1, _ => rfl
  | 2, _ => rfl
  | 3, _ => rfl
  | n + 4, h => exact absurd h (by omega)
theorem df_X9 : ∀ j, j < 3 → defaultValue (tyX9 j) = vp_V [.long 0, .long 0, .int 0] j := by
  intro j hj
  match j, hj with
  | 0, _ => rfl
  | 1, _ => rfl
  | 2, _ => rfl
  | n + 3, h => exact absurd h (by omega)
theorem bn_0 : (RX10, 34, yX0_init, "SeaCells") ∈ b_nmL := List.mem_of_getElem? (i := 0) (by decide +kernel)
theorem bn_1 : (RX0, 30, yX3_init, "SeaCells") ∈ b_nmL := List.mem_of_getElem? (i := 1) (by decide +kernel)
theorem bn_2 : (RX0, 37, yX5_init, "SeaCells") ∈ b_nmL := List.mem_of_getElem? (i := 2) (by decide +kernel)
theorem bn_3 : (RX0, 44, yX4_init, "SeaCells") ∈ b_nmL := List.mem_of_getElem? (i := 3) (by decide +kernel)
theorem bn_4 : (RX10, 41, yX8_init, "SeaCells") ∈ b_nmL := List.mem_of_getElem? (i := 4) (by decide +kernel)
theorem bn_5 : (RX10, 48, yX6_init, "SeaCells") ∈ b_nmL := List.mem_of_getElem? (i := 5) (by decide +kernel)
theorem bn_6 : (RX10, 67, yX9_init, "SeaCells") ∈ b_nmL := List.mem_of_getElem? (i := 6) (by decide +kernel)
theorem bn_7 : (RX10, 85, yX1_init, "SeaCells") ∈ b_nmL := List.mem_of_getElem? (i := 7) (by decide +kernel)
theorem bn_8 : (RX10, 86, yX2_init, "SeaCells") ∈ b_nmL := List.mem_of_getElem? (i := 8) (by decide +kernel)
def m_X7_init_6_48_1 : qMd := ({ frames := 1, cells := 8, slots := 300, locals := 40 }, RX7, yX7_init, cX7_init, 4, none)
theorem dX7_init_0 : decode cX7_init 0 = .ok (.aload_n 0, 1) := by decide +kernel
theorem dX7_init_1 : decode cX7_init 1 = .ok (.invokespecial 1, 3) := by decide +kernel
theorem dX7_init_4 : decode cX7_init 4 = .ok (.aload_n 0, 1) := by decide +kernel
theorem dX7_init_5 : decode cX7_init 5 = .ok (.iload_n 1, 1) := by decide +kernel
theorem dX7_init_6 : decode cX7_init 6 = .ok (.iload_n 2, 1) := by decide +kernel
theorem dX7_init_7 : decode cX7_init 7 = .ok (.multianewarray 7 2, 4) := by decide +kernel
theorem dX7_init_11 : decode cX7_init 11 = .ok (.putfield 9, 3) := by decide +kernel
theorem dX7_init_14 : decode cX7_init 14 = .ok (.aload_n 0, 1) := by decide +kernel
theorem dX7_init_15 : decode cX7_init 15 = .ok (.iload_n 1, 1) := by decide +kernel
theorem dX7_init_16 : decode cX7_init 16 = .ok (.newarray .int, 2) := by decide +kernel
theorem dX7_init_18 : decode cX7_init 18 = .ok (.putfield 14, 3) := by decide +kernel
theorem dX7_init_21 : decode cX7_init 21 = .ok (.iconst 0, 1) := by decide +kernel
theorem dX7_init_22 : decode cX7_init 22 = .ok (.istore_n 3, 1) := by decide +kernel
theorem dX7_init_23 : decode cX7_init 23 = .ok (.iload_n 3, 1) := by decide +kernel
theorem dX7_init_24 : decode cX7_init 24 = .ok (.iload_n 1, 1) := by decide +kernel
theorem dX7_init_25 : decode cX7_init 25 = .ok (.if_icmp .ge 16, 3) := by decide +kernel
theorem dX7_init_28 : decode cX7_init 28 = .ok (.aload_n 0, 1) := by decide +kernel
theorem dX7_init_29 : decode cX7_init 29 = .ok (.getfield 14, 3) := by decide +kernel
theorem dX7_init_32 : decode cX7_init 32 = .ok (.iload_n 3, 1) := by decide +kernel
theorem dX7_init_33 : decode cX7_init 33 = .ok (.iconst (-1), 1) := by decide +kernel
theorem dX7_init_34 : decode cX7_init 34 = .ok (.iastore, 1) := by decide +kernel
theorem dX7_init_35 : decode cX7_init 35 = .ok (.iinc 3 1, 3) := by decide +kernel
theorem dX7_init_38 : decode cX7_init 38 = .ok (.goto (-15), 3) := by decide +kernel
theorem dX7_init_41 : decode cX7_init 41 = .ok (.return_, 1) := by decide +kernel
theorem wi_X7_init_6_48_1 : b_Wi m_X7_init_6_48_1 := ⟨wc_11, wc_5, wc_12⟩
theorem pi_X7_init_6_48_1 : b_Pk m_X7_init_6_48_1 2 8 300 := ⟨rfl, rfl, rfl, by decide +kernel, rfl, by decide +kernel, rfl⟩
noncomputable def bV_X7_init_6_48_1 (G : qG) (V : qV) : qV := (b_up (b_up (b_up (b_up (b_up (b_up (b_up (b_up (b_up (b_mn V 2 6 (.inl (G.2.2.1 6, 6, .inr (.inr (.inr (.inr (fun i => if i < 6 then some (G.2.2.2 + 2 + 1 + i) else none)))))) (.inl (G.2.2.1 0, 48, .inl (fun _ => 0)))) 1 (.inr (7, [.ref (G.2.2.2 + 2), .null]))) 9 (.inl (G.2.2.1 0, 6, .inl (fun _ => 0)))) 1 (.inr (7, [.ref (G.2.2.2 + 2), .ref (G.2.2.2 + 9)]))) 9 (.inl (G.2.2.1 0, 6, .inl (upd (fun _ => 0) (Int32.toNatClampNeg 0) (-1))))) 9 (.inl (G.2.2.1 0, 6, .inl (upd (upd (fun _ => 0) (Int32.toNatClampNeg 0) (-1)) (Int32.toNatClampNeg 1) (-1))))) 9 (.inl (G.2.2.1 0, 6, .inl (upd (upd (upd (fun _ => 0) (Int32.toNatClampNeg 0) (-1)) (Int32.toNatClampNeg 1) (-1)) (Int32.toNatClampNeg 2) (-1))))) 9 (.inl (G.2.2.1 0, 6, .inl (upd (upd (upd (upd (fun _ => 0) (Int32.toNatClampNeg 0) (-1)) (Int32.toNatClampNeg 1) (-1)) (Int32.toNatClampNeg 2) (-1)) (Int32.toNatClampNeg 3) (-1))))) 9 (.inl (G.2.2.1 0, 6, .inl (upd (upd (upd (upd (upd (fun _ => 0) (Int32.toNatClampNeg 0) (-1)) (Int32.toNatClampNeg 1) (-1)) (Int32.toNatClampNeg 2) (-1)) (Int32.toNatClampNeg 3) (-1)) (Int32.toNatClampNeg 4) (-1))))) 9 (.inl (G.2.2.1 0, 6, .inl (upd (upd (upd (upd (upd (upd (fun _ => 0) (Int32.toNatClampNeg 0) (-1)) (Int32.toNatClampNeg 1) (-1)) (Int32.toNatClampNeg 2) (-1)) (Int32.toNatClampNeg 3) (-1)) (Int32.toNatClampNeg 4) (-1)) (Int32.toNatClampNeg 5) (-1)))))
set_option maxRecDepth 100000 in
set_option maxHeartbeats 8000000 in
theorem kc_X7_init_6_48_1 (l : Launch) (G : qG) (V : qV) (hv : V 1 = .inr (7, [.null, .null])) : qBC l G m_X7_init_6_48_1 [.ref (G.2.2.2 + 1), .int 6, .int 48] 2 V (10, (bV_X7_init_6_48_1 G V), 8, 300) := by
  refine b_entry pi_X7_init_6_48_1 (Nat.le_of_ble_eq_true rfl) ?_
  show qBW l G m_X7_init_6_48_1 _ 0 [(0, .ref (G.2.2.2 + 1)), (1, .int 6), (2, .int 48)] [] 2 V 0 0
  refine bw_aload_n (i := 0) dX7_init_0 1 rfl rfl 0 rfl ?_
  refine bw_objInit dX7_init_1 4 rfl wc_6 wc_1 wc_2 (Nat.le_of_ble_eq_true rfl) (Nat.le_of_ble_eq_true rfl) ?_
  refine bw_aload_n (i := 0) dX7_init_4 5 rfl rfl 0 rfl ?_
  refine bw_iload_n (i := 1) dX7_init_5 6 rfl rfl 1 rfl ?_
  refine bw_iload_n (i := 2) dX7_init_6 7 rfl rfl 2 rfl ?_
  refine bw_mna (N' := 6) (K' := 48) dX7_init_7 11 rfl wc_7 wc_8 (by decide) (by decide) rfl rfl (by decide) (by decide) (by decide) (Nat.le_of_ble_eq_true rfl) (Nat.le_of_ble_eq_true rfl) (9) 7 294 rfl rfl rfl ?_
  refine bw_putF (ci := 7) (fs := [.null, .null]) (T := TX7) (f := 0) (N := 2) dX7_init_11 14 rfl wc_9 in_X7 tyX7_ok nmX7 (by decide) (hv) rfl (by decide) (Nat.le_of_ble_eq_true rfl) rfl rfl rfl rfl rfl [.ref (G.2.2.2 + 2), .null] rfl ?_
  refine bw_aload_n (i := 0) dX7_init_14 15 rfl rfl 0 rfl ?_
  refine bw_iload_n (i := 1) dX7_init_15 16 rfl rfl 1 rfl ?_
  refine bw_newa (t := 0) (N' := 6) (a0 := (6, .inl (fun _ => 0))) dX7_init_16 18 rfl wc_8 rfl rfl rfl (fun _ _ => rfl) (by decide) rfl (by decide) (Nat.le_of_ble_eq_true rfl) (Nat.le_of_ble_eq_true rfl) (10) 8 300 rfl rfl rfl ?_
  refine bw_putF (ci := 7) (fs := [.ref (G.2.2.2 + 2), .null]) (T := TX7) (f := 1) (N := 2) dX7_init_18 21 rfl wc_10 in_X7 tyX7_ok nmX7 (by decide) (rfl) rfl (by decide) (Nat.le_of_ble_eq_true rfl) rfl rfl rfl rfl rfl [.ref (G.2.2.2 + 2), .ref (G.2.2.2 + 9)] rfl ?_
  refine bw_iconst (x := 0) dX7_init_21 22 rfl rfl ?_
  refine bw_istore_n dX7_init_22 23 rfl rfl [(3, .int 0), (0, .ref (G.2.2.2 + 1)), (1, .int 6), (2, .int 48)] (by decide) rfl ?_
  refine bw_iload_n (i := 3) dX7_init_23 24 rfl rfl 0 rfl ?_
  refine bw_iload_n (i := 1) dX7_init_24 25 rfl rfl 2 rfl ?_
  refine bw_icmp_nge (t := 41) dX7_init_25 28 rfl rfl (by decide) ?_
  refine bw_aload_n (i := 0) dX7_init_28 29 rfl rfl 1 rfl ?_
  refine bw_get (T := TX7) (f := 1) (N := 2) (x := .ref (G.2.2.2 + 9)) dX7_init_29 32 rfl wc_10 in_X7 (by decide) (rfl) rfl (by decide) rfl ?_
  refine bw_iload_n (i := 3) dX7_init_32 33 rfl rfl 0 rfl ?_
  refine bw_iconst (x := (-1)) dX7_init_33 34 rfl rfl ?_
  refine bw_iast (f := (fun _ => 0)) (N := 6) dX7_init_34 35 rfl (by decide) (rfl) (by decide) ?_
  refine bw_iinc (i := 3) dX7_init_35 38 rfl 0 rfl 1 rfl [(3, .int 1), (0, .ref (G.2.2.2 + 1)), (1, .int 6), (2, .int 48)] (by decide) rfl ?_
  refine bw_goto dX7_init_38 23 rfl ?_
  refine bw_iload_n (i := 3) dX7_init_23 24 rfl rfl 0 rfl ?_
  refine bw_iload_n (i := 1) dX7_init_24 25 rfl rfl 2 rfl ?_
  refine bw_icmp_nge (t := 41) dX7_init_25 28 rfl rfl (by decide) ?_
  refine bw_aload_n (i := 0) dX7_init_28 29 rfl rfl 1 rfl ?_
  refine bw_get (T := TX7) (f := 1) (N := 2) (x := .ref (G.2.2.2 + 9)) dX7_init_29 32 rfl wc_10 in_X7 (by decide) (rfl) rfl (by decide) rfl ?_
  refine bw_iload_n (i := 3) dX7_init_32 33 rfl rfl 0 rfl ?_
  refine bw_iconst (x := (-1)) dX7_init_33 34 rfl rfl ?_
  refine bw_iast (f := (upd (fun _ => 0) (Int32.toNatClampNeg 0) (-1))) (N := 6) dX7_init_34 35 rfl (by decide) (rfl) (by decide) ?_
  refine bw_iinc (i := 3) dX7_init_35 38 rfl 0 rfl 2 rfl [(3, .int 2), (0, .ref (G.2.2.2 + 1)), (1, .int 6), (2, .int 48)] (by decide) rfl ?_
  refine bw_goto dX7_init_38 23 rfl ?_
  refine bw_iload_n (i := 3) dX7_init_23 24 rfl rfl 0 rfl ?_
  refine bw_iload_n (i := 1) dX7_init_24 25 rfl rfl 2 rfl ?_
  refine bw_icmp_nge (t := 41) dX7_init_25 28 rfl rfl (by decide) ?_
  refine bw_aload_n (i := 0) dX7_init_28 29 rfl rfl 1 rfl ?_
  refine bw_get (T := TX7) (f := 1) (N := 2) (x := .ref (G.2.2.2 + 9)) dX7_init_29 32 rfl wc_10 in_X7 (by decide) (rfl) rfl (by decide) rfl ?_
  refine bw_iload_n (i := 3) dX7_init_32 33 rfl rfl 0 rfl ?_
  refine bw_iconst (x := (-1)) dX7_init_33 34 rfl rfl ?_
  refine bw_iast (f := (upd (upd (fun _ => 0) (Int32.toNatClampNeg 0) (-1)) (Int32.toNatClampNeg 1) (-1))) (N := 6) dX7_init_34 35 rfl (by decide) (rfl) (by decide) ?_
  refine bw_iinc (i := 3) dX7_init_35 38 rfl 0 rfl 3 rfl [(3, .int 3), (0, .ref (G.2.2.2 + 1)), (1, .int 6), (2, .int 48)] (by decide) rfl ?_
  refine bw_goto dX7_init_38 23 rfl ?_
  refine bw_iload_n (i := 3) dX7_init_23 24 rfl rfl 0 rfl ?_
  refine bw_iload_n (i := 1) dX7_init_24 25 rfl rfl 2 rfl ?_
  refine bw_icmp_nge (t := 41) dX7_init_25 28 rfl rfl (by decide) ?_
  refine bw_aload_n (i := 0) dX7_init_28 29 rfl rfl 1 rfl ?_
  refine bw_get (T := TX7) (f := 1) (N := 2) (x := .ref (G.2.2.2 + 9)) dX7_init_29 32 rfl wc_10 in_X7 (by decide) (rfl) rfl (by decide) rfl ?_
  refine bw_iload_n (i := 3) dX7_init_32 33 rfl rfl 0 rfl ?_
  refine bw_iconst (x := (-1)) dX7_init_33 34 rfl rfl ?_
  refine bw_iast (f := (upd (upd (upd (fun _ => 0) (Int32.toNatClampNeg 0) (-1)) (Int32.toNatClampNeg 1) (-1)) (Int32.toNatClampNeg 2) (-1))) (N := 6) dX7_init_34 35 rfl (by decide) (rfl) (by decide) ?_
  refine bw_iinc (i := 3) dX7_init_35 38 rfl 0 rfl 4 rfl [(3, .int 4), (0, .ref (G.2.2.2 + 1)), (1, .int 6), (2, .int 48)] (by decide) rfl ?_
  refine bw_goto dX7_init_38 23 rfl ?_
  refine bw_iload_n (i := 3) dX7_init_23 24 rfl rfl 0 rfl ?_
  refine bw_iload_n (i := 1) dX7_init_24 25 rfl rfl 2 rfl ?_
  refine bw_icmp_nge (t := 41) dX7_init_25 28 rfl rfl (by decide) ?_
  refine bw_aload_n (i := 0) dX7_init_28 29 rfl rfl 1 rfl ?_
  refine bw_get (T := TX7) (f := 1) (N := 2) (x := .ref (G.2.2.2 + 9)) dX7_init_29 32 rfl wc_10 in_X7 (by decide) (rfl) rfl (by decide) rfl ?_
  refine bw_iload_n (i := 3) dX7_init_32 33 rfl rfl 0 rfl ?_
  refine bw_iconst (x := (-1)) dX7_init_33 34 rfl rfl ?_
  refine bw_iast (f := (upd (upd (upd (upd (fun _ => 0) (Int32.toNatClampNeg 0) (-1)) (Int32.toNatClampNeg 1) (-1)) (Int32.toNatClampNeg 2) (-1)) (Int32.toNatClampNeg 3) (-1))) (N := 6) dX7_init_34 35 rfl (by decide) (rfl) (by decide) ?_
  refine bw_iinc (i := 3) dX7_init_35 38 rfl 0 rfl 5 rfl [(3, .int 5), (0, .ref (G.2.2.2 + 1)), (1, .int 6), (2, .int 48)] (by decide) rfl ?_
  refine bw_goto dX7_init_38 23 rfl ?_
  refine bw_iload_n (i := 3) dX7_init_23 24 rfl rfl 0 rfl ?_
  refine bw_iload_n (i := 1) dX7_init_24 25 rfl rfl 2 rfl ?_
  refine bw_icmp_nge (t := 41) dX7_init_25 28 rfl rfl (by decide) ?_
  refine bw_aload_n (i := 0) dX7_init_28 29 rfl rfl 1 rfl ?_
  refine bw_get (T := TX7) (f := 1) (N := 2) (x := .ref (G.2.2.2 + 9)) dX7_init_29 32 rfl wc_10 in_X7 (by decide) (rfl) rfl (by decide) rfl ?_
  refine bw_iload_n (i := 3) dX7_init_32 33 rfl rfl 0 rfl ?_
  refine bw_iconst (x := (-1)) dX7_init_33 34 rfl rfl ?_
  refine bw_iast (f := (upd (upd (upd (upd (upd (fun _ => 0) (Int32.toNatClampNeg 0) (-1)) (Int32.toNatClampNeg 1) (-1)) (Int32.toNatClampNeg 2) (-1)) (Int32.toNatClampNeg 3) (-1)) (Int32.toNatClampNeg 4) (-1))) (N := 6) dX7_init_34 35 rfl (by decide) (rfl) (by decide) ?_
  refine bw_iinc (i := 3) dX7_init_35 38 rfl 0 rfl 6 rfl [(3, .int 6), (0, .ref (G.2.2.2 + 1)), (1, .int 6), (2, .int 48)] (by decide) rfl ?_
  refine bw_goto dX7_init_38 23 rfl ?_
  refine bw_iload_n (i := 3) dX7_init_23 24 rfl rfl 0 rfl ?_
  refine bw_iload_n (i := 1) dX7_init_24 25 rfl rfl 2 rfl ?_
  refine bw_icmp_ge dX7_init_25 41 rfl (by decide) ?_
  exact bw_ret dX7_init_41 rfl rfl rfl rfl rfl
def m_X7_init_6_40_10 : qMd := ({ frames := 1, cells := 8, slots := 252, locals := 40 }, RX7, yX7_init, cX7_init, 4, none)
theorem wi_X7_init_6_40_10 : b_Wi m_X7_init_6_40_10 := ⟨wc_11, wc_5, wc_12⟩
theorem pi_X7_init_6_40_10 : b_Pk m_X7_init_6_40_10 2 8 252 := ⟨rfl, rfl, rfl, by decide +kernel, rfl, by decide +kernel, rfl⟩
noncomputable def bV_X7_init_6_40_10 (G : qG) (V : qV) : qV := (b_up (b_up (b_up (b_up (b_up (b_up (b_up (b_up (b_up (b_mn V 11 6 (.inl (G.2.2.1 6, 6, .inr (.inr (.inr (.inr (fun i => if i < 6 then some (G.2.2.2 + 11 + 1 + i) else none)))))) (.inl (G.2.2.1 0, 40, .inl (fun _ => 0)))) 10 (.inr (7, [.ref (G.2.2.2 + 11), .null]))) 18 (.inl (G.2.2.1 0, 6, .inl (fun _ => 0)))) 10 (.inr (7, [.ref (G.2.2.2 + 11), .ref (G.2.2.2 + 18)]))) 18 (.inl (G.2.2.1 0, 6, .inl (upd (fun _ => 0) (Int32.toNatClampNeg 0) (-1))))) 18 (.inl (G.2.2.1 0, 6, .inl (upd (upd (fun _ => 0) (Int32.toNatClampNeg 0) (-1)) (Int32.toNatClampNeg 1) (-1))))) 18 (.inl (G.2.2.1 0, 6, .inl (upd (upd (upd (fun _ => 0) (Int32.toNatClampNeg 0) (-1)) (Int32.toNatClampNeg 1) (-1)) (Int32.toNatClampNeg 2) (-1))))) 18 (.inl (G.2.2.1 0, 6, .inl (upd (upd (upd (upd (fun _ => 0) (Int32.toNatClampNeg 0) (-1)) (Int32.toNatClampNeg 1) (-1)) (Int32.toNatClampNeg 2) (-1)) (Int32.toNatClampNeg 3) (-1))))) 18 (.inl (G.2.2.1 0, 6, .inl (upd (upd (upd (upd (upd (fun _ => 0) (Int32.toNatClampNeg 0) (-1)) (Int32.toNatClampNeg 1) (-1)) (Int32.toNatClampNeg 2) (-1)) (Int32.toNatClampNeg 3) (-1)) (Int32.toNatClampNeg 4) (-1))))) 18 (.inl (G.2.2.1 0, 6, .inl (upd (upd (upd (upd (upd (upd (fun _ => 0) (Int32.toNatClampNeg 0) (-1)) (Int32.toNatClampNeg 1) (-1)) (Int32.toNatClampNeg 2) (-1)) (Int32.toNatClampNeg 3) (-1)) (Int32.toNatClampNeg 4) (-1)) (Int32.toNatClampNeg 5) (-1)))))
set_option maxRecDepth 100000 in
set_option maxHeartbeats 8000000 in
theorem kc_X7_init_6_40_10 (l : Launch) (G : qG) (V : qV) (hv : V 10 = .inr (7, [.null, .null])) : qBC l G m_X7_init_6_40_10 [.ref (G.2.2.2 + 10), .int 6, .int 40] 11 V (19, (bV_X7_init_6_40_10 G V), 8, 252) := by
  refine b_entry pi_X7_init_6_40_10 (Nat.le_of_ble_eq_true rfl) ?_
  show qBW l G m_X7_init_6_40_10 _ 0 [(0, .ref (G.2.2.2 + 10)), (1, .int 6), (2, .int 40)] [] 11 V 0 0
  refine bw_aload_n (i := 0) dX7_init_0 1 rfl rfl 0 rfl ?_
  refine bw_objInit dX7_init_1 4 rfl wc_6 wc_1 wc_2 (Nat.le_of_ble_eq_true rfl) (Nat.le_of_ble_eq_true rfl) ?_
  refine bw_aload_n (i := 0) dX7_init_4 5 rfl rfl 0 rfl ?_
  refine bw_iload_n (i := 1) dX7_init_5 6 rfl rfl 1 rfl ?_
  refine bw_iload_n (i := 2) dX7_init_6 7 rfl rfl 2 rfl ?_
  refine bw_mna (N' := 6) (K' := 40) dX7_init_7 11 rfl wc_7 wc_8 (by decide) (by decide) rfl rfl (by decide) (by decide) (by decide) (Nat.le_of_ble_eq_true rfl) (Nat.le_of_ble_eq_true rfl) (18) 7 246 rfl rfl rfl ?_
  refine bw_putF (ci := 7) (fs := [.null, .null]) (T := TX7) (f := 0) (N := 2) dX7_init_11 14 rfl wc_9 in_X7 tyX7_ok nmX7 (by decide) (hv) rfl (by decide) (Nat.le_of_ble_eq_true rfl) rfl rfl rfl rfl rfl [.ref (G.2.2.2 + 11), .null] rfl ?_
  refine bw_aload_n (i := 0) dX7_init_14 15 rfl rfl 0 rfl ?_
  refine bw_iload_n (i := 1) dX7_init_15 16 rfl rfl 1 rfl ?_
  refine bw_newa (t := 0) (N' := 6) (a0 := (6, .inl (fun _ => 0))) dX7_init_16 18 rfl wc_8 rfl rfl rfl (fun _ _ => rfl) (by decide) rfl (by decide) (Nat.le_of_ble_eq_true rfl) (Nat.le_of_ble_eq_true rfl) (19) 8 252 rfl rfl rfl ?_
  refine bw_putF (ci := 7) (fs := [.ref (G.2.2.2 + 11), .null]) (T := TX7) (f := 1) (N := 2) dX7_init_18 21 rfl wc_10 in_X7 tyX7_ok nmX7 (by decide) (rfl) rfl (by decide) (Nat.le_of_ble_eq_true rfl) rfl rfl rfl rfl rfl [.ref (G.2.2.2 + 11), .ref (G.2.2.2 + 18)] rfl ?_
  refine bw_iconst (x := 0) dX7_init_21 22 rfl rfl ?_
  refine bw_istore_n dX7_init_22 23 rfl rfl [(3, .int 0), (0, .ref (G.2.2.2 + 10)), (1, .int 6), (2, .int 40)] (by decide) rfl ?_
  refine bw_iload_n (i := 3) dX7_init_23 24 rfl rfl 0 rfl ?_
  refine bw_iload_n (i := 1) dX7_init_24 25 rfl rfl 2 rfl ?_
  refine bw_icmp_nge (t := 41) dX7_init_25 28 rfl rfl (by decide) ?_
  refine bw_aload_n (i := 0) dX7_init_28 29 rfl rfl 1 rfl ?_
  refine bw_get (T := TX7) (f := 1) (N := 2) (x := .ref (G.2.2.2 + 18)) dX7_init_29 32 rfl wc_10 in_X7 (by decide) (rfl) rfl (by decide) rfl ?_
  refine bw_iload_n (i := 3) dX7_init_32 33 rfl rfl 0 rfl ?_
  refine bw_iconst (x := (-1)) dX7_init_33 34 rfl rfl ?_
  refine bw_iast (f := (fun _ => 0)) (N := 6) dX7_init_34 35 rfl (by decide) (rfl) (by decide) ?_
  refine bw_iinc (i := 3) dX7_init_35 38 rfl 0 rfl 1 rfl [(3, .int 1), (0, .ref (G.2.2.2 + 10)), (1, .int 6), (2, .int 40)] (by decide) rfl ?_
  refine bw_goto dX7_init_38 23 rfl ?_
  refine bw_iload_n (i := 3) dX7_init_23 24 rfl rfl 0 rfl ?_
  refine bw_iload_n (i := 1) dX7_init_24 25 rfl rfl 2 rfl ?_
  refine bw_icmp_nge (t := 41) dX7_init_25 28 rfl rfl (by decide) ?_
  refine bw_aload_n (i := 0) dX7_init_28 29 rfl rfl 1 rfl ?_
  refine bw_get (T := TX7) (f := 1) (N := 2) (x := .ref (G.2.2.2 + 18)) dX7_init_29 32 rfl wc_10 in_X7 (by decide) (rfl) rfl (by decide) rfl ?_
  refine bw_iload_n (i := 3) dX7_init_32 33 rfl rfl 0 rfl ?_
  refine bw_iconst (x := (-1)) dX7_init_33 34 rfl rfl ?_
  refine bw_iast (f := (upd (fun _ => 0) (Int32.toNatClampNeg 0) (-1))) (N := 6) dX7_init_34 35 rfl (by decide) (rfl) (by decide) ?_
  refine bw_iinc (i := 3) dX7_init_35 38 rfl 0 rfl 2 rfl [(3, .int 2), (0, .ref (G.2.2.2 + 10)), (1, .int 6), (2, .int 40)] (by decide) rfl ?_
  refine bw_goto dX7_init_38 23 rfl ?_
  refine bw_iload_n (i := 3) dX7_init_23 24 rfl rfl 0 rfl ?_
  refine bw_iload_n (i := 1) dX7_init_24 25 rfl rfl 2 rfl ?_
  refine bw_icmp_nge (t := 41) dX7_init_25 28 rfl rfl (by decide) ?_
  refine bw_aload_n (i := 0) dX7_init_28 29 rfl rfl 1 rfl ?_
  refine bw_get (T := TX7) (f := 1) (N := 2) (x := .ref (G.2.2.2 + 18)) dX7_init_29 32 rfl wc_10 in_X7 (by decide) (rfl) rfl (by decide) rfl ?_
  refine bw_iload_n (i := 3) dX7_init_32 33 rfl rfl 0 rfl ?_
  refine bw_iconst (x := (-1)) dX7_init_33 34 rfl rfl ?_
  refine bw_iast (f := (upd (upd (fun _ => 0) (Int32.toNatClampNeg 0) (-1)) (Int32.toNatClampNeg 1) (-1))) (N := 6) dX7_init_34 35 rfl (by decide) (rfl) (by decide) ?_
  refine bw_iinc (i := 3) dX7_init_35 38 rfl 0 rfl 3 rfl [(3, .int 3), (0, .ref (G.2.2.2 + 10)), (1, .int 6), (2, .int 40)] (by decide) rfl ?_
  refine bw_goto dX7_init_38 23 rfl ?_
  refine bw_iload_n (i := 3) dX7_init_23 24 rfl rfl 0 rfl ?_
  refine bw_iload_n (i := 1) dX7_init_24 25 rfl rfl 2 rfl ?_
  refine bw_icmp_nge (t := 41) dX7_init_25 28 rfl rfl (by decide) ?_
  refine bw_aload_n (i := 0) dX7_init_28 29 rfl rfl 1 rfl ?_
  refine bw_get (T := TX7) (f := 1) (N := 2) (x := .ref (G.2.2.2 + 18)) dX7_init_29 32 rfl wc_10 in_X7 (by decide) (rfl) rfl (by decide) rfl ?_
  refine bw_iload_n (i := 3) dX7_init_32 33 rfl rfl 0 rfl ?_
  refine bw_iconst (x := (-1)) dX7_init_33 34 rfl rfl ?_
  refine bw_iast (f := (upd (upd (upd (fun _ => 0) (Int32.toNatClampNeg 0) (-1)) (Int32.toNatClampNeg 1) (-1)) (Int32.toNatClampNeg 2) (-1))) (N := 6) dX7_init_34 35 rfl (by decide) (rfl) (by decide) ?_
  refine bw_iinc (i := 3) dX7_init_35 38 rfl 0 rfl 4 rfl [(3, .int 4), (0, .ref (G.2.2.2 + 10)), (1, .int 6), (2, .int 40)] (by decide) rfl ?_
  refine bw_goto dX7_init_38 23 rfl ?_
  refine bw_iload_n (i := 3) dX7_init_23 24 rfl rfl 0 rfl ?_
  refine bw_iload_n (i := 1) dX7_init_24 25 rfl rfl 2 rfl ?_
  refine bw_icmp_nge (t := 41) dX7_init_25 28 rfl rfl (by decide) ?_
  refine bw_aload_n (i := 0) dX7_init_28 29 rfl rfl 1 rfl ?_
  refine bw_get (T := TX7) (f := 1) (N := 2) (x := .ref (G.2.2.2 + 18)) dX7_init_29 32 rfl wc_10 in_X7 (by decide) (rfl) rfl (by decide) rfl ?_
  refine bw_iload_n (i := 3) dX7_init_32 33 rfl rfl 0 rfl ?_
  refine bw_iconst (x := (-1)) dX7_init_33 34 rfl rfl ?_
  refine bw_iast (f := (upd (upd (upd (upd (fun _ => 0) (Int32.toNatClampNeg 0) (-1)) (Int32.toNatClampNeg 1) (-1)) (Int32.toNatClampNeg 2) (-1)) (Int32.toNatClampNeg 3) (-1))) (N := 6) dX7_init_34 35 rfl (by decide) (rfl) (by decide) ?_
  refine bw_iinc (i := 3) dX7_init_35 38 rfl 0 rfl 5 rfl [(3, .int 5), (0, .ref (G.2.2.2 + 10)), (1, .int 6), (2, .int 40)] (by decide) rfl ?_
  refine bw_goto dX7_init_38 23 rfl ?_
  refine bw_iload_n (i := 3) dX7_init_23 24 rfl rfl 0 rfl ?_
  refine bw_iload_n (i := 1) dX7_init_24 25 rfl rfl 2 rfl ?_
  refine bw_icmp_nge (t := 41) dX7_init_25 28 rfl rfl (by decide) ?_
  refine bw_aload_n (i := 0) dX7_init_28 29 rfl rfl 1 rfl ?_
  refine bw_get (T := TX7) (f := 1) (N := 2) (x := .ref (G.2.2.2 + 18)) dX7_init_29 32 rfl wc_10 in_X7 (by decide) (rfl) rfl (by decide) rfl ?_
  refine bw_iload_n (i := 3) dX7_init_32 33 rfl rfl 0 rfl ?_
  refine bw_iconst (x := (-1)) dX7_init_33 34 rfl rfl ?_
  refine bw_iast (f := (upd (upd (upd (upd (upd (fun _ => 0) (Int32.toNatClampNeg 0) (-1)) (Int32.toNatClampNeg 1) (-1)) (Int32.toNatClampNeg 2) (-1)) (Int32.toNatClampNeg 3) (-1)) (Int32.toNatClampNeg 4) (-1))) (N := 6) dX7_init_34 35 rfl (by decide) (rfl) (by decide) ?_
  refine bw_iinc (i := 3) dX7_init_35 38 rfl 0 rfl 6 rfl [(3, .int 6), (0, .ref (G.2.2.2 + 10)), (1, .int 6), (2, .int 40)] (by decide) rfl ?_
  refine bw_goto dX7_init_38 23 rfl ?_
  refine bw_iload_n (i := 3) dX7_init_23 24 rfl rfl 0 rfl ?_
  refine bw_iload_n (i := 1) dX7_init_24 25 rfl rfl 2 rfl ?_
  refine bw_icmp_ge dX7_init_25 41 rfl (by decide) ?_
  exact bw_ret dX7_init_41 rfl rfl rfl rfl rfl
def m_X7_init_8_40_19 : qMd := ({ frames := 1, cells := 10, slots := 336, locals := 40 }, RX7, yX7_init, cX7_init, 4, none)
theorem wi_X7_init_8_40_19 : b_Wi m_X7_init_8_40_19 := ⟨wc_11, wc_5, wc_12⟩
theorem pi_X7_init_8_40_19 : b_Pk m_X7_init_8_40_19 2 10 336 := ⟨rfl, rfl, rfl, by decide +kernel, rfl, by decide +kernel, rfl⟩
noncomputable def bV_X7_init_8_40_19 (G : qG) (V : qV) : qV := (b_up (b_up (b_up (b_up (b_up (b_up (b_up (b_up (b_up (b_up (b_up (b_mn V 20 8 (.inl (G.2.2.1 6, 8, .inr (.inr (.inr (.inr (fun i => if i < 8 then some (G.2.2.2 + 20 + 1 + i) else none)))))) (.inl (G.2.2.1 0, 40, .inl (fun _ => 0)))) 19 (.inr (7, [.ref (G.2.2.2 + 20), .null]))) 29 (.inl (G.2.2.1 0, 8, .inl (fun _ => 0)))) 19 (.inr (7, [.ref (G.2.2.2 + 20), .ref (G.2.2.2 + 29)]))) 29 (.inl (G.2.2.1 0, 8, .inl (upd (fun _ => 0) (Int32.toNatClampNeg 0) (-1))))) 29 (.inl (G.2.2.1 0, 8, .inl (upd (upd (fun _ => 0) (Int32.toNatClampNeg 0) (-1)) (Int32.toNatClampNeg 1) (-1))))) 29 (.inl (G.2.2.1 0, 8, .inl (upd (upd (upd (fun _ => 0) (Int32.toNatClampNeg 0) (-1)) (Int32.toNatClampNeg 1) (-1)) (Int32.toNatClampNeg 2) (-1))))) 29 (.inl (G.2.2.1 0, 8, .inl (upd (upd (upd (upd (fun _ => 0) (Int32.toNatClampNeg 0) (-1)) (Int32.toNatClampNeg 1) (-1)) (Int32.toNatClampNeg 2) (-1)) (Int32.toNatClampNeg 3) (-1))))) 29 (.inl (G.2.2.1 0, 8, .inl (upd (upd (upd (upd (upd (fun _ => 0) (Int32.toNatClampNeg 0) (-1)) (Int32.toNatClampNeg 1) (-1)) (Int32.toNatClampNeg 2) (-1)) (Int32.toNatClampNeg 3) (-1)) (Int32.toNatClampNeg 4) (-1))))) 29 (.inl (G.2.2.1 0, 8, .inl (upd (upd (upd (upd (upd (upd (fun _ => 0) (Int32.toNatClampNeg 0) (-1)) (Int32.toNatClampNeg 1) (-1)) (Int32.toNatClampNeg 2) (-1)) (Int32.toNatClampNeg 3) (-1)) (Int32.toNatClampNeg 4) (-1)) (Int32.toNatClampNeg 5) (-1))))) 29 (.inl (G.2.2.1 0, 8, .inl (upd (upd (upd (upd (upd (upd (upd (fun _ => 0) (Int32.toNatClampNeg 0) (-1)) (Int32.toNatClampNeg 1) (-1)) (Int32.toNatClampNeg 2) (-1)) (Int32.toNatClampNeg 3) (-1)) (Int32.toNatClampNeg 4) (-1)) (Int32.toNatClampNeg 5) (-1)) (Int32.toNatClampNeg 6) (-1))))) 29 (.inl (G.2.2.1 0, 8, .inl (upd (upd (upd (upd (upd (upd (upd (upd (fun _ => 0) (Int32.toNatClampNeg 0) (-1)) (Int32.toNatClampNeg 1) (-1)) (Int32.toNatClampNeg 2) (-1)) (Int32.toNatClampNeg 3) (-1)) (Int32.toNatClampNeg 4) (-1)) (Int32.toNatClampNeg 5) (-1)) (Int32.toNatClampNeg 6) (-1)) (Int32.toNatClampNeg 7) (-1)))))
set_option maxRecDepth 100000 in
set_option maxHeartbeats 8000000 in
theorem kc_X7_init_8_40_19 (l : Launch) (G : qG) (V : qV) (hv : V 19 = .inr (7, [.null, .null])) : qBC l G m_X7_init_8_40_19 [.ref (G.2.2.2 + 19), .int 8, .int 40] 20 V (30, (bV_X7_init_8_40_19 G V), 10, 336) := by
  refine b_entry pi_X7_init_8_40_19 (Nat.le_of_ble_eq_true rfl) ?_
  show qBW l G m_X7_init_8_40_19 _ 0 [(0, .ref (G.2.2.2 + 19)), (1, .int 8), (2, .int 40)] [] 20 V 0 0
  refine bw_aload_n (i := 0) dX7_init_0 1 rfl rfl 0 rfl ?_
  refine bw_objInit dX7_init_1 4 rfl wc_6 wc_1 wc_2 (Nat.le_of_ble_eq_true rfl) (Nat.le_of_ble_eq_true rfl) ?_
  refine bw_aload_n (i := 0) dX7_init_4 5 rfl rfl 0 rfl ?_
  refine bw_iload_n (i := 1) dX7_init_5 6 rfl rfl 1 rfl ?_
  refine bw_iload_n (i := 2) dX7_init_6 7 rfl rfl 2 rfl ?_
  refine bw_mna (N' := 8) (K' := 40) dX7_init_7 11 rfl wc_7 wc_8 (by decide) (by decide) rfl rfl (by decide) (by decide) (by decide) (Nat.le_of_ble_eq_true rfl) (Nat.le_of_ble_eq_true rfl) (29) 9 328 rfl rfl rfl ?_
  refine bw_putF (ci := 7) (fs := [.null, .null]) (T := TX7) (f := 0) (N := 2) dX7_init_11 14 rfl wc_9 in_X7 tyX7_ok nmX7 (by decide) (hv) rfl (by decide) (Nat.le_of_ble_eq_true rfl) rfl rfl rfl rfl rfl [.ref (G.2.2.2 + 20), .null] rfl ?_
  refine bw_aload_n (i := 0) dX7_init_14 15 rfl rfl 0 rfl ?_
  refine bw_iload_n (i := 1) dX7_init_15 16 rfl rfl 1 rfl ?_
  refine bw_newa (t := 0) (N' := 8) (a0 := (8, .inl (fun _ => 0))) dX7_init_16 18 rfl wc_8 rfl rfl rfl (fun _ _ => rfl) (by decide) rfl (by decide) (Nat.le_of_ble_eq_true rfl) (Nat.le_of_ble_eq_true rfl) (30) 10 336 rfl rfl rfl ?_
  refine bw_putF (ci := 7) (fs := [.ref (G.2.2.2 + 20), .null]) (T := TX7) (f := 1) (N := 2) dX7_init_18 21 rfl wc_10 in_X7 tyX7_ok nmX7 (by decide) (rfl) rfl (by decide) (Nat.le_of_ble_eq_true rfl) rfl rfl rfl rfl rfl [.ref (G.2.2.2 + 20), .ref (G.2.2.2 + 29)] rfl ?_
  refine bw_iconst (x := 0) dX7_init_21 22 rfl rfl ?_
  refine bw_istore_n dX7_init_22 23 rfl rfl [(3, .int 0), (0, .ref (G.2.2.2 + 19)), (1, .int 8), (2, .int 40)] (by decide) rfl ?_
  refine bw_iload_n (i := 3) dX7_init_23 24 rfl rfl 0 rfl ?_
  refine bw_iload_n (i := 1) dX7_init_24 25 rfl rfl 2 rfl ?_
  refine bw_icmp_nge (t := 41) dX7_init_25 28 rfl rfl (by decide) ?_
  refine bw_aload_n (i := 0) dX7_init_28 29 rfl rfl 1 rfl ?_
  refine bw_get (T := TX7) (f := 1) (N := 2) (x := .ref (G.2.2.2 + 29)) dX7_init_29 32 rfl wc_10 in_X7 (by decide) (rfl) rfl (by decide) rfl ?_
  refine bw_iload_n (i := 3) dX7_init_32 33 rfl rfl 0 rfl ?_
  refine bw_iconst (x := (-1)) dX7_init_33 34 rfl rfl ?_
  refine bw_iast (f := (fun _ => 0)) (N := 8) dX7_init_34 35 rfl (by decide) (rfl) (by decide) ?_
  refine bw_iinc (i := 3) dX7_init_35 38 rfl 0 rfl 1 rfl [(3, .int 1), (0, .ref (G.2.2.2 + 19)), (1, .int 8), (2, .int 40)] (by decide) rfl ?_
  refine bw_goto dX7_init_38 23 rfl ?_
  refine bw_iload_n (i := 3) dX7_init_23 24 rfl rfl 0 rfl ?_
  refine bw_iload_n (i := 1) dX7_init_24 25 rfl rfl 2 rfl ?_
  refine bw_icmp_nge (t := 41) dX7_init_25 28 rfl rfl (by decide) ?_
  refine bw_aload_n (i := 0) dX7_init_28 29 rfl rfl 1 rfl ?_
  refine bw_get (T := TX7) (f := 1) (N := 2) (x := .ref (G.2.2.2 + 29)) dX7_init_29 32 rfl wc_10 in_X7 (by decide) (rfl) rfl (by decide) rfl ?_
  refine bw_iload_n (i := 3) dX7_init_32 33 rfl rfl 0 rfl ?_
  refine bw_iconst (x := (-1)) dX7_init_33 34 rfl rfl ?_
  refine bw_iast (f := (upd (fun _ => 0) (Int32.toNatClampNeg 0) (-1))) (N := 8) dX7_init_34 35 rfl (by decide) (rfl) (by decide) ?_
  refine bw_iinc (i := 3) dX7_init_35 38 rfl 0 rfl 2 rfl [(3, .int 2), (0, .ref (G.2.2.2 + 19)), (1, .int 8), (2, .int 40)] (by decide) rfl ?_
  refine bw_goto dX7_init_38 23 rfl ?_
  refine bw_iload_n (i := 3) dX7_init_23 24 rfl rfl 0 rfl ?_
  refine bw_iload_n (i := 1) dX7_init_24 25 rfl rfl 2 rfl ?_
  refine bw_icmp_nge (t := 41) dX7_init_25 28 rfl rfl (by decide) ?_
  refine bw_aload_n (i := 0) dX7_init_28 29 rfl rfl 1 rfl ?_
  refine bw_get (T := TX7) (f := 1) (N := 2) (x := .ref (G.2.2.2 + 29)) dX7_init_29 32 rfl wc_10 in_X7 (by decide) (rfl) rfl (by decide) rfl ?_
  refine bw_iload_n (i := 3) dX7_init_32 33 rfl rfl 0 rfl ?_
  refine bw_iconst (x := (-1)) dX7_init_33 34 rfl rfl ?_
  refine bw_iast (f := (upd (upd (fun _ => 0) (Int32.toNatClampNeg 0) (-1)) (Int32.toNatClampNeg 1) (-1))) (N := 8) dX7_init_34 35 rfl (by decide) (rfl) (by decide) ?_
  refine bw_iinc (i := 3) dX7_init_35 38 rfl 0 rfl 3 rfl [(3, .int 3), (0, .ref (G.2.2.2 + 19)), (1, .int 8), (2, .int 40)] (by decide) rfl ?_
  refine bw_goto dX7_init_38 23 rfl ?_
  refine bw_iload_n (i := 3) dX7_init_23 24 rfl rfl 0 rfl ?_
  refine bw_iload_n (i := 1) dX7_init_24 25 rfl rfl 2 rfl ?_
  refine bw_icmp_nge (t := 41) dX7_init_25 28 rfl rfl (by decide) ?_
  refine bw_aload_n (i := 0) dX7_init_28 29 rfl rfl 1 rfl ?_
  refine bw_get (T := TX7) (f := 1) (N := 2) (x := .ref (G.2.2.2 + 29)) dX7_init_29 32 rfl wc_10 in_X7 (by decide) (rfl) rfl (by decide) rfl ?_
  refine bw_iload_n (i := 3) dX7_init_32 33 rfl rfl 0 rfl ?_
  refine bw_iconst (x := (-1)) dX7_init_33 34 rfl rfl ?_
  refine bw_iast (f := (upd (upd (upd (fun _ => 0) (Int32.toNatClampNeg 0) (-1)) (Int32.toNatClampNeg 1) (-1)) (Int32.toNatClampNeg 2) (-1))) (N := 8) dX7_init_34 35 rfl (by decide) (rfl) (by decide) ?_
  refine bw_iinc (i := 3) dX7_init_35 38 rfl 0 rfl 4 rfl [(3, .int 4), (0, .ref (G.2.2.2 + 19)), (1, .int 8), (2, .int 40)] (by decide) rfl ?_
  refine bw_goto dX7_init_38 23 rfl ?_
  refine bw_iload_n (i := 3) dX7_init_23 24 rfl rfl 0 rfl ?_
  refine bw_iload_n (i := 1) dX7_init_24 25 rfl rfl 2 rfl ?_
  refine bw_icmp_nge (t := 41) dX7_init_25 28 rfl rfl (by decide) ?_
  refine bw_aload_n (i := 0) dX7_init_28 29 rfl rfl 1 rfl ?_
  refine bw_get (T := TX7) (f := 1) (N := 2) (x := .ref (G.2.2.2 + 29)) dX7_init_29 32 rfl wc_10 in_X7 (by decide) (rfl) rfl (by decide) rfl ?_
  refine bw_iload_n (i := 3) dX7_init_32 33 rfl rfl 0 rfl ?_
  refine bw_iconst (x := (-1)) dX7_init_33 34 rfl rfl ?_
  refine bw_iast (f := (upd (upd (upd (upd (fun _ => 0) (Int32.toNatClampNeg 0) (-1)) (Int32.toNatClampNeg 1) (-1)) (Int32.toNatClampNeg 2) (-1)) (Int32.toNatClampNeg 3) (-1))) (N := 8) dX7_init_34 35 rfl (by decide) (rfl) (by decide) ?_
  refine bw_iinc (i := 3) dX7_init_35 38 rfl 0 rfl 5 rfl [(3, .int 5), (0, .ref (G.2.2.2 + 19)), (1, .int 8), (2, .int 40)] (by decide) rfl ?_
  refine bw_goto dX7_init_38 23 rfl ?_
  refine bw_iload_n (i := 3) dX7_init_23 24 rfl rfl 0 rfl ?_
  refine bw_iload_n (i := 1) dX7_init_24 25 rfl rfl 2 rfl ?_
  refine bw_icmp_nge (t := 41) dX7_init_25 28 rfl rfl (by decide) ?_
  refine bw_aload_n (i := 0) dX7_init_28 29 rfl rfl 1 rfl ?_
  refine bw_get (T := TX7) (f := 1) (N := 2) (x := .ref (G.2.2.2 + 29)) dX7_init_29 32 rfl wc_10 in_X7 (by decide) (rfl) rfl (by decide) rfl ?_
  refine bw_iload_n (i := 3) dX7_init_32 33 rfl rfl 0 rfl ?_
  refine bw_iconst (x := (-1)) dX7_init_33 34 rfl rfl ?_
  refine bw_iast (f := (upd (upd (upd (upd (upd (fun _ => 0) (Int32.toNatClampNeg 0) (-1)) (Int32.toNatClampNeg 1) (-1)) (Int32.toNatClampNeg 2) (-1)) (Int32.toNatClampNeg 3) (-1)) (Int32.toNatClampNeg 4) (-1))) (N := 8) dX7_init_34 35 rfl (by decide) (rfl) (by decide) ?_
  refine bw_iinc (i := 3) dX7_init_35 38 rfl 0 rfl 6 rfl [(3, .int 6), (0, .ref (G.2.2.2 + 19)), (1, .int 8), (2, .int 40)] (by decide) rfl ?_
  refine bw_goto dX7_init_38 23 rfl ?_
  refine bw_iload_n (i := 3) dX7_init_23 24 rfl rfl 0 rfl ?_
  refine bw_iload_n (i := 1) dX7_init_24 25 rfl rfl 2 rfl ?_
  refine bw_icmp_nge (t := 41) dX7_init_25 28 rfl rfl (by decide) ?_
  refine bw_aload_n (i := 0) dX7_init_28 29 rfl rfl 1 rfl ?_
  refine bw_get (T := TX7) (f := 1) (N := 2) (x := .ref (G.2.2.2 + 29)) dX7_init_29 32 rfl wc_10 in_X7 (by decide) (rfl) rfl (by decide) rfl ?_
  refine bw_iload_n (i := 3) dX7_init_32 33 rfl rfl 0 rfl ?_
  refine bw_iconst (x := (-1)) dX7_init_33 34 rfl rfl ?_
  refine bw_iast (f := (upd (upd (upd (upd (upd (upd (fun _ => 0) (Int32.toNatClampNeg 0) (-1)) (Int32.toNatClampNeg 1) (-1)) (Int32.toNatClampNeg 2) (-1)) (Int32.toNatClampNeg 3) (-1)) (Int32.toNatClampNeg 4) (-1)) (Int32.toNatClampNeg 5) (-1))) (N := 8) dX7_init_34 35 rfl (by decide) (rfl) (by decide) ?_
  refine bw_iinc (i := 3) dX7_init_35 38 rfl 0 rfl 7 rfl [(3, .int 7), (0, .ref (G.2.2.2 + 19)), (1, .int 8), (2, .int 40)] (by decide) rfl ?_
  refine bw_goto dX7_init_38 23 rfl ?_
  refine bw_iload_n (i := 3) dX7_init_23 24 rfl rfl 0 rfl ?_
  refine bw_iload_n (i := 1) dX7_init_24 25 rfl rfl 2 rfl ?_
  refine bw_icmp_nge (t := 41) dX7_init_25 28 rfl rfl (by decide) ?_
  refine bw_aload_n (i := 0) dX7_init_28 29 rfl rfl 1 rfl ?_
  refine bw_get (T := TX7) (f := 1) (N := 2) (x := .ref (G.2.2.2 + 29)) dX7_init_29 32 rfl wc_10 in_X7 (by decide) (rfl) rfl (by decide) rfl ?_
  refine bw_iload_n (i := 3) dX7_init_32 33 rfl rfl 0 rfl ?_
  refine bw_iconst (x := (-1)) dX7_init_33 34 rfl rfl ?_
  refine bw_iast (f := (upd (upd (upd (upd (upd (upd (upd (fun _ => 0) (Int32.toNatClampNeg 0) (-1)) (Int32.toNatClampNeg 1) (-1)) (Int32.toNatClampNeg 2) (-1)) (Int32.toNatClampNeg 3) (-1)) (Int32.toNatClampNeg 4) (-1)) (Int32.toNatClampNeg 5) (-1)) (Int32.toNatClampNeg 6) (-1))) (N := 8) dX7_init_34 35 rfl (by decide) (rfl) (by decide) ?_
  refine bw_iinc (i := 3) dX7_init_35 38 rfl 0 rfl 8 rfl [(3, .int 8), (0, .ref (G.2.2.2 + 19)), (1, .int 8), (2, .int 40)] (by decide) rfl ?_
  refine bw_goto dX7_init_38 23 rfl ?_
  refine bw_iload_n (i := 3) dX7_init_23 24 rfl rfl 0 rfl ?_
  refine bw_iload_n (i := 1) dX7_init_24 25 rfl rfl 2 rfl ?_
  refine bw_icmp_ge dX7_init_25 41 rfl (by decide) ?_
  exact bw_ret dX7_init_41 rfl rfl rfl rfl rfl
def m_X3_init : qMd := ({ frames := 1, cells := 0, slots := 0, locals := 40 }, RX3, yX3_init, cX3_init, 1, none)
theorem dX3_init_0 : decode cX3_init 0 = .ok (.aload_n 0, 1) := by decide +kernel
theorem dX3_init_1 : decode cX3_init 1 = .ok (.invokespecial 1, 3) := by decide +kernel
theorem dX3_init_4 : decode cX3_init 4 = .ok (.aload_n 0, 1) := by decide +kernel
theorem dX3_init_5 : decode cX3_init 5 = .ok (.iconst 4, 1) := by decide +kernel
theorem dX3_init_6 : decode cX3_init 6 = .ok (.putfield 7, 3) := by decide +kernel
theorem dX3_init_9 : decode cX3_init 9 = .ok (.aload_n 0, 1) := by decide +kernel
theorem dX3_init_10 : decode cX3_init 10 = .ok (.bipush 10, 2) := by decide +kernel
theorem dX3_init_12 : decode cX3_init 12 = .ok (.putfield 13, 3) := by decide +kernel
theorem dX3_init_15 : decode cX3_init 15 = .ok (.return_, 1) := by decide +kernel
theorem wi_X3_init : b_Wi m_X3_init := ⟨wc_35, wc_31, wc_36⟩
theorem pi_X3_init : b_Pk m_X3_init 0 0 0 := ⟨rfl, rfl, rfl, by decide +kernel, rfl, by decide +kernel, rfl⟩
noncomputable def bV_X3_init (G : qG) (h n : Nat) (V : qV) : qV := (b_up (b_up V h (.inr (3, [.int 4, .int 0, .int 0, .int 0]))) h (.inr (3, [.int 4, .int 10, .int 0, .int 0])))
set_option maxRecDepth 100000 in
set_option maxHeartbeats 8000000 in
theorem kc_X3_init (l : Launch) (G : qG) (h n : Nat) (V : qV) (hh : h < n) (hv : V h = .inr (3, [.int 0, .int 0, .int 0, .int 0])) : qBC l G m_X3_init [.ref (G.2.2.2 + h)] n V (n, (bV_X3_init G h n V), 0, 0) := by
  refine b_entry pi_X3_init (Nat.le_of_ble_eq_true rfl) ?_
  show qBW l G m_X3_init _ 0 [(0, .ref (G.2.2.2 + h))] [] n V 0 0
  refine bw_aload_n (i := 0) dX3_init_0 1 rfl rfl 0 rfl ?_
  refine bw_objInit dX3_init_1 4 rfl wc_32 wc_1 wc_2 (Nat.le_of_ble_eq_true rfl) (Nat.le_of_ble_eq_true rfl) ?_
  refine bw_aload_n (i := 0) dX3_init_4 5 rfl rfl 0 rfl ?_
  refine bw_iconst (x := 4) dX3_init_5 6 rfl rfl ?_
  refine bw_put (T := TX3) (f := 0) (N := 4) dX3_init_6 9 rfl wc_33 in_X3 tyX3_ok nmX3 (by omega) (hv) rfl (by decide) (Nat.le_of_ble_eq_true rfl) rfl rfl rfl rfl [.int 4, .int 0, .int 0, .int 0] rfl ?_
  refine bw_aload_n (i := 0) dX3_init_9 10 rfl rfl 0 rfl ?_
  refine bw_bipush (x := 10) dX3_init_10 12 rfl rfl ?_
  refine bw_put (T := TX3) (f := 1) (N := 4) dX3_init_12 15 rfl wc_34 in_X3 tyX3_ok nmX3 (by omega) (b_same) rfl (by decide) (Nat.le_of_ble_eq_true rfl) rfl rfl rfl rfl [.int 4, .int 10, .int 0, .int 0] rfl ?_
  exact bw_ret dX3_init_15 rfl rfl rfl rfl rfl
def m_X5_init : qMd := ({ frames := 1, cells := 2, slots := 8, locals := 40 }, RX5, yX5_init, cX5_init, 1, none)
theorem dX5_init_0 : decode cX5_init 0 = .ok (.aload_n 0, 1) := by decide +kernel
theorem dX5_init_1 : decode cX5_init 1 = .ok (.invokespecial 3, 3) := by decide +kernel
theorem dX5_init_4 : decode cX5_init 4 = .ok (.aload_n 0, 1) := by decide +kernel
theorem dX5_init_5 : decode cX5_init 5 = .ok (.iconst 4, 1) := by decide +kernel
theorem dX5_init_6 : decode cX5_init 6 = .ok (.newarray .int, 2) := by decide +kernel
theorem dX5_init_8 : decode cX5_init 8 = .ok (.putfield 9, 3) := by decide +kernel
theorem dX5_init_11 : decode cX5_init 11 = .ok (.aload_n 0, 1) := by decide +kernel
theorem dX5_init_12 : decode cX5_init 12 = .ok (.iconst 4, 1) := by decide +kernel
theorem dX5_init_13 : decode cX5_init 13 = .ok (.newarray .int, 2) := by decide +kernel
theorem dX5_init_15 : decode cX5_init 15 = .ok (.putfield 15, 3) := by decide +kernel
theorem dX5_init_18 : decode cX5_init 18 = .ok (.return_, 1) := by decide +kernel
theorem wi_X5_init : b_Wi m_X5_init := ⟨wc_44, wc_40, wc_45⟩
theorem pi_X5_init : b_Pk m_X5_init 0 2 8 := ⟨rfl, rfl, rfl, by decide +kernel, rfl, by decide +kernel, rfl⟩
noncomputable def bV_X5_init (G : qG) (h n : Nat) (V : qV) : qV := (b_up (b_up (b_up (b_up V n (.inl (G.2.2.1 0, 4, .inl (fun _ => 0)))) h (.inr (5, [.ref (G.2.2.2 + n), .null, .int 0]))) (n + 1) (.inl (G.2.2.1 0, 4, .inl (fun _ => 0)))) h (.inr (5, [.ref (G.2.2.2 + n), .ref (G.2.2.2 + (n + 1)), .int 0])))
set_option maxRecDepth 100000 in
set_option maxHeartbeats 8000000 in
theorem kc_X5_init (l : Launch) (G : qG) (h n : Nat) (V : qV) (hh : h < n) (hv : V h = .inr (5, [.null, .null, .int 0])) : qBC l G m_X5_init [.ref (G.2.2.2 + h)] n V ((n + 2), (bV_X5_init G h n V), 2, 8) := by
  refine b_entry pi_X5_init (Nat.le_of_ble_eq_true rfl) ?_
  show qBW l G m_X5_init _ 0 [(0, .ref (G.2.2.2 + h))] [] n V 0 0
  refine bw_aload_n (i := 0) dX5_init_0 1 rfl rfl 0 rfl ?_
  refine bw_objInit dX5_init_1 4 rfl wc_41 wc_1 wc_2 (Nat.le_of_ble_eq_true rfl) (Nat.le_of_ble_eq_true rfl) ?_
  refine bw_aload_n (i := 0) dX5_init_4 5 rfl rfl 0 rfl ?_
  refine bw_iconst (x := 4) dX5_init_5 6 rfl rfl ?_
  refine bw_newa (t := 0) (N' := 4) (a0 := (4, .inl (fun _ => 0))) dX5_init_6 8 rfl wc_8 rfl rfl rfl (fun _ _ => rfl) (by decide) rfl (by decide) (Nat.le_of_ble_eq_true rfl) (Nat.le_of_ble_eq_true rfl) (n + 1) 1 4 rfl rfl rfl ?_
  refine bw_putF (ci := 5) (fs := [.null, .null, .int 0]) (T := TX5) (f := 0) (N := 3) dX5_init_8 11 rfl wc_42 in_X5 tyX5_ok nmX5 (by omega) ((b_ne (by omega)).trans (hv)) rfl (by decide) (Nat.le_of_ble_eq_true rfl) rfl rfl rfl rfl rfl [.ref (G.2.2.2 + n), .null, .int 0] rfl ?_
  refine bw_aload_n (i := 0) dX5_init_11 12 rfl rfl 0 rfl ?_
  refine bw_iconst (x := 4) dX5_init_12 13 rfl rfl ?_
  refine bw_newa (t := 0) (N' := 4) (a0 := (4, .inl (fun _ => 0))) dX5_init_13 15 rfl wc_8 rfl rfl rfl (fun _ _ => rfl) (by decide) rfl (by decide) (Nat.le_of_ble_eq_true rfl) (Nat.le_of_ble_eq_true rfl) (n + 2) 2 8 rfl rfl rfl ?_
  refine bw_putF (ci := 5) (fs := [.ref (G.2.2.2 + n), .null, .int 0]) (T := TX5) (f := 1) (N := 3) dX5_init_15 18 rfl wc_43 in_X5 tyX5_ok nmX5 (by omega) ((b_ne (by omega)).trans (b_same)) rfl (by decide) (Nat.le_of_ble_eq_true rfl) rfl rfl rfl rfl rfl [.ref (G.2.2.2 + n), .ref (G.2.2.2 + (n + 1)), .int 0] rfl ?_
  exact bw_ret dX5_init_18 rfl rfl rfl rfl rfl
def m_X4_init : qMd := ({ frames := 1, cells := 2, slots := 24, locals := 40 }, RX4, yX4_init, cX4_init, 1, none)
theorem dX4_init_0 : decode cX4_init 0 = .ok (.aload_n 0, 1) := by decide +kernel
theorem dX4_init_1 : decode cX4_init 1 = .ok (.invokespecial 3, 3) := by decide +kernel
theorem dX4_init_4 : decode cX4_init 4 = .ok (.aload_n 0, 1) := by decide +kernel
theorem dX4_init_5 : decode cX4_init 5 = .ok (.bipush 12, 2) := by decide +kernel
theorem dX4_init_7 : decode cX4_init 7 = .ok (.newarray .int, 2) := by decide +kernel
theorem dX4_init_9 : decode cX4_init 9 = .ok (.putfield 9, 3) := by decide +kernel
theorem dX4_init_12 : decode cX4_init 12 = .ok (.aload_n 0, 1) := by decide +kernel
theorem dX4_init_13 : decode cX4_init 13 = .ok (.bipush 12, 2) := by decide +kernel
theorem dX4_init_15 : decode cX4_init 15 = .ok (.newarray .int, 2) := by decide +kernel
theorem dX4_init_17 : decode cX4_init 17 = .ok (.putfield 15, 3) := by decide +kernel
theorem dX4_init_20 : decode cX4_init 20 = .ok (.aload_n 0, 1) := by decide +kernel
theorem dX4_init_21 : decode cX4_init 21 = .ok (.bipush (-9), 2) := by decide +kernel
theorem dX4_init_23 : decode cX4_init 23 = .ok (.putfield 18, 3) := by decide +kernel
theorem dX4_init_26 : decode cX4_init 26 = .ok (.return_, 1) := by decide +kernel
theorem wi_X4_init : b_Wi m_X4_init := ⟨wc_54, wc_49, wc_55⟩
theorem pi_X4_init : b_Pk m_X4_init 0 2 24 := ⟨rfl, rfl, rfl, by decide +kernel, rfl, by decide +kernel, rfl⟩
noncomputable def bV_X4_init (G : qG) (h n : Nat) (V : qV) : qV := (b_up (b_up (b_up (b_up (b_up V n (.inl (G.2.2.1 0, 12, .inl (fun _ => 0)))) h (.inr (4, [.ref (G.2.2.2 + n), .null, .int 0, .int 0, .int 0]))) (n + 1) (.inl (G.2.2.1 0, 12, .inl (fun _ => 0)))) h (.inr (4, [.ref (G.2.2.2 + n), .ref (G.2.2.2 + (n + 1)), .int 0, .int 0, .int 0]))) h (.inr (4, [.ref (G.2.2.2 + n), .ref (G.2.2.2 + (n + 1)), .int (-9), .int 0, .int 0])))
set_option maxRecDepth 100000 in
set_option maxHeartbeats 8000000 in
theorem kc_X4_init (l : Launch) (G : qG) (h n : Nat) (V : qV) (hh : h < n) (hv : V h = .inr (4, [.null, .null, .int 0, .int 0, .int 0])) : qBC l G m_X4_init [.ref (G.2.2.2 + h)] n V ((n + 2), (bV_X4_init G h n V), 2, 24) := by
  refine b_entry pi_X4_init (Nat.le_of_ble_eq_true rfl) ?_
  show qBW l G m_X4_init _ 0 [(0, .ref (G.2.2.2 + h))] [] n V 0 0
  refine bw_aload_n (i := 0) dX4_init_0 1 rfl rfl 0 rfl ?_
  refine bw_objInit dX4_init_1 4 rfl wc_50 wc_1 wc_2 (Nat.le_of_ble_eq_true rfl) (Nat.le_of_ble_eq_true rfl) ?_
  refine bw_aload_n (i := 0) dX4_init_4 5 rfl rfl 0 rfl ?_
  refine bw_bipush (x := 12) dX4_init_5 7 rfl rfl ?_
  refine bw_newa (t := 0) (N' := 12) (a0 := (12, .inl (fun _ => 0))) dX4_init_7 9 rfl wc_8 rfl rfl rfl (fun _ _ => rfl) (by decide) rfl (by decide) (Nat.le_of_ble_eq_true rfl) (Nat.le_of_ble_eq_true rfl) (n + 1) 1 12 rfl rfl rfl ?_
  refine bw_putF (ci := 4) (fs := [.null, .null, .int 0, .int 0, .int 0]) (T := TX4) (f := 0) (N := 5) dX4_init_9 12 rfl wc_51 in_X4 tyX4_ok nmX4 (by omega) ((b_ne (by omega)).trans (hv)) rfl (by decide) (Nat.le_of_ble_eq_true rfl) rfl rfl rfl rfl rfl [.ref (G.2.2.2 + n), .null, .int 0, .int 0, .int 0] rfl ?_
  refine bw_aload_n (i := 0) dX4_init_12 13 rfl rfl 0 rfl ?_
  refine bw_bipush (x := 12) dX4_init_13 15 rfl rfl ?_
  refine bw_newa (t := 0) (N' := 12) (a0 := (12, .inl (fun _ => 0))) dX4_init_15 17 rfl wc_8 rfl rfl rfl (fun _ _ => rfl) (by decide) rfl (by decide) (Nat.le_of_ble_eq_true rfl) (Nat.le_of_ble_eq_true rfl) (n + 2) 2 24 rfl rfl rfl ?_
  refine bw_putF (ci := 4) (fs := [.ref (G.2.2.2 + n), .null, .int 0, .int 0, .int 0]) (T := TX4) (f := 1) (N := 5) dX4_init_17 20 rfl wc_52 in_X4 tyX4_ok nmX4 (by omega) ((b_ne (by omega)).trans (b_same)) rfl (by decide) (Nat.le_of_ble_eq_true rfl) rfl rfl rfl rfl rfl [.ref (G.2.2.2 + n), .ref (G.2.2.2 + (n + 1)), .int 0, .int 0, .int 0] rfl ?_
  refine bw_aload_n (i := 0) dX4_init_20 21 rfl rfl 0 rfl ?_
  refine bw_bipush (x := (-9)) dX4_init_21 23 rfl rfl ?_
  refine bw_put (T := TX4) (f := 2) (N := 5) dX4_init_23 26 rfl wc_53 in_X4 tyX4_ok nmX4 (by omega) (b_same) rfl (by decide) (Nat.le_of_ble_eq_true rfl) rfl rfl rfl rfl [.ref (G.2.2.2 + n), .ref (G.2.2.2 + (n + 1)), .int (-9), .int 0, .int 0] rfl ?_
  exact bw_ret dX4_init_26 rfl rfl rfl rfl rfl
def m_X0_init : qMd := ({ frames := 2, cells := 13, slots := 480, locals := 60 }, RX0, yX0_init, cX0_init, 1, none)
theorem dX0_init_0 : decode cX0_init 0 = .ok (.aload_n 0, 1) := by decide +kernel
theorem dX0_init_1 : decode cX0_init 1 = .ok (.invokespecial 3, 3) := by decide +kernel
theorem dX0_init_4 : decode cX0_init 4 = .ok (.aload_n 0, 1) := by decide +kernel
theorem dX0_init_5 : decode cX0_init 5 = .ok (.bipush 48, 2) := by decide +kernel
theorem dX0_init_7 : decode cX0_init 7 = .ok (.newarray .int, 2) := by decide +kernel
theorem dX0_init_9 : decode cX0_init 9 = .ok (.putfield 9, 3) := by decide +kernel
theorem dX0_init_12 : decode cX0_init 12 = .ok (.aload_n 0, 1) := by decide +kernel
theorem dX0_init_13 : decode cX0_init 13 = .ok (.bipush 48, 2) := by decide +kernel
theorem dX0_init_15 : decode cX0_init 15 = .ok (.newarray .int, 2) := by decide +kernel
theorem dX0_init_17 : decode cX0_init 17 = .ok (.putfield 15, 3) := by decide +kernel
theorem dX0_init_20 : decode cX0_init 20 = .ok (.aload_n 0, 1) := by decide +kernel
theorem dX0_init_21 : decode cX0_init 21 = .ok (.sipush 144, 3) := by decide +kernel
theorem dX0_init_24 : decode cX0_init 24 = .ok (.newarray .int, 2) := by decide +kernel
theorem dX0_init_26 : decode cX0_init 26 = .ok (.putfield 18, 3) := by decide +kernel
theorem dX0_init_29 : decode cX0_init 29 = .ok (.aload_n 0, 1) := by decide +kernel
theorem dX0_init_30 : decode cX0_init 30 = .ok (.bipush 96, 2) := by decide +kernel
theorem dX0_init_32 : decode cX0_init 32 = .ok (.newarray .int, 2) := by decide +kernel
theorem dX0_init_34 : decode cX0_init 34 = .ok (.putfield 21, 3) := by decide +kernel
theorem dX0_init_37 : decode cX0_init 37 = .ok (.aload_n 0, 1) := by decide +kernel
theorem dX0_init_38 : decode cX0_init 38 = .ok (.bipush 96, 2) := by decide +kernel
theorem dX0_init_40 : decode cX0_init 40 = .ok (.newarray .boolean, 2) := by decide +kernel
theorem dX0_init_42 : decode cX0_init 42 = .ok (.putfield 24, 3) := by decide +kernel
theorem dX0_init_45 : decode cX0_init 45 = .ok (.aload_n 0, 1) := by decide +kernel
theorem dX0_init_46 : decode cX0_init 46 = .ok (.new 28, 3) := by decide +kernel
theorem dX0_init_49 : decode cX0_init 49 = .ok (.dup, 1) := by decide +kernel
theorem dX0_init_50 : decode cX0_init 50 = .ok (.invokespecial 30, 3) := by decide +kernel
theorem dX0_init_53 : decode cX0_init 53 = .ok (.putfield 31, 3) := by decide +kernel
theorem dX0_init_56 : decode cX0_init 56 = .ok (.aload_n 0, 1) := by decide +kernel
theorem dX0_init_57 : decode cX0_init 57 = .ok (.new 35, 3) := by decide +kernel
theorem dX0_init_60 : decode cX0_init 60 = .ok (.dup, 1) := by decide +kernel
theorem dX0_init_61 : decode cX0_init 61 = .ok (.invokespecial 37, 3) := by decide +kernel
theorem dX0_init_64 : decode cX0_init 64 = .ok (.putfield 38, 3) := by decide +kernel
theorem dX0_init_67 : decode cX0_init 67 = .ok (.aload_n 0, 1) := by decide +kernel
theorem dX0_init_68 : decode cX0_init 68 = .ok (.new 42, 3) := by decide +kernel
theorem dX0_init_71 : decode cX0_init 71 = .ok (.dup, 1) := by decide +kernel
theorem dX0_init_72 : decode cX0_init 72 = .ok (.invokespecial 44, 3) := by decide +kernel
theorem dX0_init_75 : decode cX0_init 75 = .ok (.putfield 45, 3) := by decide +kernel
theorem dX0_init_78 : decode cX0_init 78 = .ok (.aload_n 0, 1) := by decide +kernel
theorem dX0_init_79 : decode cX0_init 79 = .ok (.iconst 4, 1) := by decide +kernel
theorem dX0_init_80 : decode cX0_init 80 = .ok (.newarray .int, 2) := by decide +kernel
theorem dX0_init_82 : decode cX0_init 82 = .ok (.putfield 49, 3) := by decide +kernel
theorem dX0_init_85 : decode cX0_init 85 = .ok (.aload_n 0, 1) := by decide +kernel
theorem dX0_init_86 : decode cX0_init 86 = .ok (.iconst 2, 1) := by decide +kernel
theorem dX0_init_87 : decode cX0_init 87 = .ok (.putfield 52, 3) := by decide +kernel
theorem dX0_init_90 : decode cX0_init 90 = .ok (.aload_n 0, 1) := by decide +kernel
theorem dX0_init_91 : decode cX0_init 91 = .ok (.iconst 1, 1) := by decide +kernel
theorem dX0_init_92 : decode cX0_init 92 = .ok (.putfield 56, 3) := by decide +kernel
theorem dX0_init_95 : decode cX0_init 95 = .ok (.aload_n 0, 1) := by decide +kernel
theorem dX0_init_96 : decode cX0_init 96 = .ok (.bipush (-9), 2) := by decide +kernel
theorem dX0_init_98 : decode cX0_init 98 = .ok (.putfield 59, 3) := by decide +kernel
theorem dX0_init_101 : decode cX0_init 101 = .ok (.return_, 1) := by decide +kernel
theorem wi_X0_init : b_Wi m_X0_init := ⟨wc_61, wc_21, wc_62⟩
theorem pi_X0_init : b_Pk m_X0_init 0 13 480 := ⟨rfl, rfl, rfl, by decide +kernel, rfl, by decide +kernel, rfl⟩
noncomputable def bV_X0_init (G : qG) (h n : Nat) (V : qV) : qV := (b_up (b_up (b_up (b_up (b_up (b_up (bV_X4_init G (n + 9) (n + 10) (b_up (b_up (bV_X5_init G (n + 6) (n + 7) (b_up (b_up (bV_X3_init G (n + 5) (n + 6) (b_up (b_up (b_up (b_up (b_up (b_up (b_up (b_up (b_up (b_up (b_up V n (.inl (G.2.2.1 0, 48, .inl (fun _ => 0)))) h (.inr (0, [.ref (G.2.2.2 + n), .null, .null, .null, .null, .null, .null, .null, .null, .int 0, .int 0, .int 0, .int 0, .int 0, .int 0, .int 0, .int 0, .int 0, .int 0]))) (n + 1) (.inl (G.2.2.1 0, 48, .inl (fun _ => 0)))) h (.inr (0, [.ref (G.2.2.2 + n), .ref (G.2.2.2 + (n + 1)), .null, .null, .null, .null, .null, .null, .null, .int 0, .int 0, .int 0, .int 0, .int 0, .int 0, .int 0, .int 0, .int 0, .int 0]))) (n + 2) (.inl (G.2.2.1 0, 144, .inl (fun _ => 0)))) h (.inr (0, [.ref (G.2.2.2 + n), .ref (G.2.2.2 + (n + 1)), .ref (G.2.2.2 + (n + 2)), .null, .null, .null, .null, .null, .null, .int 0, .int 0, .int 0, .int 0, .int 0, .int 0, .int 0, .int 0, .int 0, .int 0]))) (n + 3) (.inl (G.2.2.1 0, 96, .inl (fun _ => 0)))) h (.inr (0, [.ref (G.2.2.2 + n), .ref (G.2.2.2 + (n + 1)), .ref (G.2.2.2 + (n + 2)), .ref (G.2.2.2 + (n + 3)), .null, .null, .null, .null, .null, .int 0, .int 0, .int 0, .int 0, .int 0, .int 0, .int 0, .int 0, .int 0, .int 0]))) (n + 4) (.inl (G.2.2.1 1, 96, .inl (fun _ => 0)))) h (.inr (0, [.ref (G.2.2.2 + n), .ref (G.2.2.2 + (n + 1)), .ref (G.2.2.2 + (n + 2)), .ref (G.2.2.2 + (n + 3)), .ref (G.2.2.2 + (n + 4)), .null, .null, .null, .null, .int 0, .int 0, .int 0, .int 0, .int 0, .int 0, .int 0, .int 0, .int 0, .int 0]))) (n + 5) (.inr (3, [.int 0, .int 0, .int 0, .int 0])))) h (.inr (0, [.ref (G.2.2.2 + n), .ref (G.2.2.2 + (n + 1)), .ref (G.2.2.2 + (n + 2)), .ref (G.2.2.2 + (n + 3)), .ref (G.2.2.2 + (n + 4)), .ref (G.2.2.2 + (n + 5)), .null, .null, .null, .int 0, .int 0, .int 0, .int 0, .int 0, .int 0, .int 0, .int 0, .int 0, .int 0]))) (n + 6) (.inr (5, [.null, .null, .int 0])))) h (.inr (0, [.ref (G.2.2.2 + n), .ref (G.2.2.2 + (n + 1)), .ref (G.2.2.2 + (n + 2)), .ref (G.2.2.2 + (n + 3)), .ref (G.2.2.2 + (n + 4)), .ref (G.2.2.2 + (n + 5)), .ref (G.2.2.2 + (n + 6)), .null, .null, .int 0, .int 0, .int 0, .int 0, .int 0, .int 0, .int 0, .int 0, .int 0, .int 0]))) (n + 9) (.inr (4, [.null, .null, .int 0, .int 0, .int 0])))) h (.inr (0, [.ref (G.2.2.2 + n), .ref (G.2.2.2 + (n + 1)), .ref (G.2.2.2 + (n + 2)), .ref (G.2.2.2 + (n + 3)), .ref (G.2.2.2 + (n + 4)), .ref (G.2.2.2 + (n + 5)), .ref (G.2.2.2 + (n + 6)), .ref (G.2.2.2 + (n + 9)), .null, .int 0, .int 0, .int 0, .int 0, .int 0, .int 0, .int 0, .int 0, .int 0, .int 0]))) (n + 12) (.inl (G.2.2.1 0, 4, .inl (fun _ => 0)))) h (.inr (0, [.ref (G.2.2.2 + n), .ref (G.2.2.2 + (n + 1)), .ref (G.2.2.2 + (n + 2)), .ref (G.2.2.2 + (n + 3)), .ref (G.2.2.2 + (n + 4)), .ref (G.2.2.2 + (n + 5)), .ref (G.2.2.2 + (n + 6)), .ref (G.2.2.2 + (n + 9)), .ref (G.2.2.2 + (n + 12)), .int 0, .int 0, .int 0, .int 0, .int 0, .int 0, .int 0, .int 0, .int 0, .int 0]))) h (.inr (0, [.ref (G.2.2.2 + n), .ref (G.2.2.2 + (n + 1)), .ref (G.2.2.2 + (n + 2)), .ref (G.2.2.2 + (n + 3)), .ref (G.2.2.2 + (n + 4)), .ref (G.2.2.2 + (n + 5)), .ref (G.2.2.2 + (n + 6)), .ref (G.2.2.2 + (n + 9)), .ref (G.2.2.2 + (n + 12)), .int 0, .int 0, .int 0, .int 2, .int 0, .int 0, .int 0, .int 0, .int 0, .int 0]))) h (.inr (0, [.ref (G.2.2.2 + n), .ref (G.2.2.2 + (n + 1)), .ref (G.2.2.2 + (n + 2)), .ref (G.2.2.2 + (n + 3)), .ref (G.2.2.2 + (n + 4)), .ref (G.2.2.2 + (n + 5)), .ref (G.2.2.2 + (n + 6)), .ref (G.2.2.2 + (n + 9)), .ref (G.2.2.2 + (n + 12)), .int 0, .int 0, .int 0, .int 2, .int 1, .int 0, .int 0, .int 0, .int 0, .int 0]))) h (.inr (0, [.ref (G.2.2.2 + n), .ref (G.2.2.2 + (n + 1)), .ref (G.2.2.2 + (n + 2)), .ref (G.2.2.2 + (n + 3)), .ref (G.2.2.2 + (n + 4)), .ref (G.2.2.2 + (n + 5)), .ref (G.2.2.2 + (n + 6)), .ref (G.2.2.2 + (n + 9)), .ref (G.2.2.2 + (n + 12)), .int 0, .int 0, .int 0, .int 2, .int 1, .int 0, .int 0, .int 0, .int (-9), .int 0])))
set_option maxRecDepth 100000 in
set_option maxHeartbeats 8000000 in
theorem kc_X0_init (l : Launch) (G : qG) (h n : Nat) (V : qV) (hh : h < n) (hv : V h = .inr (0, [.null, .null, .null, .null, .null, .null, .null, .null, .null, .int 0, .int 0, .int 0, .int 0, .int 0, .int 0, .int 0, .int 0, .int 0, .int 0])) : qBC l G m_X0_init [.ref (G.2.2.2 + h)] n V ((n + 13), (bV_X0_init G h n V), 13, 480) := by
  refine b_entry pi_X0_init (Nat.le_of_ble_eq_true rfl) ?_
  show qBW l G m_X0_init _ 0 [(0, .ref (G.2.2.2 + h))] [] n V 0 0
  refine bw_aload_n (i := 0) dX0_init_0 1 rfl rfl 0 rfl ?_
  refine bw_objInit dX0_init_1 4 rfl wc_22 wc_1 wc_2 (Nat.le_of_ble_eq_true rfl) (Nat.le_of_ble_eq_true rfl) ?_
  refine bw_aload_n (i := 0) dX0_init_4 5 rfl rfl 0 rfl ?_
  refine bw_bipush (x := 48) dX0_init_5 7 rfl rfl ?_
  refine bw_newa (t := 0) (N' := 48) (a0 := (48, .inl (fun _ => 0))) dX0_init_7 9 rfl wc_8 rfl rfl rfl (fun _ _ => rfl) (by decide) rfl (by decide) (Nat.le_of_ble_eq_true rfl) (Nat.le_of_ble_eq_true rfl) (n + 1) 1 48 rfl rfl rfl ?_
  refine bw_putF (ci := 0) (fs := [.null, .null, .null, .null, .null, .null, .null, .null, .null, .int 0, .int 0, .int 0, .int 0, .int 0, .int 0, .int 0, .int 0, .int 0, .int 0]) (T := TX0) (f := 0) (N := 19) dX0_init_9 12 rfl wc_23 in_X0 tyX0_ok nmX0 (by omega) ((b_ne (by omega)).trans (hv)) rfl (by decide) (Nat.le_of_ble_eq_true rfl) rfl rfl rfl rfl rfl [.ref (G.2.2.2 + n), .null, .null, .null, .null, .null, .null, .null, .null, .int 0, .int 0, .int 0, .int 0, .int 0, .int 0, .int 0, .int 0, .int 0, .int 0] rfl ?_
  refine bw_aload_n (i := 0) dX0_init_12 13 rfl rfl 0 rfl ?_
  refine bw_bipush (x := 48) dX0_init_13 15 rfl rfl ?_
  refine bw_newa (t := 0) (N' := 48) (a0 := (48, .inl (fun _ => 0))) dX0_init_15 17 rfl wc_8 rfl rfl rfl (fun _ _ => rfl) (by decide) rfl (by decide) (Nat.le_of_ble_eq_true rfl) (Nat.le_of_ble_eq_true rfl) (n + 2) 2 96 rfl rfl rfl ?_
  refine bw_putF (ci := 0) (fs := [.ref (G.2.2.2 + n), .null, .null, .null, .null, .null, .null, .null, .null, .int 0, .int 0, .int 0, .int 0, .int 0, .int 0, .int 0, .int 0, .int 0, .int 0]) (T := TX0) (f := 1) (N := 19) dX0_init_17 20 rfl wc_24 in_X0 tyX0_ok nmX0 (by omega) ((b_ne (by omega)).trans (b_same)) rfl (by decide) (Nat.le_of_ble_eq_true rfl) rfl rfl rfl rfl rfl [.ref (G.2.2.2 + n), .ref (G.2.2.2 + (n + 1)), .null, .null, .null, .null, .null, .null, .null, .int 0, .int 0, .int 0, .int 0, .int 0, .int 0, .int 0, .int 0, .int 0, .int 0] rfl ?_
  refine bw_aload_n (i := 0) dX0_init_20 21 rfl rfl 0 rfl ?_
  refine bw_sipush (x := 144) dX0_init_21 24 rfl rfl ?_
  refine bw_newa (t := 0) (N' := 144) (a0 := (144, .inl (fun _ => 0))) dX0_init_24 26 rfl wc_8 rfl rfl rfl (fun _ _ => rfl) (by decide) rfl (by decide) (Nat.le_of_ble_eq_true rfl) (Nat.le_of_ble_eq_true rfl) (n + 3) 3 240 rfl rfl rfl ?_
  refine bw_putF (ci := 0) (fs := [.ref (G.2.2.2 + n), .ref (G.2.2.2 + (n + 1)), .null, .null, .null, .null, .null, .null, .null, .int 0, .int 0, .int 0, .int 0, .int 0, .int 0, .int 0, .int 0, .int 0, .int 0]) (T := TX0) (f := 2) (N := 19) dX0_init_26 29 rfl wc_25 in_X0 tyX0_ok nmX0 (by omega) ((b_ne (by omega)).trans (b_same)) rfl (by decide) (Nat.le_of_ble_eq_true rfl) rfl rfl rfl rfl rfl [.ref (G.2.2.2 + n), .ref (G.2.2.2 + (n + 1)), .ref (G.2.2.2 + (n + 2)), .null, .null, .null, .null, .null, .null, .int 0, .int 0, .int 0, .int 0, .int 0, .int 0, .int 0, .int 0, .int 0, .int 0] rfl ?_
  refine bw_aload_n (i := 0) dX0_init_29 30 rfl rfl 0 rfl ?_
  refine bw_bipush (x := 96) dX0_init_30 32 rfl rfl ?_
  refine bw_newa (t := 0) (N' := 96) (a0 := (96, .inl (fun _ => 0))) dX0_init_32 34 rfl wc_8 rfl rfl rfl (fun _ _ => rfl) (by decide) rfl (by decide) (Nat.le_of_ble_eq_true rfl) (Nat.le_of_ble_eq_true rfl) (n + 4) 4 336 rfl rfl rfl ?_
  refine bw_putF (ci := 0) (fs := [.ref (G.2.2.2 + n), .ref (G.2.2.2 + (n + 1)), .ref (G.2.2.2 + (n + 2)), .null, .null, .null, .null, .null, .null, .int 0, .int 0, .int 0, .int 0, .int 0, .int 0, .int 0, .int 0, .int 0, .int 0]) (T := TX0) (f := 3) (N := 19) dX0_init_34 37 rfl wc_26 in_X0 tyX0_ok nmX0 (by omega) ((b_ne (by omega)).trans (b_same)) rfl (by decide) (Nat.le_of_ble_eq_true rfl) rfl rfl rfl rfl rfl [.ref (G.2.2.2 + n), .ref (G.2.2.2 + (n + 1)), .ref (G.2.2.2 + (n + 2)), .ref (G.2.2.2 + (n + 3)), .null, .null, .null, .null, .null, .int 0, .int 0, .int 0, .int 0, .int 0, .int 0, .int 0, .int 0, .int 0, .int 0] rfl ?_
  refine bw_aload_n (i := 0) dX0_init_37 38 rfl rfl 0 rfl ?_
  refine bw_bipush (x := 96) dX0_init_38 40 rfl rfl ?_
  refine bw_newa (t := 1) (N' := 96) (a0 := (96, .inl (fun _ => 0))) dX0_init_40 42 rfl wc_27 rfl rfl rfl (fun _ _ => rfl) (by decide) rfl (by decide) (Nat.le_of_ble_eq_true rfl) (Nat.le_of_ble_eq_true rfl) (n + 5) 5 432 rfl rfl rfl ?_
  refine bw_putF (ci := 0) (fs := [.ref (G.2.2.2 + n), .ref (G.2.2.2 + (n + 1)), .ref (G.2.2.2 + (n + 2)), .ref (G.2.2.2 + (n + 3)), .null, .null, .null, .null, .null, .int 0, .int 0, .int 0, .int 0, .int 0, .int 0, .int 0, .int 0, .int 0, .int 0]) (T := TX0) (f := 4) (N := 19) dX0_init_42 45 rfl wc_28 in_X0 tyX0_ok nmX0 (by omega) ((b_ne (by omega)).trans (b_same)) rfl (by decide) (Nat.le_of_ble_eq_true rfl) rfl rfl rfl rfl rfl [.ref (G.2.2.2 + n), .ref (G.2.2.2 + (n + 1)), .ref (G.2.2.2 + (n + 2)), .ref (G.2.2.2 + (n + 3)), .ref (G.2.2.2 + (n + 4)), .null, .null, .null, .null, .int 0, .int 0, .int 0, .int 0, .int 0, .int 0, .int 0, .int 0, .int 0, .int 0] rfl ?_
  refine bw_aload_n (i := 0) dX0_init_45 46 rfl rfl 0 rfl ?_
  refine bw_new (ci := 3) (T := TX3) (N := 4) (fs := [.int 0, .int 0, .int 0, .int 0]) dX0_init_46 49 rfl in_X3 tyX3_ok wc_29 wc_30 wc_31 rfl df_X3 (Nat.le_of_ble_eq_true rfl) (Nat.le_of_ble_eq_true rfl) (n + 6) 6 436 rfl rfl rfl ?_
  refine bw_dup dX0_init_49 50 rfl rfl ?_
  refine bw_callIN (M2 := m_X3_init) (mc := 0) (ms := 0) dX0_init_50 53 rfl (kc_X3_init l G (n + 5) (n + 6) _ (by omega) (b_same)) bn_1 wi_X3_init pi_X3_init rfl ⟨by decide, by decide⟩ ⟨Nat.le_of_ble_eq_true rfl, Nat.le_of_ble_eq_true rfl⟩ rfl (Nat.le_of_ble_eq_true rfl) rfl 6 436 rfl rfl ?_
  refine bw_putF (ci := 0) (fs := [.ref (G.2.2.2 + n), .ref (G.2.2.2 + (n + 1)), .ref (G.2.2.2 + (n + 2)), .ref (G.2.2.2 + (n + 3)), .ref (G.2.2.2 + (n + 4)), .null, .null, .null, .null, .int 0, .int 0, .int 0, .int 0, .int 0, .int 0, .int 0, .int 0, .int 0, .int 0]) (T := TX0) (f := 5) (N := 19) dX0_init_53 56 rfl wc_37 in_X0 tyX0_ok nmX0 (by omega) ((b_ne (by omega)).trans ((b_ne (by omega)).trans ((b_ne (by omega)).trans (b_same)))) rfl (by decide) (Nat.le_of_ble_eq_true rfl) rfl rfl rfl rfl rfl [.ref (G.2.2.2 + n), .ref (G.2.2.2 + (n + 1)), .ref (G.2.2.2 + (n + 2)), .ref (G.2.2.2 + (n + 3)), .ref (G.2.2.2 + (n + 4)), .ref (G.2.2.2 + (n + 5)), .null, .null, .null, .int 0, .int 0, .int 0, .int 0, .int 0, .int 0, .int 0, .int 0, .int 0, .int 0] rfl ?_
  refine bw_aload_n (i := 0) dX0_init_56 57 rfl rfl 0 rfl ?_
  refine bw_new (ci := 5) (T := TX5) (N := 3) (fs := [.null, .null, .int 0]) dX0_init_57 60 rfl in_X5 tyX5_ok wc_38 wc_39 wc_40 rfl df_X5 (Nat.le_of_ble_eq_true rfl) (Nat.le_of_ble_eq_true rfl) (n + 7) 7 439 rfl rfl rfl ?_
  refine bw_dup dX0_init_60 61 rfl rfl ?_
  refine bw_callIN (M2 := m_X5_init) (mc := 2) (ms := 8) dX0_init_61 64 rfl (kc_X5_init l G (n + 6) (n + 7) _ (by omega) (b_same)) bn_2 wi_X5_init pi_X5_init rfl ⟨by decide, by decide⟩ ⟨Nat.le_of_ble_eq_true rfl, Nat.le_of_ble_eq_true rfl⟩ rfl (Nat.le_of_ble_eq_true rfl) rfl 9 447 rfl rfl ?_
  refine bw_putF (ci := 0) (fs := [.ref (G.2.2.2 + n), .ref (G.2.2.2 + (n + 1)), .ref (G.2.2.2 + (n + 2)), .ref (G.2.2.2 + (n + 3)), .ref (G.2.2.2 + (n + 4)), .ref (G.2.2.2 + (n + 5)), .null, .null, .null, .int 0, .int 0, .int 0, .int 0, .int 0, .int 0, .int 0, .int 0, .int 0, .int 0]) (T := TX0) (f := 6) (N := 19) dX0_init_64 67 rfl wc_46 in_X0 tyX0_ok nmX0 (by omega) ((b_ne (by omega)).trans ((b_ne (by omega)).trans ((b_ne (by omega)).trans ((b_ne (by omega)).trans ((b_ne (by omega)).trans (b_same)))))) rfl (by decide) (Nat.le_of_ble_eq_true rfl) rfl rfl rfl rfl rfl [.ref (G.2.2.2 + n), .ref (G.2.2.2 + (n + 1)), .ref (G.2.2.2 + (n + 2)), .ref (G.2.2.2 + (n + 3)), .ref (G.2.2.2 + (n + 4)), .ref (G.2.2.2 + (n + 5)), .ref (G.2.2.2 + (n + 6)), .null, .null, .int 0, .int 0, .int 0, .int 0, .int 0, .int 0, .int 0, .int 0, .int 0, .int 0] rfl ?_
  refine bw_aload_n (i := 0) dX0_init_67 68 rfl rfl 0 rfl ?_
  refine bw_new (ci := 4) (T := TX4) (N := 5) (fs := [.null, .null, .int 0, .int 0, .int 0]) dX0_init_68 71 rfl in_X4 tyX4_ok wc_47 wc_48 wc_49 rfl df_X4 (Nat.le_of_ble_eq_true rfl) (Nat.le_of_ble_eq_true rfl) (n + 10) 10 452 rfl rfl rfl ?_
  refine bw_dup dX0_init_71 72 rfl rfl ?_
  refine bw_callIN (M2 := m_X4_init) (mc := 2) (ms := 24) dX0_init_72 75 rfl (kc_X4_init l G (n + 9) (n + 10) _ (by omega) (b_same)) bn_3 wi_X4_init pi_X4_init rfl ⟨by decide, by decide⟩ ⟨Nat.le_of_ble_eq_true rfl, Nat.le_of_ble_eq_true rfl⟩ rfl (Nat.le_of_ble_eq_true rfl) rfl 12 476 rfl rfl ?_
  refine bw_putF (ci := 0) (fs := [.ref (G.2.2.2 + n), .ref (G.2.2.2 + (n + 1)), .ref (G.2.2.2 + (n + 2)), .ref (G.2.2.2 + (n + 3)), .ref (G.2.2.2 + (n + 4)), .ref (G.2.2.2 + (n + 5)), .ref (G.2.2.2 + (n + 6)), .null, .null, .int 0, .int 0, .int 0, .int 0, .int 0, .int 0, .int 0, .int 0, .int 0, .int 0]) (T := TX0) (f := 7) (N := 19) dX0_init_75 78 rfl wc_56 in_X0 tyX0_ok nmX0 (by omega) ((b_ne (by omega)).trans ((b_ne (by omega)).trans ((b_ne (by omega)).trans ((b_ne (by omega)).trans ((b_ne (by omega)).trans ((b_ne (by omega)).trans (b_same))))))) rfl (by decide) (Nat.le_of_ble_eq_true rfl) rfl rfl rfl rfl rfl [.ref (G.2.2.2 + n), .ref (G.2.2.2 + (n + 1)), .ref (G.2.2.2 + (n + 2)), .ref (G.2.2.2 + (n + 3)), .ref (G.2.2.2 + (n + 4)), .ref (G.2.2.2 + (n + 5)), .ref (G.2.2.2 + (n + 6)), .ref (G.2.2.2 + (n + 9)), .null, .int 0, .int 0, .int 0, .int 0, .int 0, .int 0, .int 0, .int 0, .int 0, .int 0] rfl ?_
  refine bw_aload_n (i := 0) dX0_init_78 79 rfl rfl 0 rfl ?_
  refine bw_iconst (x := 4) dX0_init_79 80 rfl rfl ?_
  refine bw_newa (t := 0) (N' := 4) (a0 := (4, .inl (fun _ => 0))) dX0_init_80 82 rfl wc_8 rfl rfl rfl (fun _ _ => rfl) (by decide) rfl (by decide) (Nat.le_of_ble_eq_true rfl) (Nat.le_of_ble_eq_true rfl) (n + 13) 13 480 rfl rfl rfl ?_
  refine bw_putF (ci := 0) (fs := [.ref (G.2.2.2 + n), .ref (G.2.2.2 + (n + 1)), .ref (G.2.2.2 + (n + 2)), .ref (G.2.2.2 + (n + 3)), .ref (G.2.2.2 + (n + 4)), .ref (G.2.2.2 + (n + 5)), .ref (G.2.2.2 + (n + 6)), .ref (G.2.2.2 + (n + 9)), .null, .int 0, .int 0, .int 0, .int 0, .int 0, .int 0, .int 0, .int 0, .int 0, .int 0]) (T := TX0) (f := 8) (N := 19) dX0_init_82 85 rfl wc_57 in_X0 tyX0_ok nmX0 (by omega) ((b_ne (by omega)).trans (b_same)) rfl (by decide) (Nat.le_of_ble_eq_true rfl) rfl rfl rfl rfl rfl [.ref (G.2.2.2 + n), .ref (G.2.2.2 + (n + 1)), .ref (G.2.2.2 + (n + 2)), .ref (G.2.2.2 + (n + 3)), .ref (G.2.2.2 + (n + 4)), .ref (G.2.2.2 + (n + 5)), .ref (G.2.2.2 + (n + 6)), .ref (G.2.2.2 + (n + 9)), .ref (G.2.2.2 + (n + 12)), .int 0, .int 0, .int 0, .int 0, .int 0, .int 0, .int 0, .int 0, .int 0, .int 0] rfl ?_
  refine bw_aload_n (i := 0) dX0_init_85 86 rfl rfl 0 rfl ?_
  refine bw_iconst (x := 2) dX0_init_86 87 rfl rfl ?_
  refine bw_put (T := TX0) (f := 12) (N := 19) dX0_init_87 90 rfl wc_58 in_X0 tyX0_ok nmX0 (by omega) (b_same) rfl (by decide) (Nat.le_of_ble_eq_true rfl) rfl rfl rfl rfl [.ref (G.2.2.2 + n), .ref (G.2.2.2 + (n + 1)), .ref (G.2.2.2 + (n + 2)), .ref (G.2.2.2 + (n + 3)), .ref (G.2.2.2 + (n + 4)), .ref (G.2.2.2 + (n + 5)), .ref (G.2.2.2 + (n + 6)), .ref (G.2.2.2 + (n + 9)), .ref (G.2.2.2 + (n + 12)), .int 0, .int 0, .int 0, .int 2, .int 0, .int 0, .int 0, .int 0, .int 0, .int 0] rfl ?_
  refine bw_aload_n (i := 0) dX0_init_90 91 rfl rfl 0 rfl ?_
  refine bw_iconst (x := 1) dX0_init_91 92 rfl rfl ?_
  refine bw_put (T := TX0) (f := 13) (N := 19) dX0_init_92 95 rfl wc_59 in_X0 tyX0_ok nmX0 (by omega) (b_same) rfl (by decide) (Nat.le_of_ble_eq_true rfl) rfl rfl rfl rfl [.ref (G.2.2.2 + n), .ref (G.2.2.2 + (n + 1)), .ref (G.2.2.2 + (n + 2)), .ref (G.2.2.2 + (n + 3)), .ref (G.2.2.2 + (n + 4)), .ref (G.2.2.2 + (n + 5)), .ref (G.2.2.2 + (n + 6)), .ref (G.2.2.2 + (n + 9)), .ref (G.2.2.2 + (n + 12)), .int 0, .int 0, .int 0, .int 2, .int 1, .int 0, .int 0, .int 0, .int 0, .int 0] rfl ?_
  refine bw_aload_n (i := 0) dX0_init_95 96 rfl rfl 0 rfl ?_
  refine bw_bipush (x := (-9)) dX0_init_96 98 rfl rfl ?_
  refine bw_put (T := TX0) (f := 17) (N := 19) dX0_init_98 101 rfl wc_60 in_X0 tyX0_ok nmX0 (by omega) (b_same) rfl (by decide) (Nat.le_of_ble_eq_true rfl) rfl rfl rfl rfl [.ref (G.2.2.2 + n), .ref (G.2.2.2 + (n + 1)), .ref (G.2.2.2 + (n + 2)), .ref (G.2.2.2 + (n + 3)), .ref (G.2.2.2 + (n + 4)), .ref (G.2.2.2 + (n + 5)), .ref (G.2.2.2 + (n + 6)), .ref (G.2.2.2 + (n + 9)), .ref (G.2.2.2 + (n + 12)), .int 0, .int 0, .int 0, .int 2, .int 1, .int 0, .int 0, .int 0, .int (-9), .int 0] rfl ?_
  exact bw_ret dX0_init_101 rfl rfl rfl rfl rfl
def m_X8_init : qMd := ({ frames := 1, cells := 4, slots := 240, locals := 40 }, RX8, yX8_init, cX8_init, 1, none)
theorem dX8_init_0 : decode cX8_init 0 = .ok (.aload_n 0, 1) := by decide +kernel
theorem dX8_init_1 : decode cX8_init 1 = .ok (.invokespecial 3, 3) := by decide +kernel
theorem dX8_init_4 : decode cX8_init 4 = .ok (.aload_n 0, 1) := by decide +kernel
theorem dX8_init_5 : decode cX8_init 5 = .ok (.bipush 96, 2) := by decide +kernel
theorem dX8_init_7 : decode cX8_init 7 = .ok (.newarray .int, 2) := by decide +kernel
theorem dX8_init_9 : decode cX8_init 9 = .ok (.putfield 9, 3) := by decide +kernel
theorem dX8_init_12 : decode cX8_init 12 = .ok (.aload_n 0, 1) := by decide +kernel
theorem dX8_init_13 : decode cX8_init 13 = .ok (.bipush 48, 2) := by decide +kernel
theorem dX8_init_15 : decode cX8_init 15 = .ok (.newarray .int, 2) := by decide +kernel
theorem dX8_init_17 : decode cX8_init 17 = .ok (.putfield 15, 3) := by decide +kernel
theorem dX8_init_20 : decode cX8_init 20 = .ok (.aload_n 0, 1) := by decide +kernel
theorem dX8_init_21 : decode cX8_init 21 = .ok (.bipush 48, 2) := by decide +kernel
theorem dX8_init_23 : decode cX8_init 23 = .ok (.newarray .int, 2) := by decide +kernel
theorem dX8_init_25 : decode cX8_init 25 = .ok (.putfield 18, 3) := by decide +kernel
theorem dX8_init_28 : decode cX8_init 28 = .ok (.aload_n 0, 1) := by decide +kernel
theorem dX8_init_29 : decode cX8_init 29 = .ok (.bipush 48, 2) := by decide +kernel
theorem dX8_init_31 : decode cX8_init 31 = .ok (.newarray .int, 2) := by decide +kernel
theorem dX8_init_33 : decode cX8_init 33 = .ok (.putfield 21, 3) := by decide +kernel
theorem dX8_init_36 : decode cX8_init 36 = .ok (.return_, 1) := by decide +kernel
theorem wi_X8_init : b_Wi m_X8_init := ⟨wc_72, wc_66, wc_73⟩
theorem pi_X8_init : b_Pk m_X8_init 0 4 240 := ⟨rfl, rfl, rfl, by decide +kernel, rfl, by decide +kernel, rfl⟩
noncomputable def bV_X8_init (G : qG) (h n : Nat) (V : qV) : qV := (b_up (b_up (b_up (b_up (b_up (b_up (b_up (b_up V n (.inl (G.2.2.1 0, 96, .inl (fun _ => 0)))) h (.inr (8, [.ref (G.2.2.2 + n), .null, .null, .null]))) (n + 1) (.inl (G.2.2.1 0, 48, .inl (fun _ => 0)))) h (.inr (8, [.ref (G.2.2.2 + n), .ref (G.2.2.2 + (n + 1)), .null, .null]))) (n + 2) (.inl (G.2.2.1 0, 48, .inl (fun _ => 0)))) h (.inr (8, [.ref (G.2.2.2 + n), .ref (G.2.2.2 + (n + 1)), .ref (G.2.2.2 + (n + 2)), .null]))) (n + 3) (.inl (G.2.2.1 0, 48, .inl (fun _ => 0)))) h (.inr (8, [.ref (G.2.2.2 + n), .ref (G.2.2.2 + (n + 1)), .ref (G.2.2.2 + (n + 2)), .ref (G.2.2.2 + (n + 3))])))
set_option maxRecDepth 100000 in
set_option maxHeartbeats 8000000 in
theorem kc_X8_init (l : Launch) (G : qG) (h n : Nat) (V : qV) (hh : h < n) (hv : V h = .inr (8, [.null, .null, .null, .null])) : qBC l G m_X8_init [.ref (G.2.2.2 + h)] n V ((n + 4), (bV_X8_init G h n V), 4, 240) := by
  refine b_entry pi_X8_init (Nat.le_of_ble_eq_true rfl) ?_
  show qBW l G m_X8_init _ 0 [(0, .ref (G.2.2.2 + h))] [] n V 0 0
  refine bw_aload_n (i := 0) dX8_init_0 1 rfl rfl 0 rfl ?_
  refine bw_objInit dX8_init_1 4 rfl wc_67 wc_1 wc_2 (Nat.le_of_ble_eq_true rfl) (Nat.le_of_ble_eq_true rfl) ?_
  refine bw_aload_n (i := 0) dX8_init_4 5 rfl rfl 0 rfl ?_
  refine bw_bipush (x := 96) dX8_init_5 7 rfl rfl ?_
  refine bw_newa (t := 0) (N' := 96) (a0 := (96, .inl (fun _ => 0))) dX8_init_7 9 rfl wc_8 rfl rfl rfl (fun _ _ => rfl) (by decide) rfl (by decide) (Nat.le_of_ble_eq_true rfl) (Nat.le_of_ble_eq_true rfl) (n + 1) 1 96 rfl rfl rfl ?_
  refine bw_putF (ci := 8) (fs := [.null, .null, .null, .null]) (T := TX8) (f := 0) (N := 4) dX8_init_9 12 rfl wc_68 in_X8 tyX8_ok nmX8 (by omega) ((b_ne (by omega)).trans (hv)) rfl (by decide) (Nat.le_of_ble_eq_true rfl) rfl rfl rfl rfl rfl [.ref (G.2.2.2 + n), .null, .null, .null] rfl ?_
  refine bw_aload_n (i := 0) dX8_init_12 13 rfl rfl 0 rfl ?_
  refine bw_bipush (x := 48) dX8_init_13 15 rfl rfl ?_
  refine bw_newa (t := 0) (N' := 48) (a0 := (48, .inl (fun _ => 0))) dX8_init_15 17 rfl wc_8 rfl rfl rfl (fun _ _ => rfl) (by decide) rfl (by decide) (Nat.le_of_ble_eq_true rfl) (Nat.le_of_ble_eq_true rfl) (n + 2) 2 144 rfl rfl rfl ?_
  refine bw_putF (ci := 8) (fs := [.ref (G.2.2.2 + n), .null, .null, .null]) (T := TX8) (f := 1) (N := 4) dX8_init_17 20 rfl wc_69 in_X8 tyX8_ok nmX8 (by omega) ((b_ne (by omega)).trans (b_same)) rfl (by decide) (Nat.le_of_ble_eq_true rfl) rfl rfl rfl rfl rfl [.ref (G.2.2.2 + n), .ref (G.2.2.2 + (n + 1)), .null, .null] rfl ?_
  refine bw_aload_n (i := 0) dX8_init_20 21 rfl rfl 0 rfl ?_
  refine bw_bipush (x := 48) dX8_init_21 23 rfl rfl ?_
  refine bw_newa (t := 0) (N' := 48) (a0 := (48, .inl (fun _ => 0))) dX8_init_23 25 rfl wc_8 rfl rfl rfl (fun _ _ => rfl) (by decide) rfl (by decide) (Nat.le_of_ble_eq_true rfl) (Nat.le_of_ble_eq_true rfl) (n + 3) 3 192 rfl rfl rfl ?_
  refine bw_putF (ci := 8) (fs := [.ref (G.2.2.2 + n), .ref (G.2.2.2 + (n + 1)), .null, .null]) (T := TX8) (f := 2) (N := 4) dX8_init_25 28 rfl wc_70 in_X8 tyX8_ok nmX8 (by omega) ((b_ne (by omega)).trans (b_same)) rfl (by decide) (Nat.le_of_ble_eq_true rfl) rfl rfl rfl rfl rfl [.ref (G.2.2.2 + n), .ref (G.2.2.2 + (n + 1)), .ref (G.2.2.2 + (n + 2)), .null] rfl ?_
  refine bw_aload_n (i := 0) dX8_init_28 29 rfl rfl 0 rfl ?_
  refine bw_bipush (x := 48) dX8_init_29 31 rfl rfl ?_
  refine bw_newa (t := 0) (N' := 48) (a0 := (48, .inl (fun _ => 0))) dX8_init_31 33 rfl wc_8 rfl rfl rfl (fun _ _ => rfl) (by decide) rfl (by decide) (Nat.le_of_ble_eq_true rfl) (Nat.le_of_ble_eq_true rfl) (n + 4) 4 240 rfl rfl rfl ?_
  refine bw_putF (ci := 8) (fs := [.ref (G.2.2.2 + n), .ref (G.2.2.2 + (n + 1)), .ref (G.2.2.2 + (n + 2)), .null]) (T := TX8) (f := 3) (N := 4) dX8_init_33 36 rfl wc_71 in_X8 tyX8_ok nmX8 (by omega) ((b_ne (by omega)).trans (b_same)) rfl (by decide) (Nat.le_of_ble_eq_true rfl) rfl rfl rfl rfl rfl [.ref (G.2.2.2 + n), .ref (G.2.2.2 + (n + 1)), .ref (G.2.2.2 + (n + 2)), .ref (G.2.2.2 + (n + 3))] rfl ?_
  exact bw_ret dX8_init_36 rfl rfl rfl rfl rfl
def m_X6_init : qMd := ({ frames := 1, cells := 1, slots := 0, locals := 40 }, RX6, yX6_init, cX6_init, 1, none)
theorem dX6_init_0 : decode cX6_init 0 = .ok (.aload_n 0, 1) := by decide +kernel
theorem dX6_init_1 : decode cX6_init 1 = .ok (.invokespecial 3, 3) := by decide +kernel
theorem dX6_init_4 : decode cX6_init 4 = .ok (.aload_n 0, 1) := by decide +kernel
theorem dX6_init_5 : decode cX6_init 5 = .ok (.iconst 0, 1) := by decide +kernel
theorem dX6_init_6 : decode cX6_init 6 = .ok (.newarray .int, 2) := by decide +kernel
theorem dX6_init_8 : decode cX6_init 8 = .ok (.putfield 9, 3) := by decide +kernel
theorem dX6_init_11 : decode cX6_init 11 = .ok (.aload_n 0, 1) := by decide +kernel
theorem dX6_init_12 : decode cX6_init 12 = .ok (.bipush (-9), 2) := by decide +kernel
theorem dX6_init_14 : decode cX6_init 14 = .ok (.putfield 15, 3) := by decide +kernel
theorem dX6_init_17 : decode cX6_init 17 = .ok (.return_, 1) := by decide +kernel
theorem wi_X6_init : b_Wi m_X6_init := ⟨wc_81, wc_77, wc_82⟩
theorem pi_X6_init : b_Pk m_X6_init 0 1 0 := ⟨rfl, rfl, rfl, by decide +kernel, rfl, by decide +kernel, rfl⟩
noncomputable def bV_X6_init (G : qG) (h n : Nat) (V : qV) : qV := (b_up (b_up (b_up V n (.inl (G.2.2.1 0, 0, .inl (fun _ => 0)))) h (.inr (6, [.ref (G.2.2.2 + n), .int 0, .int 0, .int 0, .int 0, .int 0, .int 0]))) h (.inr (6, [.ref (G.2.2.2 + n), .int 0, .int 0, .int 0, .int 0, .int 0, .int (-9)])))
set_option maxRecDepth 100000 in
set_option maxHeartbeats 8000000 in
theorem kc_X6_init (l : Launch) (G : qG) (h n : Nat) (V : qV) (hh : h < n) (hv : V h = .inr (6, [.null, .int 0, .int 0, .int 0, .int 0, .int 0, .int 0])) : qBC l G m_X6_init [.ref (G.2.2.2 + h)] n V ((n + 1), (bV_X6_init G h n V), 1, 0) := by
  refine b_entry pi_X6_init (Nat.le_of_ble_eq_true rfl) ?_
  show qBW l G m_X6_init _ 0 [(0, .ref (G.2.2.2 + h))] [] n V 0 0
  refine bw_aload_n (i := 0) dX6_init_0 1 rfl rfl 0 rfl ?_
  refine bw_objInit dX6_init_1 4 rfl wc_78 wc_1 wc_2 (Nat.le_of_ble_eq_true rfl) (Nat.le_of_ble_eq_true rfl) ?_
  refine bw_aload_n (i := 0) dX6_init_4 5 rfl rfl 0 rfl ?_
  refine bw_iconst (x := 0) dX6_init_5 6 rfl rfl ?_
  refine bw_newa (t := 0) (N' := 0) (a0 := (0, .inl (fun _ => 0))) dX6_init_6 8 rfl wc_8 rfl rfl rfl (fun _ _ => rfl) (by decide) rfl (by decide) (Nat.le_of_ble_eq_true rfl) (Nat.le_of_ble_eq_true rfl) (n + 1) 1 0 rfl rfl rfl ?_
  refine bw_put (T := TX6) (f := 0) (N := 7) dX6_init_8 11 rfl wc_79 in_X6 tyX6_ok nmX6 (by omega) ((b_ne (by omega)).trans (hv)) rfl (by decide) (Nat.le_of_ble_eq_true rfl) rfl rfl rfl rfl [.ref (G.2.2.2 + n), .int 0, .int 0, .int 0, .int 0, .int 0, .int 0] rfl ?_
  refine bw_aload_n (i := 0) dX6_init_11 12 rfl rfl 0 rfl ?_
  refine bw_bipush (x := (-9)) dX6_init_12 14 rfl rfl ?_
  refine bw_put (T := TX6) (f := 6) (N := 7) dX6_init_14 17 rfl wc_80 in_X6 tyX6_ok nmX6 (by omega) (b_same) rfl (by decide) (Nat.le_of_ble_eq_true rfl) rfl rfl rfl rfl [.ref (G.2.2.2 + n), .int 0, .int 0, .int 0, .int 0, .int 0, .int (-9)] rfl ?_
  exact bw_ret dX6_init_17 rfl rfl rfl rfl rfl
def m_X9_init : qMd := ({ frames := 1, cells := 0, slots := 0, locals := 40 }, RX9, yX9_init, cX9_init, 1, none)
theorem dX9_init_0 : decode cX9_init 0 = .ok (.aload_n 0, 1) := by decide +kernel
theorem dX9_init_1 : decode cX9_init 1 = .ok (.invokespecial 1, 3) := by decide +kernel
theorem dX9_init_4 : decode cX9_init 4 = .ok (.return_, 1) := by decide +kernel
theorem wi_X9_init : b_Wi m_X9_init := ⟨wc_92, wc_90, wc_93⟩
theorem pi_X9_init : b_Pk m_X9_init 0 0 0 := ⟨rfl, rfl, rfl, by decide +kernel, rfl, by decide +kernel, rfl⟩
noncomputable def bV_X9_init (G : qG) (h n : Nat) (V : qV) : qV := V
set_option maxRecDepth 100000 in
set_option maxHeartbeats 8000000 in
theorem kc_X9_init (l : Launch) (G : qG) (h n : Nat) (V : qV) (hh : h < n) (hv : V h = .inr (9, [.long 0, .long 0, .int 0])) : qBC l G m_X9_init [.ref (G.2.2.2 + h)] n V (n, (bV_X9_init G h n V), 0, 0) := by
  refine b_entry pi_X9_init (Nat.le_of_ble_eq_true rfl) ?_
  show qBW l G m_X9_init _ 0 [(0, .ref (G.2.2.2 + h))] [] n V 0 0
  refine bw_aload_n (i := 0) dX9_init_0 1 rfl rfl 0 rfl ?_
  refine bw_objInit dX9_init_1 4 rfl wc_91 wc_1 wc_2 (Nat.le_of_ble_eq_true rfl) (Nat.le_of_ble_eq_true rfl) ?_
  exact bw_ret dX9_init_4 rfl rfl rfl rfl rfl
def m_X1_init : qMd := ({ frames := 1, cells := 0, slots := 0, locals := 40 }, RX1, yX1_init, cX1_init, 1, none)
theorem dX1_init_0 : decode cX1_init 0 = .ok (.aload_n 0, 1) := by decide +kernel
theorem dX1_init_1 : decode cX1_init 1 = .ok (.invokespecial 3, 3) := by decide +kernel
theorem dX1_init_4 : decode cX1_init 4 = .ok (.aload_n 0, 1) := by decide +kernel
theorem dX1_init_5 : decode cX1_init 5 = .ok (.bipush (-9), 2) := by decide +kernel
theorem dX1_init_7 : decode cX1_init 7 = .ok (.putfield 9, 3) := by decide +kernel
theorem dX1_init_10 : decode cX1_init 10 = .ok (.return_, 1) := by decide +kernel
theorem wi_X1_init : b_Wi m_X1_init := ⟨wc_103, wc_100, wc_104⟩
theorem pi_X1_init : b_Pk m_X1_init 0 0 0 := ⟨rfl, rfl, rfl, by decide +kernel, rfl, by decide +kernel, rfl⟩
noncomputable def bV_X1_init (G : qG) (h n : Nat) (V : qV) : qV := (b_up V h (.inr (1, [.int (-9), .int 0, .int 0])))
set_option maxRecDepth 100000 in
set_option maxHeartbeats 8000000 in
theorem kc_X1_init (l : Launch) (G : qG) (h n : Nat) (V : qV) (hh : h < n) (hv : V h = .inr (1, [.int 0, .int 0, .int 0])) : qBC l G m_X1_init [.ref (G.2.2.2 + h)] n V (n, (bV_X1_init G h n V), 0, 0) := by
  refine b_entry pi_X1_init (Nat.le_of_ble_eq_true rfl) ?_
  show qBW l G m_X1_init _ 0 [(0, .ref (G.2.2.2 + h))] [] n V 0 0
  refine bw_aload_n (i := 0) dX1_init_0 1 rfl rfl 0 rfl ?_
  refine bw_objInit dX1_init_1 4 rfl wc_101 wc_1 wc_2 (Nat.le_of_ble_eq_true rfl) (Nat.le_of_ble_eq_true rfl) ?_
  refine bw_aload_n (i := 0) dX1_init_4 5 rfl rfl 0 rfl ?_
  refine bw_bipush (x := (-9)) dX1_init_5 7 rfl rfl ?_
  refine bw_put (T := TX1) (f := 0) (N := 3) dX1_init_7 10 rfl wc_102 in_X1 tyX1_ok nmX1 (by omega) (hv) rfl (by decide) (Nat.le_of_ble_eq_true rfl) rfl rfl rfl rfl [.int (-9), .int 0, .int 0] rfl ?_
  exact bw_ret dX1_init_10 rfl rfl rfl rfl rfl
def m_X2_init : qMd := ({ frames := 1, cells := 2, slots := 96, locals := 40 }, RX2, yX2_init, cX2_init, 1, none)
theorem dX2_init_0 : decode cX2_init 0 = .ok (.aload_n 0, 1) := by decide +kernel
theorem dX2_init_1 : decode cX2_init 1 = .ok (.invokespecial 3, 3) := by decide +kernel
theorem dX2_init_4 : decode cX2_init 4 = .ok (.aload_n 0, 1) := by decide +kernel
theorem dX2_init_5 : decode cX2_init 5 = .ok (.bipush 48, 2) := by decide +kernel
theorem dX2_init_7 : decode cX2_init 7 = .ok (.newarray .int, 2) := by decide +kernel
theorem dX2_init_9 : decode cX2_init 9 = .ok (.putfield 9, 3) := by decide +kernel
theorem dX2_init_12 : decode cX2_init 12 = .ok (.aload_n 0, 1) := by decide +kernel
theorem dX2_init_13 : decode cX2_init 13 = .ok (.bipush 48, 2) := by decide +kernel
theorem dX2_init_15 : decode cX2_init 15 = .ok (.newarray .boolean, 2) := by decide +kernel
theorem dX2_init_17 : decode cX2_init 17 = .ok (.putfield 15, 3) := by decide +kernel
theorem dX2_init_20 : decode cX2_init 20 = .ok (.aload_n 0, 1) := by decide +kernel
theorem dX2_init_21 : decode cX2_init 21 = .ok (.bipush (-9), 2) := by decide +kernel
theorem dX2_init_23 : decode cX2_init 23 = .ok (.putfield 19, 3) := by decide +kernel
theorem dX2_init_26 : decode cX2_init 26 = .ok (.return_, 1) := by decide +kernel
theorem wi_X2_init : b_Wi m_X2_init := ⟨wc_111, wc_106, wc_112⟩
theorem pi_X2_init : b_Pk m_X2_init 0 2 96 := ⟨rfl, rfl, rfl, by decide +kernel, rfl, by decide +kernel, rfl⟩
noncomputable def bV_X2_init (G : qG) (h n : Nat) (V : qV) : qV := (b_up (b_up (b_up (b_up (b_up V n (.inl (G.2.2.1 0, 48, .inl (fun _ => 0)))) h (.inr (2, [.ref (G.2.2.2 + n), .null, .int 0, .int 0, .int 0, .int 0]))) (n + 1) (.inl (G.2.2.1 1, 48, .inl (fun _ => 0)))) h (.inr (2, [.ref (G.2.2.2 + n), .ref (G.2.2.2 + (n + 1)), .int 0, .int 0, .int 0, .int 0]))) h (.inr (2, [.ref (G.2.2.2 + n), .ref (G.2.2.2 + (n + 1)), .int (-9), .int 0, .int 0, .int 0])))
set_option maxRecDepth 100000 in
set_option maxHeartbeats 8000000 in
theorem kc_X2_init (l : Launch) (G : qG) (h n : Nat) (V : qV) (hh : h < n) (hv : V h = .inr (2, [.null, .null, .int 0, .int 0, .int 0, .int 0])) : qBC l G m_X2_init [.ref (G.2.2.2 + h)] n V ((n + 2), (bV_X2_init G h n V), 2, 96) := by
  refine b_entry pi_X2_init (Nat.le_of_ble_eq_true rfl) ?_
  show qBW l G m_X2_init _ 0 [(0, .ref (G.2.2.2 + h))] [] n V 0 0
  refine bw_aload_n (i := 0) dX2_init_0 1 rfl rfl 0 rfl ?_
  refine bw_objInit dX2_init_1 4 rfl wc_107 wc_1 wc_2 (Nat.le_of_ble_eq_true rfl) (Nat.le_of_ble_eq_true rfl) ?_
  refine bw_aload_n (i := 0) dX2_init_4 5 rfl rfl 0 rfl ?_
  refine bw_bipush (x := 48) dX2_init_5 7 rfl rfl ?_
  refine bw_newa (t := 0) (N' := 48) (a0 := (48, .inl (fun _ => 0))) dX2_init_7 9 rfl wc_8 rfl rfl rfl (fun _ _ => rfl) (by decide) rfl (by decide) (Nat.le_of_ble_eq_true rfl) (Nat.le_of_ble_eq_true rfl) (n + 1) 1 48 rfl rfl rfl ?_
  refine bw_putF (ci := 2) (fs := [.null, .null, .int 0, .int 0, .int 0, .int 0]) (T := TX2) (f := 0) (N := 6) dX2_init_9 12 rfl wc_108 in_X2 tyX2_ok nmX2 (by omega) ((b_ne (by omega)).trans (hv)) rfl (by decide) (Nat.le_of_ble_eq_true rfl) rfl rfl rfl rfl rfl [.ref (G.2.2.2 + n), .null, .int 0, .int 0, .int 0, .int 0] rfl ?_
  refine bw_aload_n (i := 0) dX2_init_12 13 rfl rfl 0 rfl ?_
  refine bw_bipush (x := 48) dX2_init_13 15 rfl rfl ?_
  refine bw_newa (t := 1) (N' := 48) (a0 := (48, .inl (fun _ => 0))) dX2_init_15 17 rfl wc_27 rfl rfl rfl (fun _ _ => rfl) (by decide) rfl (by decide) (Nat.le_of_ble_eq_true rfl) (Nat.le_of_ble_eq_true rfl) (n + 2) 2 96 rfl rfl rfl ?_
  refine bw_putF (ci := 2) (fs := [.ref (G.2.2.2 + n), .null, .int 0, .int 0, .int 0, .int 0]) (T := TX2) (f := 1) (N := 6) dX2_init_17 20 rfl wc_109 in_X2 tyX2_ok nmX2 (by omega) ((b_ne (by omega)).trans (b_same)) rfl (by decide) (Nat.le_of_ble_eq_true rfl) rfl rfl rfl rfl rfl [.ref (G.2.2.2 + n), .ref (G.2.2.2 + (n + 1)), .int 0, .int 0, .int 0, .int 0] rfl ?_
  refine bw_aload_n (i := 0) dX2_init_20 21 rfl rfl 0 rfl ?_
  refine bw_bipush (x := (-9)) dX2_init_21 23 rfl rfl ?_
  refine bw_put (T := TX2) (f := 2) (N := 6) dX2_init_23 26 rfl wc_110 in_X2 tyX2_ok nmX2 (by omega) (b_same) rfl (by decide) (Nat.le_of_ble_eq_true rfl) rfl rfl rfl rfl [.ref (G.2.2.2 + n), .ref (G.2.2.2 + (n + 1)), .int (-9), .int 0, .int 0, .int 0] rfl ?_
  exact bw_ret dX2_init_26 rfl rfl rfl rfl rfl
def m_X10_init : qMd := ({ frames := 3, cells := 174, slots := 5529, locals := 80 }, RX10, yX10_init, cX10_init, 2, none)
theorem dX10_init_0 : decode cX10_init 0 = .ok (.aload_n 0, 1) := by decide +kernel
theorem dX10_init_1 : decode cX10_init 1 = .ok (.invokespecial 1, 3) := by decide +kernel
theorem dX10_init_4 : decode cX10_init 4 = .ok (.aload_n 0, 1) := by decide +kernel
theorem dX10_init_5 : decode cX10_init 5 = .ok (.new 7, 3) := by decide +kernel
theorem dX10_init_8 : decode cX10_init 8 = .ok (.dup, 1) := by decide +kernel
theorem dX10_init_9 : decode cX10_init 9 = .ok (.bipush 6, 2) := by decide +kernel
theorem dX10_init_11 : decode cX10_init 11 = .ok (.bipush 48, 2) := by decide +kernel
theorem dX10_init_13 : decode cX10_init 13 = .ok (.invokespecial 11, 3) := by decide +kernel
theorem dX10_init_16 : decode cX10_init 16 = .ok (.putfield 14, 3) := by decide +kernel
theorem dX10_init_19 : decode cX10_init 19 = .ok (.aload_n 0, 1) := by decide +kernel
theorem dX10_init_20 : decode cX10_init 20 = .ok (.new 7, 3) := by decide +kernel
theorem dX10_init_23 : decode cX10_init 23 = .ok (.dup, 1) := by decide +kernel
theorem dX10_init_24 : decode cX10_init 24 = .ok (.bipush 6, 2) := by decide +kernel
theorem dX10_init_26 : decode cX10_init 26 = .ok (.bipush 40, 2) := by decide +kernel
theorem dX10_init_28 : decode cX10_init 28 = .ok (.invokespecial 11, 3) := by decide +kernel
theorem dX10_init_31 : decode cX10_init 31 = .ok (.putfield 18, 3) := by decide +kernel
theorem dX10_init_34 : decode cX10_init 34 = .ok (.aload_n 0, 1) := by decide +kernel
theorem dX10_init_35 : decode cX10_init 35 = .ok (.new 7, 3) := by decide +kernel
theorem dX10_init_38 : decode cX10_init 38 = .ok (.dup, 1) := by decide +kernel
theorem dX10_init_39 : decode cX10_init 39 = .ok (.bipush 8, 2) := by decide +kernel
theorem dX10_init_41 : decode cX10_init 41 = .ok (.bipush 40, 2) := by decide +kernel
theorem dX10_init_43 : decode cX10_init 43 = .ok (.invokespecial 11, 3) := by decide +kernel
theorem dX10_init_46 : decode cX10_init 46 = .ok (.putfield 21, 3) := by decide +kernel
theorem dX10_init_49 : decode cX10_init 49 = .ok (.aload_n 0, 1) := by decide +kernel
theorem dX10_init_50 : decode cX10_init 50 = .ok (.bipush 8, 2) := by decide +kernel
theorem dX10_init_52 : decode cX10_init 52 = .ok (.newarray .int, 2) := by decide +kernel
theorem dX10_init_54 : decode cX10_init 54 = .ok (.putfield 24, 3) := by decide +kernel
theorem dX10_init_57 : decode cX10_init 57 = .ok (.aload_n 0, 1) := by decide +kernel
theorem dX10_init_58 : decode cX10_init 58 = .ok (.bipush 6, 2) := by decide +kernel
theorem dX10_init_60 : decode cX10_init 60 = .ok (.anewarray 28, 3) := by decide +kernel
theorem dX10_init_63 : decode cX10_init 63 = .ok (.putfield 30, 3) := by decide +kernel
theorem dX10_init_66 : decode cX10_init 66 = .ok (.aload_n 0, 1) := by decide +kernel
theorem dX10_init_67 : decode cX10_init 67 = .ok (.new 28, 3) := by decide +kernel
theorem dX10_init_70 : decode cX10_init 70 = .ok (.dup, 1) := by decide +kernel
theorem dX10_init_71 : decode cX10_init 71 = .ok (.invokespecial 34, 3) := by decide +kernel
theorem dX10_init_74 : decode cX10_init 74 = .ok (.putfield 35, 3) := by decide +kernel
theorem dX10_init_77 : decode cX10_init 77 = .ok (.aload_n 0, 1) := by decide +kernel
theorem dX10_init_78 : decode cX10_init 78 = .ok (.new 39, 3) := by decide +kernel
theorem dX10_init_81 : decode cX10_init 81 = .ok (.dup, 1) := by decide +kernel
theorem dX10_init_82 : decode cX10_init 82 = .ok (.invokespecial 41, 3) := by decide +kernel
theorem dX10_init_85 : decode cX10_init 85 = .ok (.putfield 42, 3) := by decide +kernel
theorem dX10_init_88 : decode cX10_init 88 = .ok (.aload_n 0, 1) := by decide +kernel
theorem dX10_init_89 : decode cX10_init 89 = .ok (.new 46, 3) := by decide +kernel
theorem dX10_init_92 : decode cX10_init 92 = .ok (.dup, 1) := by decide +kernel
theorem dX10_init_93 : decode cX10_init 93 = .ok (.invokespecial 48, 3) := by decide +kernel
theorem dX10_init_96 : decode cX10_init 96 = .ok (.putfield 49, 3) := by decide +kernel
theorem dX10_init_99 : decode cX10_init 99 = .ok (.aload_n 0, 1) := by decide +kernel
theorem dX10_init_100 : decode cX10_init 100 = .ok (.bipush 8, 2) := by decide +kernel
theorem dX10_init_102 : decode cX10_init 102 = .ok (.anewarray 53, 3) := by decide +kernel
theorem dX10_init_105 : decode cX10_init 105 = .ok (.putfield 55, 3) := by decide +kernel
theorem dX10_init_108 : decode cX10_init 108 = .ok (.aload_n 0, 1) := by decide +kernel
theorem dX10_init_109 : decode cX10_init 109 = .ok (.bipush 8, 2) := by decide +kernel
theorem dX10_init_111 : decode cX10_init 111 = .ok (.anewarray 59, 3) := by decide +kernel
theorem dX10_init_114 : decode cX10_init 114 = .ok (.putfield 61, 3) := by decide +kernel
theorem dX10_init_117 : decode cX10_init 117 = .ok (.aload_n 0, 1) := by decide +kernel
theorem dX10_init_118 : decode cX10_init 118 = .ok (.new 65, 3) := by decide +kernel
theorem dX10_init_121 : decode cX10_init 121 = .ok (.dup, 1) := by decide +kernel
theorem dX10_init_122 : decode cX10_init 122 = .ok (.invokespecial 67, 3) := by decide +kernel
theorem dX10_init_125 : decode cX10_init 125 = .ok (.putfield 68, 3) := by decide +kernel
theorem dX10_init_128 : decode cX10_init 128 = .ok (.aload_n 0, 1) := by decide +kernel
theorem dX10_init_129 : decode cX10_init 129 = .ok (.new 65, 3) := by decide +kernel
theorem dX10_init_132 : decode cX10_init 132 = .ok (.dup, 1) := by decide +kernel
theorem dX10_init_133 : decode cX10_init 133 = .ok (.invokespecial 67, 3) := by decide +kernel
theorem dX10_init_136 : decode cX10_init 136 = .ok (.putfield 72, 3) := by decide +kernel
theorem dX10_init_139 : decode cX10_init 139 = .ok (.aload_n 0, 1) := by decide +kernel
theorem dX10_init_140 : decode cX10_init 140 = .ok (.bipush 9, 2) := by decide +kernel
theorem dX10_init_142 : decode cX10_init 142 = .ok (.newarray .int, 2) := by decide +kernel
theorem dX10_init_144 : decode cX10_init 144 = .ok (.putfield 75, 3) := by decide +kernel
theorem dX10_init_147 : decode cX10_init 147 = .ok (.aload_n 0, 1) := by decide +kernel
theorem dX10_init_148 : decode cX10_init 148 = .ok (.bipush 6, 2) := by decide +kernel
theorem dX10_init_150 : decode cX10_init 150 = .ok (.newarray .int, 2) := by decide +kernel
theorem dX10_init_152 : decode cX10_init 152 = .ok (.putfield 78, 3) := by decide +kernel
theorem dX10_init_155 : decode cX10_init 155 = .ok (.aload_n 0, 1) := by decide +kernel
theorem dX10_init_156 : decode cX10_init 156 = .ok (.lconst 1, 1) := by decide +kernel
theorem dX10_init_157 : decode cX10_init 157 = .ok (.putfield 81, 3) := by decide +kernel
theorem dX10_init_160 : decode cX10_init 160 = .ok (.iconst 0, 1) := by decide +kernel
theorem dX10_init_161 : decode cX10_init 161 = .ok (.istore_n 1, 1) := by decide +kernel
theorem dX10_init_162 : decode cX10_init 162 = .ok (.iload_n 1, 1) := by decide +kernel
theorem dX10_init_163 : decode cX10_init 163 = .ok (.bipush 6, 2) := by decide +kernel
theorem dX10_init_165 : decode cX10_init 165 = .ok (.if_icmp .ge 22, 3) := by decide +kernel
theorem dX10_init_168 : decode cX10_init 168 = .ok (.aload_n 0, 1) := by decide +kernel
theorem dX10_init_169 : decode cX10_init 169 = .ok (.getfield 30, 3) := by decide +kernel
theorem dX10_init_172 : decode cX10_init 172 = .ok (.iload_n 1, 1) := by decide +kernel
theorem dX10_init_173 : decode cX10_init 173 = .ok (.new 28, 3) := by decide +kernel
theorem dX10_init_176 : decode cX10_init 176 = .ok (.dup, 1) := by decide +kernel
theorem dX10_init_177 : decode cX10_init 177 = .ok (.invokespecial 34, 3) := by decide +kernel
theorem dX10_init_180 : decode cX10_init 180 = .ok (.aastore, 1) := by decide +kernel
theorem dX10_init_181 : decode cX10_init 181 = .ok (.iinc 1 1, 3) := by decide +kernel
theorem dX10_init_184 : decode cX10_init 184 = .ok (.goto (-22), 3) := by decide +kernel
theorem dX10_init_187 : decode cX10_init 187 = .ok (.iconst 0, 1) := by decide +kernel
theorem dX10_init_188 : decode cX10_init 188 = .ok (.istore_n 1, 1) := by decide +kernel
theorem dX10_init_189 : decode cX10_init 189 = .ok (.iload_n 1, 1) := by decide +kernel
theorem dX10_init_190 : decode cX10_init 190 = .ok (.bipush 8, 2) := by decide +kernel
theorem dX10_init_192 : decode cX10_init 192 = .ok (.if_icmp .ge 22, 3) := by decide +kernel
theorem dX10_init_195 : decode cX10_init 195 = .ok (.aload_n 0, 1) := by decide +kernel
theorem dX10_init_196 : decode cX10_init 196 = .ok (.getfield 55, 3) := by decide +kernel
theorem dX10_init_199 : decode cX10_init 199 = .ok (.iload_n 1, 1) := by decide +kernel
theorem dX10_init_200 : decode cX10_init 200 = .ok (.new 53, 3) := by decide +kernel
theorem dX10_init_203 : decode cX10_init 203 = .ok (.dup, 1) := by decide +kernel
theorem dX10_init_204 : decode cX10_init 204 = .ok (.invokespecial 85, 3) := by decide +kernel
theorem dX10_init_207 : decode cX10_init 207 = .ok (.aastore, 1) := by decide +kernel
theorem dX10_init_208 : decode cX10_init 208 = .ok (.iinc 1 1, 3) := by decide +kernel
theorem dX10_init_211 : decode cX10_init 211 = .ok (.goto (-22), 3) := by decide +kernel
theorem dX10_init_214 : decode cX10_init 214 = .ok (.iconst 0, 1) := by decide +kernel
theorem dX10_init_215 : decode cX10_init 215 = .ok (.istore_n 1, 1) := by decide +kernel
theorem dX10_init_216 : decode cX10_init 216 = .ok (.iload_n 1, 1) := by decide +kernel
theorem dX10_init_217 : decode cX10_init 217 = .ok (.bipush 8, 2) := by decide +kernel
theorem dX10_init_219 : decode cX10_init 219 = .ok (.if_icmp .ge 22, 3) := by decide +kernel
theorem dX10_init_222 : decode cX10_init 222 = .ok (.aload_n 0, 1) := by decide +kernel
theorem dX10_init_223 : decode cX10_init 223 = .ok (.getfield 61, 3) := by decide +kernel
theorem dX10_init_226 : decode cX10_init 226 = .ok (.iload_n 1, 1) := by decide +kernel
theorem dX10_init_227 : decode cX10_init 227 = .ok (.new 59, 3) := by decide +kernel
theorem dX10_init_230 : decode cX10_init 230 = .ok (.dup, 1) := by decide +kernel
theorem dX10_init_231 : decode cX10_init 231 = .ok (.invokespecial 86, 3) := by decide +kernel
theorem dX10_init_234 : decode cX10_init 234 = .ok (.aastore, 1) := by decide +kernel
theorem dX10_init_235 : decode cX10_init 235 = .ok (.iinc 1 1, 3) := by decide +kernel
theorem dX10_init_238 : decode cX10_init 238 = .ok (.goto (-22), 3) := by decide +kernel
theorem dX10_init_241 : decode cX10_init 241 = .ok (.return_, 1) := by decide +kernel
theorem wi_X10_init : b_Wi m_X10_init := ⟨wc_113, wc_114, wc_115⟩
theorem pi_X10_init : b_Pk m_X10_init 0 174 5529 := ⟨rfl, rfl, rfl, by decide +kernel, rfl, by decide +kernel, rfl⟩
noncomputable def bV_X10_init (G : qG) (V : qV) : qV := (b_up (bV_X2_init G 172 173 (b_up (b_up (bV_X2_init G 169 170 (b_up (b_up (bV_X2_init G 166 167 (b_up (b_up (bV_X2_init G 163 164 (b_up (b_up (bV_X2_init G 160 161 (b_up (b_up (bV_X2_init G 157 158 (b_up (b_up (bV_X2_init G 154 155 (b_up (b_up (bV_X2_init G 151 152 (b_up (b_up (bV_X1_init G 150 151 (b_up (b_up (bV_X1_init G 149 150 (b_up (b_up (bV_X1_init G 148 149 (b_up (b_up (bV_X1_init G 147 148 (b_up (b_up (bV_X1_init G 146 147 (b_up (b_up (bV_X1_init G 145 146 (b_up (b_up (bV_X1_init G 144 145 (b_up (b_up (bV_X1_init G 143 144 (b_up (b_up (bV_X0_init G 129 130 (b_up (b_up (bV_X0_init G 115 116 (b_up (b_up (bV_X0_init G 101 102 (b_up (b_up (bV_X0_init G 87 88 (b_up (b_up (bV_X0_init G 73 74 (b_up (b_up (bV_X0_init G 59 60 (b_up (b_up (b_up (b_up (b_up (b_up (b_up (bV_X9_init G 56 57 (b_up (b_up (bV_X9_init G 55 56 (b_up (b_up (b_up (b_up (b_up (b_up (bV_X6_init G 51 52 (b_up (b_up (bV_X8_init G 46 47 (b_up (b_up (bV_X0_init G 32 33 (b_up (b_up (b_up (b_up (b_up (b_up (bV_X7_init_8_40_19 G (b_up (b_up (bV_X7_init_6_40_10 G (b_up (b_up (bV_X7_init_6_48_1 G (b_up V 1 (.inr (7, [.null, .null])))) 0 (.inr (10, [.ref (G.2.2.2 + 1), .null, .null, .null, .null, .null, .null, .null, .null, .null, .null, .null, .null, .null, .int 0, .int 0, .int 0, .long 0, .long 0]))) 10 (.inr (7, [.null, .null])))) 0 (.inr (10, [.ref (G.2.2.2 + 1), .ref (G.2.2.2 + 10), .null, .null, .null, .null, .null, .null, .null, .null, .null, .null, .null, .null, .int 0, .int 0, .int 0, .long 0, .long 0]))) 19 (.inr (7, [.null, .null])))) 0 (.inr (10, [.ref (G.2.2.2 + 1), .ref (G.2.2.2 + 10), .ref (G.2.2.2 + 19), .null, .null, .null, .null, .null, .null, .null, .null, .null, .null, .null, .int 0, .int 0, .int 0, .long 0, .long 0]))) 30 (.inl (G.2.2.1 0, 8, .inl (fun _ => 0)))) 0 (.inr (10, [.ref (G.2.2.2 + 1), .ref (G.2.2.2 + 10), .ref (G.2.2.2 + 19), .ref (G.2.2.2 + 30), .null, .null, .null, .null, .null, .null, .null, .null, .null, .null, .int 0, .int 0, .int 0, .long 0, .long 0]))) 31 (.inl (G.2.2.1 3, 6, .inr (.inr (.inr (.inr (fun _ => none))))))) 0 (.inr (10, [.ref (G.2.2.2 + 1), .ref (G.2.2.2 + 10), .ref (G.2.2.2 + 19), .ref (G.2.2.2 + 30), .ref (G.2.2.2 + 31), .null, .null, .null, .null, .null, .null, .null, .null, .null, .int 0, .int 0, .int 0, .long 0, .long 0]))) 32 (.inr (0, [.null, .null, .null, .null, .null, .null, .null, .null, .null, .int 0, .int 0, .int 0, .int 0, .int 0, .int 0, .int 0, .int 0, .int 0, .int 0])))) 0 (.inr (10, [.ref (G.2.2.2 + 1), .ref (G.2.2.2 + 10), .ref (G.2.2.2 + 19), .ref (G.2.2.2 + 30), .ref (G.2.2.2 + 31), .ref (G.2.2.2 + 32), .null, .null, .null, .null, .null, .null, .null, .null, .int 0, .int 0, .int 0, .long 0, .long 0]))) 46 (.inr (8, [.null, .null, .null, .null])))) 0 (.inr (10, [.ref (G.2.2.2 + 1), .ref (G.2.2.2 + 10), .ref (G.2.2.2 + 19), .ref (G.2.2.2 + 30), .ref (G.2.2.2 + 31), .ref (G.2.2.2 + 32), .ref (G.2.2.2 + 46), .null, .null, .null, .null, .null, .null, .null, .int 0, .int 0, .int 0, .long 0, .long 0]))) 51 (.inr (6, [.null, .int 0, .int 0, .int 0, .int 0, .int 0, .int 0])))) 0 (.inr (10, [.ref (G.2.2.2 + 1), .ref (G.2.2.2 + 10), .ref (G.2.2.2 + 19), .ref (G.2.2.2 + 30), .ref (G.2.2.2 + 31), .ref (G.2.2.2 + 32), .ref (G.2.2.2 + 46), .ref (G.2.2.2 + 51), .null, .null, .null, .null, .null, .null, .int 0, .int 0, .int 0, .long 0, .long 0]))) 53 (.inl (G.2.2.1 4, 8, .inr (.inr (.inr (.inr (fun _ => none))))))) 0 (.inr (10, [.ref (G.2.2.2 + 1), .ref (G.2.2.2 + 10), .ref (G.2.2.2 + 19), .ref (G.2.2.2 + 30), .ref (G.2.2.2 + 31), .ref (G.2.2.2 + 32), .ref (G.2.2.2 + 46), .ref (G.2.2.2 + 51), .ref (G.2.2.2 + 53), .null, .null, .null, .null, .null, .int 0, .int 0, .int 0, .long 0, .long 0]))) 54 (.inl (G.2.2.1 5, 8, .inr (.inr (.inr (.inr (fun _ => none))))))) 0 (.inr (10, [.ref (G.2.2.2 + 1), .ref (G.2.2.2 + 10), .ref (G.2.2.2 + 19), .ref (G.2.2.2 + 30), .ref (G.2.2.2 + 31), .ref (G.2.2.2 + 32), .ref (G.2.2.2 + 46), .ref (G.2.2.2 + 51), .ref (G.2.2.2 + 53), .ref (G.2.2.2 + 54), .null, .null, .null, .null, .int 0, .int 0, .int 0, .long 0, .long 0]))) 55 (.inr (9, [.long 0, .long 0, .int 0])))) 0 (.inr (10, [.ref (G.2.2.2 + 1), .ref (G.2.2.2 + 10), .ref (G.2.2.2 + 19), .ref (G.2.2.2 + 30), .ref (G.2.2.2 + 31), .ref (G.2.2.2 + 32), .ref (G.2.2.2 + 46), .ref (G.2.2.2 + 51), .ref (G.2.2.2 + 53), .ref (G.2.2.2 + 54), .ref (G.2.2.2 + 55), .null, .null, .null, .int 0, .int 0, .int 0, .long 0, .long 0]))) 56 (.inr (9, [.long 0, .long 0, .int 0])))) 0 (.inr (10, [.ref (G.2.2.2 + 1), .ref (G.2.2.2 + 10), .ref (G.2.2.2 + 19), .ref (G.2.2.2 + 30), .ref (G.2.2.2 + 31), .ref (G.2.2.2 + 32), .ref (G.2.2.2 + 46), .ref (G.2.2.2 + 51), .ref (G.2.2.2 + 53), .ref (G.2.2.2 + 54), .ref (G.2.2.2 + 55), .ref (G.2.2.2 + 56), .null, .null, .int 0, .int 0, .int 0, .long 0, .long 0]))) 57 (.inl (G.2.2.1 0, 9, .inl (fun _ => 0)))) 0 (.inr (10, [.ref (G.2.2.2 + 1), .ref (G.2.2.2 + 10), .ref (G.2.2.2 + 19), .ref (G.2.2.2 + 30), .ref (G.2.2.2 + 31), .ref (G.2.2.2 + 32), .ref (G.2.2.2 + 46), .ref (G.2.2.2 + 51), .ref (G.2.2.2 + 53), .ref (G.2.2.2 + 54), .ref (G.2.2.2 + 55), .ref (G.2.2.2 + 56), .ref (G.2.2.2 + 57), .null, .int 0, .int 0, .int 0, .long 0, .long 0]))) 58 (.inl (G.2.2.1 0, 6, .inl (fun _ => 0)))) 0 (.inr (10, [.ref (G.2.2.2 + 1), .ref (G.2.2.2 + 10), .ref (G.2.2.2 + 19), .ref (G.2.2.2 + 30), .ref (G.2.2.2 + 31), .ref (G.2.2.2 + 32), .ref (G.2.2.2 + 46), .ref (G.2.2.2 + 51), .ref (G.2.2.2 + 53), .ref (G.2.2.2 + 54), .ref (G.2.2.2 + 55), .ref (G.2.2.2 + 56), .ref (G.2.2.2 + 57), .ref (G.2.2.2 + 58), .int 0, .int 0, .int 0, .long 0, .long 0]))) 0 (.inr (10, [.ref (G.2.2.2 + 1), .ref (G.2.2.2 + 10), .ref (G.2.2.2 + 19), .ref (G.2.2.2 + 30), .ref (G.2.2.2 + 31), .ref (G.2.2.2 + 32), .ref (G.2.2.2 + 46), .ref (G.2.2.2 + 51), .ref (G.2.2.2 + 53), .ref (G.2.2.2 + 54), .ref (G.2.2.2 + 55), .ref (G.2.2.2 + 56), .ref (G.2.2.2 + 57), .ref (G.2.2.2 + 58), .int 0, .int 0, .int 0, .long 0, .long 1]))) 59 (.inr (0, [.null, .null, .null, .null, .null, .null, .null, .null, .null, .int 0, .int 0, .int 0, .int 0, .int 0, .int 0, .int 0, .int 0, .int 0, .int 0])))) 31 (.inl (G.2.2.1 3, 6, .inr (.inr (.inr (.inr (va_up (fun _ => none) (Int32.toNatClampNeg 0) (some (G.2.2.2 + 59))))))))) 73 (.inr (0, [.null, .null, .null, .null, .null, .null, .null, .null, .null, .int 0, .int 0, .int 0, .int 0, .int 0, .int 0, .int 0, .int 0, .int 0, .int 0])))) 31 (.inl (G.2.2.1 3, 6, .inr (.inr (.inr (.inr (va_up (va_up (fun _ => none) (Int32.toNatClampNeg 0) (some (G.2.2.2 + 59))) (Int32.toNatClampNeg 1) (some (G.2.2.2 + 73))))))))) 87 (.inr (0, [.null, .null, .null, .null, .null, .null, .null, .null, .null, .int 0, .int 0, .int 0, .int 0, .int 0, .int 0, .int 0, .int 0, .int 0, .int 0])))) 31 (.inl (G.2.2.1 3, 6, .inr (.inr (.inr (.inr (va_up (va_up (va_up (fun _ => none) (Int32.toNatClampNeg 0) (some (G.2.2.2 + 59))) (Int32.toNatClampNeg 1) (some (G.2.2.2 + 73))) (Int32.toNatClampNeg 2) (some (G.2.2.2 + 87))))))))) 101 (.inr (0, [.null, .null, .null, .null, .null, .null, .null, .null, .null, .int 0, .int 0, .int 0, .int 0, .int 0, .int 0, .int 0, .int 0, .int 0, .int 0])))) 31 (.inl (G.2.2.1 3, 6, .inr (.inr (.inr (.inr (va_up (va_up (va_up (va_up (fun _ => none) (Int32.toNatClampNeg 0) (some (G.2.2.2 + 59))) (Int32.toNatClampNeg 1) (some (G.2.2.2 + 73))) (Int32.toNatClampNeg 2) (some (G.2.2.2 + 87))) (Int32.toNatClampNeg 3) (some (G.2.2.2 + 101))))))))) 115 (.inr (0, [.null, .null, .null, .null, .null, .null, .null, .null, .null, .int 0, .int 0, .int 0, .int 0, .int 0, .int 0, .int 0, .int 0, .int 0, .int 0])))) 31 (.inl (G.2.2.1 3, 6, .inr (.inr (.inr (.inr (va_up (va_up (va_up (va_up (va_up (fun _ => none) (Int32.toNatClampNeg 0) (some (G.2.2.2 + 59))) (Int32.toNatClampNeg 1) (some (G.2.2.2 + 73))) (Int32.toNatClampNeg 2) (some (G.2.2.2 + 87))) (Int32.toNatClampNeg 3) (some (G.2.2.2 + 101))) (Int32.toNatClampNeg 4) (some (G.2.2.2 + 115))))))))) 129 (.inr (0, [.null, .null, .null, .null, .null, .null, .null, .null, .null, .int 0, .int 0, .int 0, .int 0, .int 0, .int 0, .int 0, .int 0, .int 0, .int 0])))) 31 (.inl (G.2.2.1 3, 6, .inr (.inr (.inr (.inr (va_up (va_up (va_up (va_up (va_up (va_up (fun _ => none) (Int32.toNatClampNeg 0) (some (G.2.2.2 + 59))) (Int32.toNatClampNeg 1) (some (G.2.2.2 + 73))) (Int32.toNatClampNeg 2) (some (G.2.2.2 + 87))) (Int32.toNatClampNeg 3) (some (G.2.2.2 + 101))) (Int32.toNatClampNeg 4) (some (G.2.2.2 + 115))) (Int32.toNatClampNeg 5) (some (G.2.2.2 + 129))))))))) 143 (.inr (1, [.int 0, .int 0, .int 0])))) 53 (.inl (G.2.2.1 4, 8, .inr (.inr (.inr (.inr (va_up (fun _ => none) (Int32.toNatClampNeg 0) (some (G.2.2.2 + 143))))))))) 144 (.inr (1, [.int 0, .int 0, .int 0])))) 53 (.inl (G.2.2.1 4, 8, .inr (.inr (.inr (.inr (va_up (va_up (fun _ => none) (Int32.toNatClampNeg 0) (some (G.2.2.2 + 143))) (Int32.toNatClampNeg 1) (some (G.2.2.2 + 144))))))))) 145 (.inr (1, [.int 0, .int 0, .int 0])))) 53 (.inl (G.2.2.1 4, 8, .inr (.inr (.inr (.inr (va_up (va_up (va_up (fun _ => none) (Int32.toNatClampNeg 0) (some (G.2.2.2 + 143))) (Int32.toNatClampNeg 1) (some (G.2.2.2 + 144))) (Int32.toNatClampNeg 2) (some (G.2.2.2 + 145))))))))) 146 (.inr (1, [.int 0, .int 0, .int 0])))) 53 (.inl (G.2.2.1 4, 8, .inr (.inr (.inr (.inr (va_up (va_up (va_up (va_up (fun _ => none) (Int32.toNatClampNeg 0) (some (G.2.2.2 + 143))) (Int32.toNatClampNeg 1) (some (G.2.2.2 + 144))) (Int32.toNatClampNeg 2) (some (G.2.2.2 + 145))) (Int32.toNatClampNeg 3) (some (G.2.2.2 + 146))))))))) 147 (.inr (1, [.int 0, .int 0, .int 0])))) 53 (.inl (G.2.2.1 4, 8, .inr (.inr (.inr (.inr (va_up (va_up (va_up (va_up (va_up (fun _ => none) (Int32.toNatClampNeg 0) (some (G.2.2.2 + 143))) (Int32.toNatClampNeg 1) (some (G.2.2.2 + 144))) (Int32.toNatClampNeg 2) (some (G.2.2.2 + 145))) (Int32.toNatClampNeg 3) (some (G.2.2.2 + 146))) (Int32.toNatClampNeg 4) (some (G.2.2.2 + 147))))))))) 148 (.inr (1, [.int 0, .int 0, .int 0])))) 53 (.inl (G.2.2.1 4, 8, .inr (.inr (.inr (.inr (va_up (va_up (va_up (va_up (va_up (va_up (fun _ => none) (Int32.toNatClampNeg 0) (some (G.2.2.2 + 143))) (Int32.toNatClampNeg 1) (some (G.2.2.2 + 144))) (Int32.toNatClampNeg 2) (some (G.2.2.2 + 145))) (Int32.toNatClampNeg 3) (some (G.2.2.2 + 146))) (Int32.toNatClampNeg 4) (some (G.2.2.2 + 147))) (Int32.toNatClampNeg 5) (some (G.2.2.2 + 148))))))))) 149 (.inr (1, [.int 0, .int 0, .int 0])))) 53 (.inl (G.2.2.1 4, 8, .inr (.inr (.inr (.inr (va_up (va_up (va_up (va_up (va_up (va_up (va_up (fun _ => none) (Int32.toNatClampNeg 0) (some (G.2.2.2 + 143))) (Int32.toNatClampNeg 1) (some (G.2.2.2 + 144))) (Int32.toNatClampNeg 2) (some (G.2.2.2 + 145))) (Int32.toNatClampNeg 3) (some (G.2.2.2 + 146))) (Int32.toNatClampNeg 4) (some (G.2.2.2 + 147))) (Int32.toNatClampNeg 5) (some (G.2.2.2 + 148))) (Int32.toNatClampNeg 6) (some (G.2.2.2 + 149))))))))) 150 (.inr (1, [.int 0, .int 0, .int 0])))) 53 (.inl (G.2.2.1 4, 8, .inr (.inr (.inr (.inr (va_up (va_up (va_up (va_up (va_up (va_up (va_up (va_up (fun _ => none) (Int32.toNatClampNeg 0) (some (G.2.2.2 + 143))) (Int32.toNatClampNeg 1) (some (G.2.2.2 + 144))) (Int32.toNatClampNeg 2) (some (G.2.2.2 + 145))) (Int32.toNatClampNeg 3) (some (G.2.2.2 + 146))) (Int32.toNatClampNeg 4) (some (G.2.2.2 + 147))) (Int32.toNatClampNeg 5) (some (G.2.2.2 + 148))) (Int32.toNatClampNeg 6) (some (G.2.2.2 + 149))) (Int32.toNatClampNeg 7) (some (G.2.2.2 + 150))))))))) 151 (.inr (2, [.null, .null, .int 0, .int 0, .int 0, .int 0])))) 54 (.inl (G.2.2.1 5, 8, .inr (.inr (.inr (.inr (va_up (fun _ => none) (Int32.toNatClampNeg 0) (some (G.2.2.2 + 151))))))))) 154 (.inr (2, [.null, .null, .int 0, .int 0, .int 0, .int 0])))) 54 (.inl (G.2.2.1 5, 8, .inr (.inr (.inr (.inr (va_up (va_up (fun _ => none) (Int32.toNatClampNeg 0) (some (G.2.2.2 + 151))) (Int32.toNatClampNeg 1) (some (G.2.2.2 + 154))))))))) 157 (.inr (2, [.null, .null, .int 0, .int 0, .int 0, .int 0])))) 54 (.inl (G.2.2.1 5, 8, .inr (.inr (.inr (.inr (va_up (va_up (va_up (fun _ => none) (Int32.toNatClampNeg 0) (some (G.2.2.2 + 151))) (Int32.toNatClampNeg 1) (some (G.2.2.2 + 154))) (Int32.toNatClampNeg 2) (some (G.2.2.2 + 157))))))))) 160 (.inr (2, [.null, .null, .int 0, .int 0, .int 0, .int 0])))) 54 (.inl (G.2.2.1 5, 8, .inr (.inr (.inr (.inr (va_up (va_up (va_up (va_up (fun _ => none) (Int32.toNatClampNeg 0) (some (G.2.2.2 + 151))) (Int32.toNatClampNeg 1) (some (G.2.2.2 + 154))) (Int32.toNatClampNeg 2) (some (G.2.2.2 + 157))) (Int32.toNatClampNeg 3) (some (G.2.2.2 + 160))))))))) 163 (.inr (2, [.null, .null, .int 0, .int 0, .int 0, .int 0])))) 54 (.inl (G.2.2.1 5, 8, .inr (.inr (.inr (.inr (va_up (va_up (va_up (va_up (va_up (fun _ => none) (Int32.toNatClampNeg 0) (some (G.2.2.2 + 151))) (Int32.toNatClampNeg 1) (some (G.2.2.2 + 154))) (Int32.toNatClampNeg 2) (some (G.2.2.2 + 157))) (Int32.toNatClampNeg 3) (some (G.2.2.2 + 160))) (Int32.toNatClampNeg 4) (some (G.2.2.2 + 163))))))))) 166 (.inr (2, [.null, .null, .int 0, .int 0, .int 0, .int 0])))) 54 (.inl (G.2.2.1 5, 8, .inr (.inr (.inr (.inr (va_up (va_up (va_up (va_up (va_up (va_up (fun _ => none) (Int32.toNatClampNeg 0) (some (G.2.2.2 + 151))) (Int32.toNatClampNeg 1) (some (G.2.2.2 + 154))) (Int32.toNatClampNeg 2) (some (G.2.2.2 + 157))) (Int32.toNatClampNeg 3) (some (G.2.2.2 + 160))) (Int32.toNatClampNeg 4) (some (G.2.2.2 + 163))) (Int32.toNatClampNeg 5) (some (G.2.2.2 + 166))))))))) 169 (.inr (2, [.null, .null, .int 0, .int 0, .int 0, .int 0])))) 54 (.inl (G.2.2.1 5, 8, .inr (.inr (.inr (.inr (va_up (va_up (va_up (va_up (va_up (va_up (va_up (fun _ => none) (Int32.toNatClampNeg 0) (some (G.2.2.2 + 151))) (Int32.toNatClampNeg 1) (some (G.2.2.2 + 154))) (Int32.toNatClampNeg 2) (some (G.2.2.2 + 157))) (Int32.toNatClampNeg 3) (some (G.2.2.2 + 160))) (Int32.toNatClampNeg 4) (some (G.2.2.2 + 163))) (Int32.toNatClampNeg 5) (some (G.2.2.2 + 166))) (Int32.toNatClampNeg 6) (some (G.2.2.2 + 169))))))))) 172 (.inr (2, [.null, .null, .int 0, .int 0, .int 0, .int 0])))) 54 (.inl (G.2.2.1 5, 8, .inr (.inr (.inr (.inr (va_up (va_up (va_up (va_up (va_up (va_up (va_up (va_up (fun _ => none) (Int32.toNatClampNeg 0) (some (G.2.2.2 + 151))) (Int32.toNatClampNeg 1) (some (G.2.2.2 + 154))) (Int32.toNatClampNeg 2) (some (G.2.2.2 + 157))) (Int32.toNatClampNeg 3) (some (G.2.2.2 + 160))) (Int32.toNatClampNeg 4) (some (G.2.2.2 + 163))) (Int32.toNatClampNeg 5) (some (G.2.2.2 + 166))) (Int32.toNatClampNeg 6) (some (G.2.2.2 + 169))) (Int32.toNatClampNeg 7) (some (G.2.2.2 + 172)))))))))
set_option maxRecDepth 100000 in
set_option maxHeartbeats 8000000 in
theorem kc_X10_init (l : Launch) (G : qG) (V : qV) (hv : V 0 = .inr (10, [.null, .null, .null, .null, .null, .null, .null, .null, .null, .null, .null, .null, .null, .null, .int 0, .int 0, .int 0, .long 0, .long 0])) : qBC l G m_X10_init [.ref (G.2.2.2 + 0)] 1 V (175, (bV_X10_init G V), 174, 5529) := by
  refine b_entry pi_X10_init (Nat.le_of_ble_eq_true rfl) ?_
  show qBW l G m_X10_init _ 0 [(0, .ref (G.2.2.2 + 0))] [] 1 V 0 0
  refine bw_aload_n (i := 0) dX10_init_0 1 rfl rfl 0 rfl ?_
  refine bw_objInit dX10_init_1 4 rfl wc_0 wc_1 wc_2 (Nat.le_of_ble_eq_true rfl) (Nat.le_of_ble_eq_true rfl) ?_
  refine bw_aload_n (i := 0) dX10_init_4 5 rfl rfl 0 rfl ?_
  refine bw_new (ci := 7) (T := TX7) (N := 2) (fs := [.null, .null]) dX10_init_5 8 rfl in_X7 tyX7_ok wc_3 wc_4 wc_5 rfl df_X7 (Nat.le_of_ble_eq_true rfl) (Nat.le_of_ble_eq_true rfl) (2) 1 2 rfl rfl rfl ?_
  refine bw_dup dX10_init_8 9 rfl rfl ?_
  refine bw_bipush (x := 6) dX10_init_9 11 rfl rfl ?_
  refine bw_bipush (x := 48) dX10_init_11 13 rfl rfl ?_
  refine bw_callI (M2 := m_X7_init_6_48_1) (mc := 8) (ms := 300) dX10_init_13 16 rfl (kc_X7_init_6_48_1 l G _ (rfl)) wc_13 wi_X7_init_6_48_1 pi_X7_init_6_48_1 rfl ⟨by decide, by decide⟩ ⟨Nat.le_of_ble_eq_true rfl, Nat.le_of_ble_eq_true rfl⟩ rfl (Nat.le_of_ble_eq_true rfl) rfl 9 302 rfl rfl ?_
  refine bw_putF (ci := 10) (fs := [.null, .null, .null, .null, .null, .null, .null, .null, .null, .null, .null, .null, .null, .null, .int 0, .int 0, .int 0, .long 0, .long 0]) (T := TX10) (f := 0) (N := 19) dX10_init_16 19 rfl wc_14 in_X10 tyX10_ok nmX10 (by decide) (hv) rfl (by decide) (Nat.le_of_ble_eq_true rfl) rfl rfl rfl rfl rfl [.ref (G.2.2.2 + 1), .null, .null, .null, .null, .null, .null, .null, .null, .null, .null, .null, .null, .null, .int 0, .int 0, .int 0, .long 0, .long 0] rfl ?_
  refine bw_aload_n (i := 0) dX10_init_19 20 rfl rfl 0 rfl ?_
  refine bw_new (ci := 7) (T := TX7) (N := 2) (fs := [.null, .null]) dX10_init_20 23 rfl in_X7 tyX7_ok wc_3 wc_4 wc_5 rfl df_X7 (Nat.le_of_ble_eq_true rfl) (Nat.le_of_ble_eq_true rfl) (11) 10 304 rfl rfl rfl ?_
  refine bw_dup dX10_init_23 24 rfl rfl ?_
  refine bw_bipush (x := 6) dX10_init_24 26 rfl rfl ?_
  refine bw_bipush (x := 40) dX10_init_26 28 rfl rfl ?_
  refine bw_callI (M2 := m_X7_init_6_40_10) (mc := 8) (ms := 252) dX10_init_28 31 rfl (kc_X7_init_6_40_10 l G _ (rfl)) wc_13 wi_X7_init_6_40_10 pi_X7_init_6_40_10 rfl ⟨by decide, by decide⟩ ⟨Nat.le_of_ble_eq_true rfl, Nat.le_of_ble_eq_true rfl⟩ rfl (Nat.le_of_ble_eq_true rfl) rfl 18 556 rfl rfl ?_
  refine bw_putF (ci := 10) (fs := [.ref (G.2.2.2 + 1), .null, .null, .null, .null, .null, .null, .null, .null, .null, .null, .null, .null, .null, .int 0, .int 0, .int 0, .long 0, .long 0]) (T := TX10) (f := 1) (N := 19) dX10_init_31 34 rfl wc_15 in_X10 tyX10_ok nmX10 (by decide) (rfl) rfl (by decide) (Nat.le_of_ble_eq_true rfl) rfl rfl rfl rfl rfl [.ref (G.2.2.2 + 1), .ref (G.2.2.2 + 10), .null, .null, .null, .null, .null, .null, .null, .null, .null, .null, .null, .null, .int 0, .int 0, .int 0, .long 0, .long 0] rfl ?_
  refine bw_aload_n (i := 0) dX10_init_34 35 rfl rfl 0 rfl ?_
  refine bw_new (ci := 7) (T := TX7) (N := 2) (fs := [.null, .null]) dX10_init_35 38 rfl in_X7 tyX7_ok wc_3 wc_4 wc_5 rfl df_X7 (Nat.le_of_ble_eq_true rfl) (Nat.le_of_ble_eq_true rfl) (20) 19 558 rfl rfl rfl ?_
  refine bw_dup dX10_init_38 39 rfl rfl ?_
  refine bw_bipush (x := 8) dX10_init_39 41 rfl rfl ?_
  refine bw_bipush (x := 40) dX10_init_41 43 rfl rfl ?_
  refine bw_callI (M2 := m_X7_init_8_40_19) (mc := 10) (ms := 336) dX10_init_43 46 rfl (kc_X7_init_8_40_19 l G _ (rfl)) wc_13 wi_X7_init_8_40_19 pi_X7_init_8_40_19 rfl ⟨by decide, by decide⟩ ⟨Nat.le_of_ble_eq_true rfl, Nat.le_of_ble_eq_true rfl⟩ rfl (Nat.le_of_ble_eq_true rfl) rfl 29 894 rfl rfl ?_
  refine bw_putF (ci := 10) (fs := [.ref (G.2.2.2 + 1), .ref (G.2.2.2 + 10), .null, .null, .null, .null, .null, .null, .null, .null, .null, .null, .null, .null, .int 0, .int 0, .int 0, .long 0, .long 0]) (T := TX10) (f := 2) (N := 19) dX10_init_46 49 rfl wc_16 in_X10 tyX10_ok nmX10 (by decide) (rfl) rfl (by decide) (Nat.le_of_ble_eq_true rfl) rfl rfl rfl rfl rfl [.ref (G.2.2.2 + 1), .ref (G.2.2.2 + 10), .ref (G.2.2.2 + 19), .null, .null, .null, .null, .null, .null, .null, .null, .null, .null, .null, .int 0, .int 0, .int 0, .long 0, .long 0] rfl ?_
  refine bw_aload_n (i := 0) dX10_init_49 50 rfl rfl 0 rfl ?_
  refine bw_bipush (x := 8) dX10_init_50 52 rfl rfl ?_
  refine bw_newa (t := 0) (N' := 8) (a0 := (8, .inl (fun _ => 0))) dX10_init_52 54 rfl wc_8 rfl rfl rfl (fun _ _ => rfl) (by decide) rfl (by decide) (Nat.le_of_ble_eq_true rfl) (Nat.le_of_ble_eq_true rfl) (31) 30 902 rfl rfl rfl ?_
  refine bw_putF (ci := 10) (fs := [.ref (G.2.2.2 + 1), .ref (G.2.2.2 + 10), .ref (G.2.2.2 + 19), .null, .null, .null, .null, .null, .null, .null, .null, .null, .null, .null, .int 0, .int 0, .int 0, .long 0, .long 0]) (T := TX10) (f := 3) (N := 19) dX10_init_54 57 rfl wc_17 in_X10 tyX10_ok nmX10 (by decide) (rfl) rfl (by decide) (Nat.le_of_ble_eq_true rfl) rfl rfl rfl rfl rfl [.ref (G.2.2.2 + 1), .ref (G.2.2.2 + 10), .ref (G.2.2.2 + 19), .ref (G.2.2.2 + 30), .null, .null, .null, .null, .null, .null, .null, .null, .null, .null, .int 0, .int 0, .int 0, .long 0, .long 0] rfl ?_
  refine bw_aload_n (i := 0) dX10_init_57 58 rfl rfl 0 rfl ?_
  refine bw_bipush (x := 6) dX10_init_58 60 rfl rfl ?_
  refine bw_newq (t := 3) (N' := 6) dX10_init_60 63 rfl wc_18 (by decide) rfl (by decide) rfl (by decide) (Nat.le_of_ble_eq_true rfl) (Nat.le_of_ble_eq_true rfl) (32) 31 908 rfl rfl rfl ?_
  refine bw_putF (ci := 10) (fs := [.ref (G.2.2.2 + 1), .ref (G.2.2.2 + 10), .ref (G.2.2.2 + 19), .ref (G.2.2.2 + 30), .null, .null, .null, .null, .null, .null, .null, .null, .null, .null, .int 0, .int 0, .int 0, .long 0, .long 0]) (T := TX10) (f := 4) (N := 19) dX10_init_63 66 rfl wc_19 in_X10 tyX10_ok nmX10 (by decide) (rfl) rfl (by decide) (Nat.le_of_ble_eq_true rfl) rfl rfl rfl rfl rfl [.ref (G.2.2.2 + 1), .ref (G.2.2.2 + 10), .ref (G.2.2.2 + 19), .ref (G.2.2.2 + 30), .ref (G.2.2.2 + 31), .null, .null, .null, .null, .null, .null, .null, .null, .null, .int 0, .int 0, .int 0, .long 0, .long 0] rfl ?_
  refine bw_aload_n (i := 0) dX10_init_66 67 rfl rfl 0 rfl ?_
  refine bw_new (ci := 0) (T := TX0) (N := 19) (fs := [.null, .null, .null, .null, .null, .null, .null, .null, .null, .int 0, .int 0, .int 0, .int 0, .int 0, .int 0, .int 0, .int 0, .int 0, .int 0]) dX10_init_67 70 rfl in_X0 tyX0_ok wc_18 wc_20 wc_21 rfl df_X0 (Nat.le_of_ble_eq_true rfl) (Nat.le_of_ble_eq_true rfl) (33) 32 927 rfl rfl rfl ?_
  refine bw_dup dX10_init_70 71 rfl rfl ?_
  refine bw_callIN (M2 := m_X0_init) (mc := 13) (ms := 480) dX10_init_71 74 rfl (kc_X0_init l G 32 33 _ (by decide) (rfl)) bn_0 wi_X0_init pi_X0_init rfl ⟨by decide, by decide⟩ ⟨Nat.le_of_ble_eq_true rfl, Nat.le_of_ble_eq_true rfl⟩ rfl (Nat.le_of_ble_eq_true rfl) rfl 45 1407 rfl rfl ?_
  refine bw_putF (ci := 10) (fs := [.ref (G.2.2.2 + 1), .ref (G.2.2.2 + 10), .ref (G.2.2.2 + 19), .ref (G.2.2.2 + 30), .ref (G.2.2.2 + 31), .null, .null, .null, .null, .null, .null, .null, .null, .null, .int 0, .int 0, .int 0, .long 0, .long 0]) (T := TX10) (f := 5) (N := 19) dX10_init_74 77 rfl wc_63 in_X10 tyX10_ok nmX10 (by decide) (rfl) rfl (by decide) (Nat.le_of_ble_eq_true rfl) rfl rfl rfl rfl rfl [.ref (G.2.2.2 + 1), .ref (G.2.2.2 + 10), .ref (G.2.2.2 + 19), .ref (G.2.2.2 + 30), .ref (G.2.2.2 + 31), .ref (G.2.2.2 + 32), .null, .null, .null, .null, .null, .null, .null, .null, .int 0, .int 0, .int 0, .long 0, .long 0] rfl ?_
  refine bw_aload_n (i := 0) dX10_init_77 78 rfl rfl 0 rfl ?_
  refine bw_new (ci := 8) (T := TX8) (N := 4) (fs := [.null, .null, .null, .null]) dX10_init_78 81 rfl in_X8 tyX8_ok wc_64 wc_65 wc_66 rfl df_X8 (Nat.le_of_ble_eq_true rfl) (Nat.le_of_ble_eq_true rfl) (47) 46 1411 rfl rfl rfl ?_
  refine bw_dup dX10_init_81 82 rfl rfl ?_
  refine bw_callIN (M2 := m_X8_init) (mc := 4) (ms := 240) dX10_init_82 85 rfl (kc_X8_init l G 46 47 _ (by decide) (rfl)) bn_4 wi_X8_init pi_X8_init rfl ⟨by decide, by decide⟩ ⟨Nat.le_of_ble_eq_true rfl, Nat.le_of_ble_eq_true rfl⟩ rfl (Nat.le_of_ble_eq_true rfl) rfl 50 1651 rfl rfl ?_
  refine bw_putF (ci := 10) (fs := [.ref (G.2.2.2 + 1), .ref (G.2.2.2 + 10), .ref (G.2.2.2 + 19), .ref (G.2.2.2 + 30), .ref (G.2.2.2 + 31), .ref (G.2.2.2 + 32), .null, .null, .null, .null, .null, .null, .null, .null, .int 0, .int 0, .int 0, .long 0, .long 0]) (T := TX10) (f := 6) (N := 19) dX10_init_85 88 rfl wc_74 in_X10 tyX10_ok nmX10 (by decide) (rfl) rfl (by decide) (Nat.le_of_ble_eq_true rfl) rfl rfl rfl rfl rfl [.ref (G.2.2.2 + 1), .ref (G.2.2.2 + 10), .ref (G.2.2.2 + 19), .ref (G.2.2.2 + 30), .ref (G.2.2.2 + 31), .ref (G.2.2.2 + 32), .ref (G.2.2.2 + 46), .null, .null, .null, .null, .null, .null, .null, .int 0, .int 0, .int 0, .long 0, .long 0] rfl ?_
  refine bw_aload_n (i := 0) dX10_init_88 89 rfl rfl 0 rfl ?_
  refine bw_new (ci := 6) (T := TX6) (N := 7) (fs := [.null, .int 0, .int 0, .int 0, .int 0, .int 0, .int 0]) dX10_init_89 92 rfl in_X6 tyX6_ok wc_75 wc_76 wc_77 rfl df_X6 (Nat.le_of_ble_eq_true rfl) (Nat.le_of_ble_eq_true rfl) (52) 51 1658 rfl rfl rfl ?_
  refine bw_dup dX10_init_92 93 rfl rfl ?_
  refine bw_callIN (M2 := m_X6_init) (mc := 1) (ms := 0) dX10_init_93 96 rfl (kc_X6_init l G 51 52 _ (by decide) (rfl)) bn_5 wi_X6_init pi_X6_init rfl ⟨by decide, by decide⟩ ⟨Nat.le_of_ble_eq_true rfl, Nat.le_of_ble_eq_true rfl⟩ rfl (Nat.le_of_ble_eq_true rfl) rfl 52 1658 rfl rfl ?_
  refine bw_putF (ci := 10) (fs := [.ref (G.2.2.2 + 1), .ref (G.2.2.2 + 10), .ref (G.2.2.2 + 19), .ref (G.2.2.2 + 30), .ref (G.2.2.2 + 31), .ref (G.2.2.2 + 32), .ref (G.2.2.2 + 46), .null, .null, .null, .null, .null, .null, .null, .int 0, .int 0, .int 0, .long 0, .long 0]) (T := TX10) (f := 7) (N := 19) dX10_init_96 99 rfl wc_83 in_X10 tyX10_ok nmX10 (by decide) (rfl) rfl (by decide) (Nat.le_of_ble_eq_true rfl) rfl rfl rfl rfl rfl [.ref (G.2.2.2 + 1), .ref (G.2.2.2 + 10), .ref (G.2.2.2 + 19), .ref (G.2.2.2 + 30), .ref (G.2.2.2 + 31), .ref (G.2.2.2 + 32), .ref (G.2.2.2 + 46), .ref (G.2.2.2 + 51), .null, .null, .null, .null, .null, .null, .int 0, .int 0, .int 0, .long 0, .long 0] rfl ?_
  refine bw_aload_n (i := 0) dX10_init_99 100 rfl rfl 0 rfl ?_
  refine bw_bipush (x := 8) dX10_init_100 102 rfl rfl ?_
  refine bw_newq (t := 4) (N' := 8) dX10_init_102 105 rfl wc_84 (by decide) rfl (by decide) rfl (by decide) (Nat.le_of_ble_eq_true rfl) (Nat.le_of_ble_eq_true rfl) (54) 53 1666 rfl rfl rfl ?_
  refine bw_putF (ci := 10) (fs := [.ref (G.2.2.2 + 1), .ref (G.2.2.2 + 10), .ref (G.2.2.2 + 19), .ref (G.2.2.2 + 30), .ref (G.2.2.2 + 31), .ref (G.2.2.2 + 32), .ref (G.2.2.2 + 46), .ref (G.2.2.2 + 51), .null, .null, .null, .null, .null, .null, .int 0, .int 0, .int 0, .long 0, .long 0]) (T := TX10) (f := 8) (N := 19) dX10_init_105 108 rfl wc_85 in_X10 tyX10_ok nmX10 (by decide) (rfl) rfl (by decide) (Nat.le_of_ble_eq_true rfl) rfl rfl rfl rfl rfl [.ref (G.2.2.2 + 1), .ref (G.2.2.2 + 10), .ref (G.2.2.2 + 19), .ref (G.2.2.2 + 30), .ref (G.2.2.2 + 31), .ref (G.2.2.2 + 32), .ref (G.2.2.2 + 46), .ref (G.2.2.2 + 51), .ref (G.2.2.2 + 53), .null, .null, .null, .null, .null, .int 0, .int 0, .int 0, .long 0, .long 0] rfl ?_
  refine bw_aload_n (i := 0) dX10_init_108 109 rfl rfl 0 rfl ?_
  refine bw_bipush (x := 8) dX10_init_109 111 rfl rfl ?_
  refine bw_newq (t := 5) (N' := 8) dX10_init_111 114 rfl wc_86 (by decide) rfl (by decide) rfl (by decide) (Nat.le_of_ble_eq_true rfl) (Nat.le_of_ble_eq_true rfl) (55) 54 1674 rfl rfl rfl ?_
  refine bw_putF (ci := 10) (fs := [.ref (G.2.2.2 + 1), .ref (G.2.2.2 + 10), .ref (G.2.2.2 + 19), .ref (G.2.2.2 + 30), .ref (G.2.2.2 + 31), .ref (G.2.2.2 + 32), .ref (G.2.2.2 + 46), .ref (G.2.2.2 + 51), .ref (G.2.2.2 + 53), .null, .null, .null, .null, .null, .int 0, .int 0, .int 0, .long 0, .long 0]) (T := TX10) (f := 9) (N := 19) dX10_init_114 117 rfl wc_87 in_X10 tyX10_ok nmX10 (by decide) (rfl) rfl (by decide) (Nat.le_of_ble_eq_true rfl) rfl rfl rfl rfl rfl [.ref (G.2.2.2 + 1), .ref (G.2.2.2 + 10), .ref (G.2.2.2 + 19), .ref (G.2.2.2 + 30), .ref (G.2.2.2 + 31), .ref (G.2.2.2 + 32), .ref (G.2.2.2 + 46), .ref (G.2.2.2 + 51), .ref (G.2.2.2 + 53), .ref (G.2.2.2 + 54), .null, .null, .null, .null, .int 0, .int 0, .int 0, .long 0, .long 0] rfl ?_
  refine bw_aload_n (i := 0) dX10_init_117 118 rfl rfl 0 rfl ?_
  refine bw_new (ci := 9) (T := TX9) (N := 3) (fs := [.long 0, .long 0, .int 0]) dX10_init_118 121 rfl in_X9 tyX9_ok wc_88 wc_89 wc_90 rfl df_X9 (Nat.le_of_ble_eq_true rfl) (Nat.le_of_ble_eq_true rfl) (56) 55 1677 rfl rfl rfl ?_
  refine bw_dup dX10_init_121 122 rfl rfl ?_
  refine bw_callIN (M2 := m_X9_init) (mc := 0) (ms := 0) dX10_init_122 125 rfl (kc_X9_init l G 55 56 _ (by decide) (rfl)) bn_6 wi_X9_init pi_X9_init rfl ⟨by decide, by decide⟩ ⟨Nat.le_of_ble_eq_true rfl, Nat.le_of_ble_eq_true rfl⟩ rfl (Nat.le_of_ble_eq_true rfl) rfl 55 1677 rfl rfl ?_
  refine bw_putF (ci := 10) (fs := [.ref (G.2.2.2 + 1), .ref (G.2.2.2 + 10), .ref (G.2.2.2 + 19), .ref (G.2.2.2 + 30), .ref (G.2.2.2 + 31), .ref (G.2.2.2 + 32), .ref (G.2.2.2 + 46), .ref (G.2.2.2 + 51), .ref (G.2.2.2 + 53), .ref (G.2.2.2 + 54), .null, .null, .null, .null, .int 0, .int 0, .int 0, .long 0, .long 0]) (T := TX10) (f := 10) (N := 19) dX10_init_125 128 rfl wc_94 in_X10 tyX10_ok nmX10 (by decide) (rfl) rfl (by decide) (Nat.le_of_ble_eq_true rfl) rfl rfl rfl rfl rfl [.ref (G.2.2.2 + 1), .ref (G.2.2.2 + 10), .ref (G.2.2.2 + 19), .ref (G.2.2.2 + 30), .ref (G.2.2.2 + 31), .ref (G.2.2.2 + 32), .ref (G.2.2.2 + 46), .ref (G.2.2.2 + 51), .ref (G.2.2.2 + 53), .ref (G.2.2.2 + 54), .ref (G.2.2.2 + 55), .null, .null, .null, .int 0, .int 0, .int 0, .long 0, .long 0] rfl ?_
  refine bw_aload_n (i := 0) dX10_init_128 129 rfl rfl 0 rfl ?_
  refine bw_new (ci := 9) (T := TX9) (N := 3) (fs := [.long 0, .long 0, .int 0]) dX10_init_129 132 rfl in_X9 tyX9_ok wc_88 wc_89 wc_90 rfl df_X9 (Nat.le_of_ble_eq_true rfl) (Nat.le_of_ble_eq_true rfl) (57) 56 1680 rfl rfl rfl ?_
  refine bw_dup dX10_init_132 133 rfl rfl ?_
  refine bw_callIN (M2 := m_X9_init) (mc := 0) (ms := 0) dX10_init_133 136 rfl (kc_X9_init l G 56 57 _ (by decide) (rfl)) bn_6 wi_X9_init pi_X9_init rfl ⟨by decide, by decide⟩ ⟨Nat.le_of_ble_eq_true rfl, Nat.le_of_ble_eq_true rfl⟩ rfl (Nat.le_of_ble_eq_true rfl) rfl 56 1680 rfl rfl ?_
  refine bw_putF (ci := 10) (fs := [.ref (G.2.2.2 + 1), .ref (G.2.2.2 + 10), .ref (G.2.2.2 + 19), .ref (G.2.2.2 + 30), .ref (G.2.2.2 + 31), .ref (G.2.2.2 + 32), .ref (G.2.2.2 + 46), .ref (G.2.2.2 + 51), .ref (G.2.2.2 + 53), .ref (G.2.2.2 + 54), .ref (G.2.2.2 + 55), .null, .null, .null, .int 0, .int 0, .int 0, .long 0, .long 0]) (T := TX10) (f := 11) (N := 19) dX10_init_136 139 rfl wc_95 in_X10 tyX10_ok nmX10 (by decide) (rfl) rfl (by decide) (Nat.le_of_ble_eq_true rfl) rfl rfl rfl rfl rfl [.ref (G.2.2.2 + 1), .ref (G.2.2.2 + 10), .ref (G.2.2.2 + 19), .ref (G.2.2.2 + 30), .ref (G.2.2.2 + 31), .ref (G.2.2.2 + 32), .ref (G.2.2.2 + 46), .ref (G.2.2.2 + 51), .ref (G.2.2.2 + 53), .ref (G.2.2.2 + 54), .ref (G.2.2.2 + 55), .ref (G.2.2.2 + 56), .null, .null, .int 0, .int 0, .int 0, .long 0, .long 0] rfl ?_
  refine bw_aload_n (i := 0) dX10_init_139 140 rfl rfl 0 rfl ?_
  refine bw_bipush (x := 9) dX10_init_140 142 rfl rfl ?_
  refine bw_newa (t := 0) (N' := 9) (a0 := (9, .inl (fun _ => 0))) dX10_init_142 144 rfl wc_8 rfl rfl rfl (fun _ _ => rfl) (by decide) rfl (by decide) (Nat.le_of_ble_eq_true rfl) (Nat.le_of_ble_eq_true rfl) (58) 57 1689 rfl rfl rfl ?_
  refine bw_putF (ci := 10) (fs := [.ref (G.2.2.2 + 1), .ref (G.2.2.2 + 10), .ref (G.2.2.2 + 19), .ref (G.2.2.2 + 30), .ref (G.2.2.2 + 31), .ref (G.2.2.2 + 32), .ref (G.2.2.2 + 46), .ref (G.2.2.2 + 51), .ref (G.2.2.2 + 53), .ref (G.2.2.2 + 54), .ref (G.2.2.2 + 55), .ref (G.2.2.2 + 56), .null, .null, .int 0, .int 0, .int 0, .long 0, .long 0]) (T := TX10) (f := 12) (N := 19) dX10_init_144 147 rfl wc_96 in_X10 tyX10_ok nmX10 (by decide) (rfl) rfl (by decide) (Nat.le_of_ble_eq_true rfl) rfl rfl rfl rfl rfl [.ref (G.2.2.2 + 1), .ref (G.2.2.2 + 10), .ref (G.2.2.2 + 19), .ref (G.2.2.2 + 30), .ref (G.2.2.2 + 31), .ref (G.2.2.2 + 32), .ref (G.2.2.2 + 46), .ref (G.2.2.2 + 51), .ref (G.2.2.2 + 53), .ref (G.2.2.2 + 54), .ref (G.2.2.2 + 55), .ref (G.2.2.2 + 56), .ref (G.2.2.2 + 57), .null, .int 0, .int 0, .int 0, .long 0, .long 0] rfl ?_
  refine bw_aload_n (i := 0) dX10_init_147 148 rfl rfl 0 rfl ?_
  refine bw_bipush (x := 6) dX10_init_148 150 rfl rfl ?_
  refine bw_newa (t := 0) (N' := 6) (a0 := (6, .inl (fun _ => 0))) dX10_init_150 152 rfl wc_8 rfl rfl rfl (fun _ _ => rfl) (by decide) rfl (by decide) (Nat.le_of_ble_eq_true rfl) (Nat.le_of_ble_eq_true rfl) (59) 58 1695 rfl rfl rfl ?_
  refine bw_putF (ci := 10) (fs := [.ref (G.2.2.2 + 1), .ref (G.2.2.2 + 10), .ref (G.2.2.2 + 19), .ref (G.2.2.2 + 30), .ref (G.2.2.2 + 31), .ref (G.2.2.2 + 32), .ref (G.2.2.2 + 46), .ref (G.2.2.2 + 51), .ref (G.2.2.2 + 53), .ref (G.2.2.2 + 54), .ref (G.2.2.2 + 55), .ref (G.2.2.2 + 56), .ref (G.2.2.2 + 57), .null, .int 0, .int 0, .int 0, .long 0, .long 0]) (T := TX10) (f := 13) (N := 19) dX10_init_152 155 rfl wc_97 in_X10 tyX10_ok nmX10 (by decide) (rfl) rfl (by decide) (Nat.le_of_ble_eq_true rfl) rfl rfl rfl rfl rfl [.ref (G.2.2.2 + 1), .ref (G.2.2.2 + 10), .ref (G.2.2.2 + 19), .ref (G.2.2.2 + 30), .ref (G.2.2.2 + 31), .ref (G.2.2.2 + 32), .ref (G.2.2.2 + 46), .ref (G.2.2.2 + 51), .ref (G.2.2.2 + 53), .ref (G.2.2.2 + 54), .ref (G.2.2.2 + 55), .ref (G.2.2.2 + 56), .ref (G.2.2.2 + 57), .ref (G.2.2.2 + 58), .int 0, .int 0, .int 0, .long 0, .long 0] rfl ?_
  refine bw_aload_n (i := 0) dX10_init_155 156 rfl rfl 0 rfl ?_
  refine bw_lconst (x := 1) dX10_init_156 157 rfl rfl ?_
  refine bw_put (T := TX10) (f := 18) (N := 19) dX10_init_157 160 rfl wc_98 in_X10 tyX10_ok nmX10 (by decide) (rfl) rfl (by decide) (Nat.le_of_ble_eq_true rfl) rfl rfl rfl rfl [.ref (G.2.2.2 + 1), .ref (G.2.2.2 + 10), .ref (G.2.2.2 + 19), .ref (G.2.2.2 + 30), .ref (G.2.2.2 + 31), .ref (G.2.2.2 + 32), .ref (G.2.2.2 + 46), .ref (G.2.2.2 + 51), .ref (G.2.2.2 + 53), .ref (G.2.2.2 + 54), .ref (G.2.2.2 + 55), .ref (G.2.2.2 + 56), .ref (G.2.2.2 + 57), .ref (G.2.2.2 + 58), .int 0, .int 0, .int 0, .long 0, .long 1] rfl ?_
  refine bw_iconst (x := 0) dX10_init_160 161 rfl rfl ?_
  refine bw_istore_n dX10_init_161 162 rfl rfl [(1, .int 0), (0, .ref (G.2.2.2 + 0))] (by decide) rfl ?_
  refine bw_iload_n (i := 1) dX10_init_162 163 rfl rfl 0 rfl ?_
  refine bw_bipush (x := 6) dX10_init_163 165 rfl rfl ?_
  refine bw_icmp_nge (t := 187) dX10_init_165 168 rfl rfl (by decide) ?_
  refine bw_aload_n (i := 0) dX10_init_168 169 rfl rfl 1 rfl ?_
  refine bw_get (T := TX10) (f := 4) (N := 19) (x := .ref (G.2.2.2 + 31)) dX10_init_169 172 rfl wc_19 in_X10 (by decide) (rfl) rfl (by decide) rfl ?_
  refine bw_iload_n (i := 1) dX10_init_172 173 rfl rfl 0 rfl ?_
  refine bw_new (ci := 0) (T := TX0) (N := 19) (fs := [.null, .null, .null, .null, .null, .null, .null, .null, .null, .int 0, .int 0, .int 0, .int 0, .int 0, .int 0, .int 0, .int 0, .int 0, .int 0]) dX10_init_173 176 rfl in_X0 tyX0_ok wc_18 wc_20 wc_21 rfl df_X0 (Nat.le_of_ble_eq_true rfl) (Nat.le_of_ble_eq_true rfl) (60) 59 1714 rfl rfl rfl ?_
  refine bw_dup dX10_init_176 177 rfl rfl ?_
  refine bw_callIN (M2 := m_X0_init) (mc := 13) (ms := 480) dX10_init_177 180 rfl (kc_X0_init l G 59 60 _ (by decide) (rfl)) bn_0 wi_X0_init pi_X0_init rfl ⟨by decide, by decide⟩ ⟨Nat.le_of_ble_eq_true rfl, Nat.le_of_ble_eq_true rfl⟩ rfl (Nat.le_of_ble_eq_true rfl) rfl 72 2194 rfl rfl ?_
  refine bw_aast (t := 3) (ci := 0) (f := (fun _ => none)) (N := 6) dX10_init_180 181 rfl (by decide) (rfl) rfl (by decide) (rfl) rfl (by decide) ?_
  refine bw_iinc (i := 1) dX10_init_181 184 rfl 0 rfl 1 rfl [(1, .int 1), (0, .ref (G.2.2.2 + 0))] (by decide) rfl ?_
  refine bw_goto dX10_init_184 162 rfl ?_
  refine bw_iload_n (i := 1) dX10_init_162 163 rfl rfl 0 rfl ?_
  refine bw_bipush (x := 6) dX10_init_163 165 rfl rfl ?_
  refine bw_icmp_nge (t := 187) dX10_init_165 168 rfl rfl (by decide) ?_
  refine bw_aload_n (i := 0) dX10_init_168 169 rfl rfl 1 rfl ?_
  refine bw_get (T := TX10) (f := 4) (N := 19) (x := .ref (G.2.2.2 + 31)) dX10_init_169 172 rfl wc_19 in_X10 (by decide) (rfl) rfl (by decide) rfl ?_
  refine bw_iload_n (i := 1) dX10_init_172 173 rfl rfl 0 rfl ?_
  refine bw_new (ci := 0) (T := TX0) (N := 19) (fs := [.null, .null, .null, .null, .null, .null, .null, .null, .null, .int 0, .int 0, .int 0, .int 0, .int 0, .int 0, .int 0, .int 0, .int 0, .int 0]) dX10_init_173 176 rfl in_X0 tyX0_ok wc_18 wc_20 wc_21 rfl df_X0 (Nat.le_of_ble_eq_true rfl) (Nat.le_of_ble_eq_true rfl) (74) 73 2213 rfl rfl rfl ?_
  refine bw_dup dX10_init_176 177 rfl rfl ?_
  refine bw_callIN (M2 := m_X0_init) (mc := 13) (ms := 480) dX10_init_177 180 rfl (kc_X0_init l G 73 74 _ (by decide) (rfl)) bn_0 wi_X0_init pi_X0_init rfl ⟨by decide, by decide⟩ ⟨Nat.le_of_ble_eq_true rfl, Nat.le_of_ble_eq_true rfl⟩ rfl (Nat.le_of_ble_eq_true rfl) rfl 86 2693 rfl rfl ?_
  refine bw_aast (t := 3) (ci := 0) (f := (va_up (fun _ => none) (Int32.toNatClampNeg 0) (some (G.2.2.2 + 59)))) (N := 6) dX10_init_180 181 rfl (by decide) (rfl) rfl (by decide) (rfl) rfl (by decide) ?_
  refine bw_iinc (i := 1) dX10_init_181 184 rfl 0 rfl 2 rfl [(1, .int 2), (0, .ref (G.2.2.2 + 0))] (by decide) rfl ?_
  refine bw_goto dX10_init_184 162 rfl ?_
  refine bw_iload_n (i := 1) dX10_init_162 163 rfl rfl 0 rfl ?_
  refine bw_bipush (x := 6) dX10_init_163 165 rfl rfl ?_
  refine bw_icmp_nge (t := 187) dX10_init_165 168 rfl rfl (by decide) ?_
  refine bw_aload_n (i := 0) dX10_init_168 169 rfl rfl 1 rfl ?_
  refine bw_get (T := TX10) (f := 4) (N := 19) (x := .ref (G.2.2.2 + 31)) dX10_init_169 172 rfl wc_19 in_X10 (by decide) (rfl) rfl (by decide) rfl ?_
  refine bw_iload_n (i := 1) dX10_init_172 173 rfl rfl 0 rfl ?_
  refine bw_new (ci := 0) (T := TX0) (N := 19) (fs := [.null, .null, .null, .null, .null, .null, .null, .null, .null, .int 0, .int 0, .int 0, .int 0, .int 0, .int 0, .int 0, .int 0, .int 0, .int 0]) dX10_init_173 176 rfl in_X0 tyX0_ok wc_18 wc_20 wc_21 rfl df_X0 (Nat.le_of_ble_eq_true rfl) (Nat.le_of_ble_eq_true rfl) (88) 87 2712 rfl rfl rfl ?_
  refine bw_dup dX10_init_176 177 rfl rfl ?_
  refine bw_callIN (M2 := m_X0_init) (mc := 13) (ms := 480) dX10_init_177 180 rfl (kc_X0_init l G 87 88 _ (by decide) (rfl)) bn_0 wi_X0_init pi_X0_init rfl ⟨by decide, by decide⟩ ⟨Nat.le_of_ble_eq_true rfl, Nat.le_of_ble_eq_true rfl⟩ rfl (Nat.le_of_ble_eq_true rfl) rfl 100 3192 rfl rfl ?_
  refine bw_aast (t := 3) (ci := 0) (f := (va_up (va_up (fun _ => none) (Int32.toNatClampNeg 0) (some (G.2.2.2 + 59))) (Int32.toNatClampNeg 1) (some (G.2.2.2 + 73)))) (N := 6) dX10_init_180 181 rfl (by decide) (rfl) rfl (by decide) (rfl) rfl (by decide) ?_
  refine bw_iinc (i := 1) dX10_init_181 184 rfl 0 rfl 3 rfl [(1, .int 3), (0, .ref (G.2.2.2 + 0))] (by decide) rfl ?_
  refine bw_goto dX10_init_184 162 rfl ?_
  refine bw_iload_n (i := 1) dX10_init_162 163 rfl rfl 0 rfl ?_
  refine bw_bipush (x := 6) dX10_init_163 165 rfl rfl ?_
  refine bw_icmp_nge (t := 187) dX10_init_165 168 rfl rfl (by decide) ?_
  refine bw_aload_n (i := 0) dX10_init_168 169 rfl rfl 1 rfl ?_
  refine bw_get (T := TX10) (f := 4) (N := 19) (x := .ref (G.2.2.2 + 31)) dX10_init_169 172 rfl wc_19 in_X10 (by decide) (rfl) rfl (by decide) rfl ?_
  refine bw_iload_n (i := 1) dX10_init_172 173 rfl rfl 0 rfl ?_
  refine bw_new (ci := 0) (T := TX0) (N := 19) (fs := [.null, .null, .null, .null, .null, .null, .null, .null, .null, .int 0, .int 0, .int 0, .int 0, .int 0, .int 0, .int 0, .int 0, .int 0, .int 0]) dX10_init_173 176 rfl in_X0 tyX0_ok wc_18 wc_20 wc_21 rfl df_X0 (Nat.le_of_ble_eq_true rfl) (Nat.le_of_ble_eq_true rfl) (102) 101 3211 rfl rfl rfl ?_
  refine bw_dup dX10_init_176 177 rfl rfl ?_
  refine bw_callIN (M2 := m_X0_init) (mc := 13) (ms := 480) dX10_init_177 180 rfl (kc_X0_init l G 101 102 _ (by decide) (rfl)) bn_0 wi_X0_init pi_X0_init rfl ⟨by decide, by decide⟩ ⟨Nat.le_of_ble_eq_true rfl, Nat.le_of_ble_eq_true rfl⟩ rfl (Nat.le_of_ble_eq_true rfl) rfl 114 3691 rfl rfl ?_
  refine bw_aast (t := 3) (ci := 0) (f := (va_up (va_up (va_up (fun _ => none) (Int32.toNatClampNeg 0) (some (G.2.2.2 + 59))) (Int32.toNatClampNeg 1) (some (G.2.2.2 + 73))) (Int32.toNatClampNeg 2) (some (G.2.2.2 + 87)))) (N := 6) dX10_init_180 181 rfl (by decide) (rfl) rfl (by decide) (rfl) rfl (by decide) ?_
  refine bw_iinc (i := 1) dX10_init_181 184 rfl 0 rfl 4 rfl [(1, .int 4), (0, .ref (G.2.2.2 + 0))] (by decide) rfl ?_
  refine bw_goto dX10_init_184 162 rfl ?_
  refine bw_iload_n (i := 1) dX10_init_162 163 rfl rfl 0 rfl ?_
  refine bw_bipush (x := 6) dX10_init_163 165 rfl rfl ?_
  refine bw_icmp_nge (t := 187) dX10_init_165 168 rfl rfl (by decide) ?_
  refine bw_aload_n (i := 0) dX10_init_168 169 rfl rfl 1 rfl ?_
  refine bw_get (T := TX10) (f := 4) (N := 19) (x := .ref (G.2.2.2 + 31)) dX10_init_169 172 rfl wc_19 in_X10 (by decide) (rfl) rfl (by decide) rfl ?_
  refine bw_iload_n (i := 1) dX10_init_172 173 rfl rfl 0 rfl ?_
  refine bw_new (ci := 0) (T := TX0) (N := 19) (fs := [.null, .null, .null, .null, .null, .null, .null, .null, .null, .int 0, .int 0, .int 0, .int 0, .int 0, .int 0, .int 0, .int 0, .int 0, .int 0]) dX10_init_173 176 rfl in_X0 tyX0_ok wc_18 wc_20 wc_21 rfl df_X0 (Nat.le_of_ble_eq_true rfl) (Nat.le_of_ble_eq_true rfl) (116) 115 3710 rfl rfl rfl ?_
  refine bw_dup dX10_init_176 177 rfl rfl ?_
  refine bw_callIN (M2 := m_X0_init) (mc := 13) (ms := 480) dX10_init_177 180 rfl (kc_X0_init l G 115 116 _ (by decide) (rfl)) bn_0 wi_X0_init pi_X0_init rfl ⟨by decide, by decide⟩ ⟨Nat.le_of_ble_eq_true rfl, Nat.le_of_ble_eq_true rfl⟩ rfl (Nat.le_of_ble_eq_true rfl) rfl 128 4190 rfl rfl ?_
  refine bw_aast (t := 3) (ci := 0) (f := (va_up (va_up (va_up (va_up (fun _ => none) (Int32.toNatClampNeg 0) (some (G.2.2.2 + 59))) (Int32.toNatClampNeg 1) (some (G.2.2.2 + 73))) (Int32.toNatClampNeg 2) (some (G.2.2.2 + 87))) (Int32.toNatClampNeg 3) (some (G.2.2.2 + 101)))) (N := 6) dX10_init_180 181 rfl (by decide) (rfl) rfl (by decide) (rfl) rfl (by decide) ?_
  refine bw_iinc (i := 1) dX10_init_181 184 rfl 0 rfl 5 rfl [(1, .int 5), (0, .ref (G.2.2.2 + 0))] (by decide) rfl ?_
  refine bw_goto dX10_init_184 162 rfl ?_
  refine bw_iload_n (i := 1) dX10_init_162 163 rfl rfl 0 rfl ?_
  refine bw_bipush (x := 6) dX10_init_163 165 rfl rfl ?_
  refine bw_icmp_nge (t := 187) dX10_init_165 168 rfl rfl (by decide) ?_
  refine bw_aload_n (i := 0) dX10_init_168 169 rfl rfl 1 rfl ?_
  refine bw_get (T := TX10) (f := 4) (N := 19) (x := .ref (G.2.2.2 + 31)) dX10_init_169 172 rfl wc_19 in_X10 (by decide) (rfl) rfl (by decide) rfl ?_
  refine bw_iload_n (i := 1) dX10_init_172 173 rfl rfl 0 rfl ?_
  refine bw_new (ci := 0) (T := TX0) (N := 19) (fs := [.null, .null, .null, .null, .null, .null, .null, .null, .null, .int 0, .int 0, .int 0, .int 0, .int 0, .int 0, .int 0, .int 0, .int 0, .int 0]) dX10_init_173 176 rfl in_X0 tyX0_ok wc_18 wc_20 wc_21 rfl df_X0 (Nat.le_of_ble_eq_true rfl) (Nat.le_of_ble_eq_true rfl) (130) 129 4209 rfl rfl rfl ?_
  refine bw_dup dX10_init_176 177 rfl rfl ?_
  refine bw_callIN (M2 := m_X0_init) (mc := 13) (ms := 480) dX10_init_177 180 rfl (kc_X0_init l G 129 130 _ (by decide) (rfl)) bn_0 wi_X0_init pi_X0_init rfl ⟨by decide, by decide⟩ ⟨Nat.le_of_ble_eq_true rfl, Nat.le_of_ble_eq_true rfl⟩ rfl (Nat.le_of_ble_eq_true rfl) rfl 142 4689 rfl rfl ?_
  refine bw_aast (t := 3) (ci := 0) (f := (va_up (va_up (va_up (va_up (va_up (fun _ => none) (Int32.toNatClampNeg 0) (some (G.2.2.2 + 59))) (Int32.toNatClampNeg 1) (some (G.2.2.2 + 73))) (Int32.toNatClampNeg 2) (some (G.2.2.2 + 87))) (Int32.toNatClampNeg 3) (some (G.2.2.2 + 101))) (Int32.toNatClampNeg 4) (some (G.2.2.2 + 115)))) (N := 6) dX10_init_180 181 rfl (by decide) (rfl) rfl (by decide) (rfl) rfl (by decide) ?_
  refine bw_iinc (i := 1) dX10_init_181 184 rfl 0 rfl 6 rfl [(1, .int 6), (0, .ref (G.2.2.2 + 0))] (by decide) rfl ?_
  refine bw_goto dX10_init_184 162 rfl ?_
  refine bw_iload_n (i := 1) dX10_init_162 163 rfl rfl 0 rfl ?_
  refine bw_bipush (x := 6) dX10_init_163 165 rfl rfl ?_
  refine bw_icmp_ge dX10_init_165 187 rfl (by decide) ?_
  refine bw_iconst (x := 0) dX10_init_187 188 rfl rfl ?_
  refine bw_istore_n dX10_init_188 189 rfl rfl [(1, .int 0), (0, .ref (G.2.2.2 + 0))] (by decide) rfl ?_
  refine bw_iload_n (i := 1) dX10_init_189 190 rfl rfl 0 rfl ?_
  refine bw_bipush (x := 8) dX10_init_190 192 rfl rfl ?_
  refine bw_icmp_nge (t := 214) dX10_init_192 195 rfl rfl (by decide) ?_
  refine bw_aload_n (i := 0) dX10_init_195 196 rfl rfl 1 rfl ?_
  refine bw_get (T := TX10) (f := 8) (N := 19) (x := .ref (G.2.2.2 + 53)) dX10_init_196 199 rfl wc_85 in_X10 (by decide) (rfl) rfl (by decide) rfl ?_
  refine bw_iload_n (i := 1) dX10_init_199 200 rfl rfl 0 rfl ?_
  refine bw_new (ci := 1) (T := TX1) (N := 3) (fs := [.int 0, .int 0, .int 0]) dX10_init_200 203 rfl in_X1 tyX1_ok wc_84 wc_99 wc_100 rfl df_X1 (Nat.le_of_ble_eq_true rfl) (Nat.le_of_ble_eq_true rfl) (144) 143 4692 rfl rfl rfl ?_
  refine bw_dup dX10_init_203 204 rfl rfl ?_
  refine bw_callIN (M2 := m_X1_init) (mc := 0) (ms := 0) dX10_init_204 207 rfl (kc_X1_init l G 143 144 _ (by decide) (rfl)) bn_7 wi_X1_init pi_X1_init rfl ⟨by decide, by decide⟩ ⟨Nat.le_of_ble_eq_true rfl, Nat.le_of_ble_eq_true rfl⟩ rfl (Nat.le_of_ble_eq_true rfl) rfl 143 4692 rfl rfl ?_
  refine bw_aast (t := 4) (ci := 1) (f := (fun _ => none)) (N := 8) dX10_init_207 208 rfl (by decide) (rfl) rfl (by decide) (rfl) rfl (by decide) ?_
  refine bw_iinc (i := 1) dX10_init_208 211 rfl 0 rfl 1 rfl [(1, .int 1), (0, .ref (G.2.2.2 + 0))] (by decide) rfl ?_
  refine bw_goto dX10_init_211 189 rfl ?_
  refine bw_iload_n (i := 1) dX10_init_189 190 rfl rfl 0 rfl ?_
  refine bw_bipush (x := 8) dX10_init_190 192 rfl rfl ?_
  refine bw_icmp_nge (t := 214) dX10_init_192 195 rfl rfl (by decide) ?_
  refine bw_aload_n (i := 0) dX10_init_195 196 rfl rfl 1 rfl ?_
  refine bw_get (T := TX10) (f := 8) (N := 19) (x := .ref (G.2.2.2 + 53)) dX10_init_196 199 rfl wc_85 in_X10 (by decide) (rfl) rfl (by decide) rfl ?_
  refine bw_iload_n (i := 1) dX10_init_199 200 rfl rfl 0 rfl ?_
  refine bw_new (ci := 1) (T := TX1) (N := 3) (fs := [.int 0, .int 0, .int 0]) dX10_init_200 203 rfl in_X1 tyX1_ok wc_84 wc_99 wc_100 rfl df_X1 (Nat.le_of_ble_eq_true rfl) (Nat.le_of_ble_eq_true rfl) (145) 144 4695 rfl rfl rfl ?_
  refine bw_dup dX10_init_203 204 rfl rfl ?_
  refine bw_callIN (M2 := m_X1_init) (mc := 0) (ms := 0) dX10_init_204 207 rfl (kc_X1_init l G 144 145 _ (by decide) (rfl)) bn_7 wi_X1_init pi_X1_init rfl ⟨by decide, by decide⟩ ⟨Nat.le_of_ble_eq_true rfl, Nat.le_of_ble_eq_true rfl⟩ rfl (Nat.le_of_ble_eq_true rfl) rfl 144 4695 rfl rfl ?_
  refine bw_aast (t := 4) (ci := 1) (f := (va_up (fun _ => none) (Int32.toNatClampNeg 0) (some (G.2.2.2 + 143)))) (N := 8) dX10_init_207 208 rfl (by decide) (rfl) rfl (by decide) (rfl) rfl (by decide) ?_
  refine bw_iinc (i := 1) dX10_init_208 211 rfl 0 rfl 2 rfl [(1, .int 2), (0, .ref (G.2.2.2 + 0))] (by decide) rfl ?_
  refine bw_goto dX10_init_211 189 rfl ?_
  refine bw_iload_n (i := 1) dX10_init_189 190 rfl rfl 0 rfl ?_
  refine bw_bipush (x := 8) dX10_init_190 192 rfl rfl ?_
  refine bw_icmp_nge (t := 214) dX10_init_192 195 rfl rfl (by decide) ?_
  refine bw_aload_n (i := 0) dX10_init_195 196 rfl rfl 1 rfl ?_
  refine bw_get (T := TX10) (f := 8) (N := 19) (x := .ref (G.2.2.2 + 53)) dX10_init_196 199 rfl wc_85 in_X10 (by decide) (rfl) rfl (by decide) rfl ?_
  refine bw_iload_n (i := 1) dX10_init_199 200 rfl rfl 0 rfl ?_
  refine bw_new (ci := 1) (T := TX1) (N := 3) (fs := [.int 0, .int 0, .int 0]) dX10_init_200 203 rfl in_X1 tyX1_ok wc_84 wc_99 wc_100 rfl df_X1 (Nat.le_of_ble_eq_true rfl) (Nat.le_of_ble_eq_true rfl) (146) 145 4698 rfl rfl rfl ?_
  refine bw_dup dX10_init_203 204 rfl rfl ?_
  refine bw_callIN (M2 := m_X1_init) (mc := 0) (ms := 0) dX10_init_204 207 rfl (kc_X1_init l G 145 146 _ (by decide) (rfl)) bn_7 wi_X1_init pi_X1_init rfl ⟨by decide, by decide⟩ ⟨Nat.le_of_ble_eq_true rfl, Nat.le_of_ble_eq_true rfl⟩ rfl (Nat.le_of_ble_eq_true rfl) rfl 145 4698 rfl rfl ?_
  refine bw_aast (t := 4) (ci := 1) (f := (va_up (va_up (fun _ => none) (Int32.toNatClampNeg 0) (some (G.2.2.2 + 143))) (Int32.toNatClampNeg 1) (some (G.2.2.2 + 144)))) (N := 8) dX10_init_207 208 rfl (by decide) (rfl) rfl (by decide) (rfl) rfl (by decide) ?_
  refine bw_iinc (i := 1) dX10_init_208 211 rfl 0 rfl 3 rfl [(1, .int 3), (0, .ref (G.2.2.2 + 0))] (by decide) rfl ?_
  refine bw_goto dX10_init_211 189 rfl ?_
  refine bw_iload_n (i := 1) dX10_init_189 190 rfl rfl 0 rfl ?_
  refine bw_bipush (x := 8) dX10_init_190 192 rfl rfl ?_
  refine bw_icmp_nge (t := 214) dX10_init_192 195 rfl rfl (by decide) ?_
  refine bw_aload_n (i := 0) dX10_init_195 196 rfl rfl 1 rfl ?_
  refine bw_get (T := TX10) (f := 8) (N := 19) (x := .ref (G.2.2.2 + 53)) dX10_init_196 199 rfl wc_85 in_X10 (by decide) (rfl) rfl (by decide) rfl ?_
  refine bw_iload_n (i := 1) dX10_init_199 200 rfl rfl 0 rfl ?_
  refine bw_new (ci := 1) (T := TX1) (N := 3) (fs := [.int 0, .int 0, .int 0]) dX10_init_200 203 rfl in_X1 tyX1_ok wc_84 wc_99 wc_100 rfl df_X1 (Nat.le_of_ble_eq_true rfl) (Nat.le_of_ble_eq_true rfl) (147) 146 4701 rfl rfl rfl ?_
  refine bw_dup dX10_init_203 204 rfl rfl ?_
  refine bw_callIN (M2 := m_X1_init) (mc := 0) (ms := 0) dX10_init_204 207 rfl (kc_X1_init l G 146 147 _ (by decide) (rfl)) bn_7 wi_X1_init pi_X1_init rfl ⟨by decide, by decide⟩ ⟨Nat.le_of_ble_eq_true rfl, Nat.le_of_ble_eq_true rfl⟩ rfl (Nat.le_of_ble_eq_true rfl) rfl 146 4701 rfl rfl ?_
  refine bw_aast (t := 4) (ci := 1) (f := (va_up (va_up (va_up (fun _ => none) (Int32.toNatClampNeg 0) (some (G.2.2.2 + 143))) (Int32.toNatClampNeg 1) (some (G.2.2.2 + 144))) (Int32.toNatClampNeg 2) (some (G.2.2.2 + 145)))) (N := 8) dX10_init_207 208 rfl (by decide) (rfl) rfl (by decide) (rfl) rfl (by decide) ?_
  refine bw_iinc (i := 1) dX10_init_208 211 rfl 0 rfl 4 rfl [(1, .int 4), (0, .ref (G.2.2.2 + 0))] (by decide) rfl ?_
  refine bw_goto dX10_init_211 189 rfl ?_
  refine bw_iload_n (i := 1) dX10_init_189 190 rfl rfl 0 rfl ?_
  refine bw_bipush (x := 8) dX10_init_190 192 rfl rfl ?_
  refine bw_icmp_nge (t := 214) dX10_init_192 195 rfl rfl (by decide) ?_
  refine bw_aload_n (i := 0) dX10_init_195 196 rfl rfl 1 rfl ?_
  refine bw_get (T := TX10) (f := 8) (N := 19) (x := .ref (G.2.2.2 + 53)) dX10_init_196 199 rfl wc_85 in_X10 (by decide) (rfl) rfl (by decide) rfl ?_
  refine bw_iload_n (i := 1) dX10_init_199 200 rfl rfl 0 rfl ?_
  refine bw_new (ci := 1) (T := TX1) (N := 3) (fs := [.int 0, .int 0, .int 0]) dX10_init_200 203 rfl in_X1 tyX1_ok wc_84 wc_99 wc_100 rfl df_X1 (Nat.le_of_ble_eq_true rfl) (Nat.le_of_ble_eq_true rfl) (148) 147 4704 rfl rfl rfl ?_
  refine bw_dup dX10_init_203 204 rfl rfl ?_
  refine bw_callIN (M2 := m_X1_init) (mc := 0) (ms := 0) dX10_init_204 207 rfl (kc_X1_init l G 147 148 _ (by decide) (rfl)) bn_7 wi_X1_init pi_X1_init rfl ⟨by decide, by decide⟩ ⟨Nat.le_of_ble_eq_true rfl, Nat.le_of_ble_eq_true rfl⟩ rfl (Nat.le_of_ble_eq_true rfl) rfl 147 4704 rfl rfl ?_
  refine bw_aast (t := 4) (ci := 1) (f := (va_up (va_up (va_up (va_up (fun _ => none) (Int32.toNatClampNeg 0) (some (G.2.2.2 + 143))) (Int32.toNatClampNeg 1) (some (G.2.2.2 + 144))) (Int32.toNatClampNeg 2) (some (G.2.2.2 + 145))) (Int32.toNatClampNeg 3) (some (G.2.2.2 + 146)))) (N := 8) dX10_init_207 208 rfl (by decide) (rfl) rfl (by decide) (rfl) rfl (by decide) ?_
  refine bw_iinc (i := 1) dX10_init_208 211 rfl 0 rfl 5 rfl [(1, .int 5), (0, .ref (G.2.2.2 + 0))] (by decide) rfl ?_
  refine bw_goto dX10_init_211 189 rfl ?_
  refine bw_iload_n (i := 1) dX10_init_189 190 rfl rfl 0 rfl ?_
  refine bw_bipush (x := 8) dX10_init_190 192 rfl rfl ?_
  refine bw_icmp_nge (t := 214) dX10_init_192 195 rfl rfl (by decide) ?_
  refine bw_aload_n (i := 0) dX10_init_195 196 rfl rfl 1 rfl ?_
  refine bw_get (T := TX10) (f := 8) (N := 19) (x := .ref (G.2.2.2 + 53)) dX10_init_196 199 rfl wc_85 in_X10 (by decide) (rfl) rfl (by decide) rfl ?_
  refine bw_iload_n (i := 1) dX10_init_199 200 rfl rfl 0 rfl ?_
  refine bw_new (ci := 1) (T := TX1) (N := 3) (fs := [.int 0, .int 0, .int 0]) dX10_init_200 203 rfl in_X1 tyX1_ok wc_84 wc_99 wc_100 rfl df_X1 (Nat.le_of_ble_eq_true rfl) (Nat.le_of_ble_eq_true rfl) (149) 148 4707 rfl rfl rfl ?_
  refine bw_dup dX10_init_203 204 rfl rfl ?_
  refine bw_callIN (M2 := m_X1_init) (mc := 0) (ms := 0) dX10_init_204 207 rfl (kc_X1_init l G 148 149 _ (by decide) (rfl)) bn_7 wi_X1_init pi_X1_init rfl ⟨by decide, by decide⟩ ⟨Nat.le_of_ble_eq_true rfl, Nat.le_of_ble_eq_true rfl⟩ rfl (Nat.le_of_ble_eq_true rfl) rfl 148 4707 rfl rfl ?_
  refine bw_aast (t := 4) (ci := 1) (f := (va_up (va_up (va_up (va_up (va_up (fun _ => none) (Int32.toNatClampNeg 0) (some (G.2.2.2 + 143))) (Int32.toNatClampNeg 1) (some (G.2.2.2 + 144))) (Int32.toNatClampNeg 2) (some (G.2.2.2 + 145))) (Int32.toNatClampNeg 3) (some (G.2.2.2 + 146))) (Int32.toNatClampNeg 4) (some (G.2.2.2 + 147)))) (N := 8) dX10_init_207 208 rfl (by decide) (rfl) rfl (by decide) (rfl) rfl (by decide) ?_
  refine bw_iinc (i := 1) dX10_init_208 211 rfl 0 rfl 6 rfl [(1, .int 6), (0, .ref (G.2.2.2 + 0))] (by decide) rfl ?_
  refine bw_goto dX10_init_211 189 rfl ?_
  refine bw_iload_n (i := 1) dX10_init_189 190 rfl rfl 0 rfl ?_
  refine bw_bipush (x := 8) dX10_init_190 192 rfl rfl ?_
  refine bw_icmp_nge (t := 214) dX10_init_192 195 rfl rfl (by decide) ?_
  refine bw_aload_n (i := 0) dX10_init_195 196 rfl rfl 1 rfl ?_
  refine bw_get (T := TX10) (f := 8) (N := 19) (x := .ref (G.2.2.2 + 53)) dX10_init_196 199 rfl wc_85 in_X10 (by decide) (rfl) rfl (by decide) rfl ?_
  refine bw_iload_n (i := 1) dX10_init_199 200 rfl rfl 0 rfl ?_
  refine bw_new (ci := 1) (T := TX1) (N := 3) (fs := [.int 0, .int 0, .int 0]) dX10_init_200 203 rfl in_X1 tyX1_ok wc_84 wc_99 wc_100 rfl df_X1 (Nat.le_of_ble_eq_true rfl) (Nat.le_of_ble_eq_true rfl) (150) 149 4710 rfl rfl rfl ?_
  refine bw_dup dX10_init_203 204 rfl rfl ?_
  refine bw_callIN (M2 := m_X1_init) (mc := 0) (ms := 0) dX10_init_204 207 rfl (kc_X1_init l G 149 150 _ (by decide) (rfl)) bn_7 wi_X1_init pi_X1_init rfl ⟨by decide, by decide⟩ ⟨Nat.le_of_ble_eq_true rfl, Nat.le_of_ble_eq_true rfl⟩ rfl (Nat.le_of_ble_eq_true rfl) rfl 149 4710 rfl rfl ?_
  refine bw_aast (t := 4) (ci := 1) (f := (va_up (va_up (va_up (va_up (va_up (va_up (fun _ => none) (Int32.toNatClampNeg 0) (some (G.2.2.2 + 143))) (Int32.toNatClampNeg 1) (some (G.2.2.2 + 144))) (Int32.toNatClampNeg 2) (some (G.2.2.2 + 145))) (Int32.toNatClampNeg 3) (some (G.2.2.2 + 146))) (Int32.toNatClampNeg 4) (some (G.2.2.2 + 147))) (Int32.toNatClampNeg 5) (some (G.2.2.2 + 148)))) (N := 8) dX10_init_207 208 rfl (by decide) (rfl) rfl (by decide) (rfl) rfl (by decide) ?_
  refine bw_iinc (i := 1) dX10_init_208 211 rfl 0 rfl 7 rfl [(1, .int 7), (0, .ref (G.2.2.2 + 0))] (by decide) rfl ?_
  refine bw_goto dX10_init_211 189 rfl ?_
  refine bw_iload_n (i := 1) dX10_init_189 190 rfl rfl 0 rfl ?_
  refine bw_bipush (x := 8) dX10_init_190 192 rfl rfl ?_
  refine bw_icmp_nge (t := 214) dX10_init_192 195 rfl rfl (by decide) ?_
  refine bw_aload_n (i := 0) dX10_init_195 196 rfl rfl 1 rfl ?_
  refine bw_get (T := TX10) (f := 8) (N := 19) (x := .ref (G.2.2.2 + 53)) dX10_init_196 199 rfl wc_85 in_X10 (by decide) (rfl) rfl (by decide) rfl ?_
  refine bw_iload_n (i := 1) dX10_init_199 200 rfl rfl 0 rfl ?_
  refine bw_new (ci := 1) (T := TX1) (N := 3) (fs := [.int 0, .int 0, .int 0]) dX10_init_200 203 rfl in_X1 tyX1_ok wc_84 wc_99 wc_100 rfl df_X1 (Nat.le_of_ble_eq_true rfl) (Nat.le_of_ble_eq_true rfl) (151) 150 4713 rfl rfl rfl ?_
  refine bw_dup dX10_init_203 204 rfl rfl ?_
  refine bw_callIN (M2 := m_X1_init) (mc := 0) (ms := 0) dX10_init_204 207 rfl (kc_X1_init l G 150 151 _ (by decide) (rfl)) bn_7 wi_X1_init pi_X1_init rfl ⟨by decide, by decide⟩ ⟨Nat.le_of_ble_eq_true rfl, Nat.le_of_ble_eq_true rfl⟩ rfl (Nat.le_of_ble_eq_true rfl) rfl 150 4713 rfl rfl ?_
  refine bw_aast (t := 4) (ci := 1) (f := (va_up (va_up (va_up (va_up (va_up (va_up (va_up (fun _ => none) (Int32.toNatClampNeg 0) (some (G.2.2.2 + 143))) (Int32.toNatClampNeg 1) (some (G.2.2.2 + 144))) (Int32.toNatClampNeg 2) (some (G.2.2.2 + 145))) (Int32.toNatClampNeg 3) (some (G.2.2.2 + 146))) (Int32.toNatClampNeg 4) (some (G.2.2.2 + 147))) (Int32.toNatClampNeg 5) (some (G.2.2.2 + 148))) (Int32.toNatClampNeg 6) (some (G.2.2.2 + 149)))) (N := 8) dX10_init_207 208 rfl (by decide) (rfl) rfl (by decide) (rfl) rfl (by decide) ?_
  refine bw_iinc (i := 1) dX10_init_208 211 rfl 0 rfl 8 rfl [(1, .int 8), (0, .ref (G.2.2.2 + 0))] (by decide) rfl ?_
  refine bw_goto dX10_init_211 189 rfl ?_
  refine bw_iload_n (i := 1) dX10_init_189 190 rfl rfl 0 rfl ?_
  refine bw_bipush (x := 8) dX10_init_190 192 rfl rfl ?_
  refine bw_icmp_ge dX10_init_192 214 rfl (by decide) ?_
  refine bw_iconst (x := 0) dX10_init_214 215 rfl rfl ?_
  refine bw_istore_n dX10_init_215 216 rfl rfl [(1, .int 0), (0, .ref (G.2.2.2 + 0))] (by decide) rfl ?_
  refine bw_iload_n (i := 1) dX10_init_216 217 rfl rfl 0 rfl ?_
  refine bw_bipush (x := 8) dX10_init_217 219 rfl rfl ?_
  refine bw_icmp_nge (t := 241) dX10_init_219 222 rfl rfl (by decide) ?_
  refine bw_aload_n (i := 0) dX10_init_222 223 rfl rfl 1 rfl ?_
  refine bw_get (T := TX10) (f := 9) (N := 19) (x := .ref (G.2.2.2 + 54)) dX10_init_223 226 rfl wc_87 in_X10 (by decide) (rfl) rfl (by decide) rfl ?_
  refine bw_iload_n (i := 1) dX10_init_226 227 rfl rfl 0 rfl ?_
  refine bw_new (ci := 2) (T := TX2) (N := 6) (fs := [.null, .null, .int 0, .int 0, .int 0, .int 0]) dX10_init_227 230 rfl in_X2 tyX2_ok wc_86 wc_105 wc_106 rfl df_X2 (Nat.le_of_ble_eq_true rfl) (Nat.le_of_ble_eq_true rfl) (152) 151 4719 rfl rfl rfl ?_
  refine bw_dup dX10_init_230 231 rfl rfl ?_
  refine bw_callIN (M2 := m_X2_init) (mc := 2) (ms := 96) dX10_init_231 234 rfl (kc_X2_init l G 151 152 _ (by decide) (rfl)) bn_8 wi_X2_init pi_X2_init rfl ⟨by decide, by decide⟩ ⟨Nat.le_of_ble_eq_true rfl, Nat.le_of_ble_eq_true rfl⟩ rfl (Nat.le_of_ble_eq_true rfl) rfl 153 4815 rfl rfl ?_
  refine bw_aast (t := 5) (ci := 2) (f := (fun _ => none)) (N := 8) dX10_init_234 235 rfl (by decide) (rfl) rfl (by decide) (rfl) rfl (by decide) ?_
  refine bw_iinc (i := 1) dX10_init_235 238 rfl 0 rfl 1 rfl [(1, .int 1), (0, .ref (G.2.2.2 + 0))] (by decide) rfl ?_
  refine bw_goto dX10_init_238 216 rfl ?_
  refine bw_iload_n (i := 1) dX10_init_216 217 rfl rfl 0 rfl ?_
  refine bw_bipush (x := 8) dX10_init_217 219 rfl rfl ?_
  refine bw_icmp_nge (t := 241) dX10_init_219 222 rfl rfl (by decide) ?_
  refine bw_aload_n (i := 0) dX10_init_222 223 rfl rfl 1 rfl ?_
  refine bw_get (T := TX10) (f := 9) (N := 19) (x := .ref (G.2.2.2 + 54)) dX10_init_223 226 rfl wc_87 in_X10 (by decide) (rfl) rfl (by decide) rfl ?_
  refine bw_iload_n (i := 1) dX10_init_226 227 rfl rfl 0 rfl ?_
  refine bw_new (ci := 2) (T := TX2) (N := 6) (fs := [.null, .null, .int 0, .int 0, .int 0, .int 0]) dX10_init_227 230 rfl in_X2 tyX2_ok wc_86 wc_105 wc_106 rfl df_X2 (Nat.le_of_ble_eq_true rfl) (Nat.le_of_ble_eq_true rfl) (155) 154 4821 rfl rfl rfl ?_
  refine bw_dup dX10_init_230 231 rfl rfl ?_
  refine bw_callIN (M2 := m_X2_init) (mc := 2) (ms := 96) dX10_init_231 234 rfl (kc_X2_init l G 154 155 _ (by decide) (rfl)) bn_8 wi_X2_init pi_X2_init rfl ⟨by decide, by decide⟩ ⟨Nat.le_of_ble_eq_true rfl, Nat.le_of_ble_eq_true rfl⟩ rfl (Nat.le_of_ble_eq_true rfl) rfl 156 4917 rfl rfl ?_
  refine bw_aast (t := 5) (ci := 2) (f := (va_up (fun _ => none) (Int32.toNatClampNeg 0) (some (G.2.2.2 + 151)))) (N := 8) dX10_init_234 235 rfl (by decide) (rfl) rfl (by decide) (rfl) rfl (by decide) ?_
  refine bw_iinc (i := 1) dX10_init_235 238 rfl 0 rfl 2 rfl [(1, .int 2), (0, .ref (G.2.2.2 + 0))] (by decide) rfl ?_
  refine bw_goto dX10_init_238 216 rfl ?_
  refine bw_iload_n (i := 1) dX10_init_216 217 rfl rfl 0 rfl ?_
  refine bw_bipush (x := 8) dX10_init_217 219 rfl rfl ?_
  refine bw_icmp_nge (t := 241) dX10_init_219 222 rfl rfl (by decide) ?_
  refine bw_aload_n (i := 0) dX10_init_222 223 rfl rfl 1 rfl ?_
  refine bw_get (T := TX10) (f := 9) (N := 19) (x := .ref (G.2.2.2 + 54)) dX10_init_223 226 rfl wc_87 in_X10 (by decide) (rfl) rfl (by decide) rfl ?_
  refine bw_iload_n (i := 1) dX10_init_226 227 rfl rfl 0 rfl ?_
  refine bw_new (ci := 2) (T := TX2) (N := 6) (fs := [.null, .null, .int 0, .int 0, .int 0, .int 0]) dX10_init_227 230 rfl in_X2 tyX2_ok wc_86 wc_105 wc_106 rfl df_X2 (Nat.le_of_ble_eq_true rfl) (Nat.le_of_ble_eq_true rfl) (158) 157 4923 rfl rfl rfl ?_
  refine bw_dup dX10_init_230 231 rfl rfl ?_
  refine bw_callIN (M2 := m_X2_init) (mc := 2) (ms := 96) dX10_init_231 234 rfl (kc_X2_init l G 157 158 _ (by decide) (rfl)) bn_8 wi_X2_init pi_X2_init rfl ⟨by decide, by decide⟩ ⟨Nat.le_of_ble_eq_true rfl, Nat.le_of_ble_eq_true rfl⟩ rfl (Nat.le_of_ble_eq_true rfl) rfl 159 5019 rfl rfl ?_
  refine bw_aast (t := 5) (ci := 2) (f := (va_up (va_up (fun _ => none) (Int32.toNatClampNeg 0) (some (G.2.2.2 + 151))) (Int32.toNatClampNeg 1) (some (G.2.2.2 + 154)))) (N := 8) dX10_init_234 235 rfl (by decide) (rfl) rfl (by decide) (rfl) rfl (by decide) ?_
  refine bw_iinc (i := 1) dX10_init_235 238 rfl 0 rfl 3 rfl [(1, .int 3), (0, .ref (G.2.2.2 + 0))] (by decide) rfl ?_
  refine bw_goto dX10_init_238 216 rfl ?_
  refine bw_iload_n (i := 1) dX10_init_216 217 rfl rfl 0 rfl ?_
  refine bw_bipush (x := 8) dX10_init_217 219 rfl rfl ?_
  refine bw_icmp_nge (t := 241) dX10_init_219 222 rfl rfl (by decide) ?_
  refine bw_aload_n (i := 0) dX10_init_222 223 rfl rfl 1 rfl ?_
  refine bw_get (T := TX10) (f := 9) (N := 19) (x := .ref (G.2.2.2 + 54)) dX10_init_223 226 rfl wc_87 in_X10 (by decide) (rfl) rfl (by decide) rfl ?_
  refine bw_iload_n (i := 1) dX10_init_226 227 rfl rfl 0 rfl ?_
  refine bw_new (ci := 2) (T := TX2) (N := 6) (fs := [.null, .null, .int 0, .int 0, .int 0, .int 0]) dX10_init_227 230 rfl in_X2 tyX2_ok wc_86 wc_105 wc_106 rfl df_X2 (Nat.le_of_ble_eq_true rfl) (Nat.le_of_ble_eq_true rfl) (161) 160 5025 rfl rfl rfl ?_
  refine bw_dup dX10_init_230 231 rfl rfl ?_
  refine bw_callIN (M2 := m_X2_init) (mc := 2) (ms := 96) dX10_init_231 234 rfl (kc_X2_init l G 160 161 _ (by decide) (rfl)) bn_8 wi_X2_init pi_X2_init rfl ⟨by decide, by decide⟩ ⟨Nat.le_of_ble_eq_true rfl, Nat.le_of_ble_eq_true rfl⟩ rfl (Nat.le_of_ble_eq_true rfl) rfl 162 5121 rfl rfl ?_
  refine bw_aast (t := 5) (ci := 2) (f := (va_up (va_up (va_up (fun _ => none) (Int32.toNatClampNeg 0) (some (G.2.2.2 + 151))) (Int32.toNatClampNeg 1) (some (G.2.2.2 + 154))) (Int32.toNatClampNeg 2) (some (G.2.2.2 + 157)))) (N := 8) dX10_init_234 235 rfl (by decide) (rfl) rfl (by decide) (rfl) rfl (by decide) ?_
  refine bw_iinc (i := 1) dX10_init_235 238 rfl 0 rfl 4 rfl [(1, .int 4), (0, .ref (G.2.2.2 + 0))] (by decide) rfl ?_
  refine bw_goto dX10_init_238 216 rfl ?_
  refine bw_iload_n (i := 1) dX10_init_216 217 rfl rfl 0 rfl ?_
  refine bw_bipush (x := 8) dX10_init_217 219 rfl rfl ?_
  refine bw_icmp_nge (t := 241) dX10_init_219 222 rfl rfl (by decide) ?_
  refine bw_aload_n (i := 0) dX10_init_222 223 rfl rfl 1 rfl ?_
  refine bw_get (T := TX10) (f := 9) (N := 19) (x := .ref (G.2.2.2 + 54)) dX10_init_223 226 rfl wc_87 in_X10 (by decide) (rfl) rfl (by decide) rfl ?_
  refine bw_iload_n (i := 1) dX10_init_226 227 rfl rfl 0 rfl ?_
  refine bw_new (ci := 2) (T := TX2) (N := 6) (fs := [.null, .null, .int 0, .int 0, .int 0, .int 0]) dX10_init_227 230 rfl in_X2 tyX2_ok wc_86 wc_105 wc_106 rfl df_X2 (Nat.le_of_ble_eq_true rfl) (Nat.le_of_ble_eq_true rfl) (164) 163 5127 rfl rfl rfl ?_
  refine bw_dup dX10_init_230 231 rfl rfl ?_
  refine bw_callIN (M2 := m_X2_init) (mc := 2) (ms := 96) dX10_init_231 234 rfl (kc_X2_init l G 163 164 _ (by decide) (rfl)) bn_8 wi_X2_init pi_X2_init rfl ⟨by decide, by decide⟩ ⟨Nat.le_of_ble_eq_true rfl, Nat.le_of_ble_eq_true rfl⟩ rfl (Nat.le_of_ble_eq_true rfl) rfl 165 5223 rfl rfl ?_
  refine bw_aast (t := 5) (ci := 2) (f := (va_up (va_up (va_up (va_up (fun _ => none) (Int32.toNatClampNeg 0) (some (G.2.2.2 + 151))) (Int32.toNatClampNeg 1) (some (G.2.2.2 + 154))) (Int32.toNatClampNeg 2) (some (G.2.2.2 + 157))) (Int32.toNatClampNeg 3) (some (G.2.2.2 + 160)))) (N := 8) dX10_init_234 235 rfl (by decide) (rfl) rfl (by decide) (rfl) rfl (by decide) ?_
  refine bw_iinc (i := 1) dX10_init_235 238 rfl 0 rfl 5 rfl [(1, .int 5), (0, .ref (G.2.2.2 + 0))] (by decide) rfl ?_
  refine bw_goto dX10_init_238 216 rfl ?_
  refine bw_iload_n (i := 1) dX10_init_216 217 rfl rfl 0 rfl ?_
  refine bw_bipush (x := 8) dX10_init_217 219 rfl rfl ?_
  refine bw_icmp_nge (t := 241) dX10_init_219 222 rfl rfl (by decide) ?_
  refine bw_aload_n (i := 0) dX10_init_222 223 rfl rfl 1 rfl ?_
  refine bw_get (T := TX10) (f := 9) (N := 19) (x := .ref (G.2.2.2 + 54)) dX10_init_223 226 rfl wc_87 in_X10 (by decide) (rfl) rfl (by decide) rfl ?_
  refine bw_iload_n (i := 1) dX10_init_226 227 rfl rfl 0 rfl ?_
  refine bw_new (ci := 2) (T := TX2) (N := 6) (fs := [.null, .null, .int 0, .int 0, .int 0, .int 0]) dX10_init_227 230 rfl in_X2 tyX2_ok wc_86 wc_105 wc_106 rfl df_X2 (Nat.le_of_ble_eq_true rfl) (Nat.le_of_ble_eq_true rfl) (167) 166 5229 rfl rfl rfl ?_
  refine bw_dup dX10_init_230 231 rfl rfl ?_
  refine bw_callIN (M2 := m_X2_init) (mc := 2) (ms := 96) dX10_init_231 234 rfl (kc_X2_init l G 166 167 _ (by decide) (rfl)) bn_8 wi_X2_init pi_X2_init rfl ⟨by decide, by decide⟩ ⟨Nat.le_of_ble_eq_true rfl, Nat.le_of_ble_eq_true rfl⟩ rfl (Nat.le_of_ble_eq_true rfl) rfl 168 5325 rfl rfl ?_
  refine bw_aast (t := 5) (ci := 2) (f := (va_up (va_up (va_up (va_up (va_up (fun _ => none) (Int32.toNatClampNeg 0) (some (G.2.2.2 + 151))) (Int32.toNatClampNeg 1) (some (G.2.2.2 + 154))) (Int32.toNatClampNeg 2) (some (G.2.2.2 + 157))) (Int32.toNatClampNeg 3) (some (G.2.2.2 + 160))) (Int32.toNatClampNeg 4) (some (G.2.2.2 + 163)))) (N := 8) dX10_init_234 235 rfl (by decide) (rfl) rfl (by decide) (rfl) rfl (by decide) ?_
  refine bw_iinc (i := 1) dX10_init_235 238 rfl 0 rfl 6 rfl [(1, .int 6), (0, .ref (G.2.2.2 + 0))] (by decide) rfl ?_
  refine bw_goto dX10_init_238 216 rfl ?_
  refine bw_iload_n (i := 1) dX10_init_216 217 rfl rfl 0 rfl ?_
  refine bw_bipush (x := 8) dX10_init_217 219 rfl rfl ?_
  refine bw_icmp_nge (t := 241) dX10_init_219 222 rfl rfl (by decide) ?_
  refine bw_aload_n (i := 0) dX10_init_222 223 rfl rfl 1 rfl ?_
  refine bw_get (T := TX10) (f := 9) (N := 19) (x := .ref (G.2.2.2 + 54)) dX10_init_223 226 rfl wc_87 in_X10 (by decide) (rfl) rfl (by decide) rfl ?_
  refine bw_iload_n (i := 1) dX10_init_226 227 rfl rfl 0 rfl ?_
  refine bw_new (ci := 2) (T := TX2) (N := 6) (fs := [.null, .null, .int 0, .int 0, .int 0, .int 0]) dX10_init_227 230 rfl in_X2 tyX2_ok wc_86 wc_105 wc_106 rfl df_X2 (Nat.le_of_ble_eq_true rfl) (Nat.le_of_ble_eq_true rfl) (170) 169 5331 rfl rfl rfl ?_
  refine bw_dup dX10_init_230 231 rfl rfl ?_
  refine bw_callIN (M2 := m_X2_init) (mc := 2) (ms := 96) dX10_init_231 234 rfl (kc_X2_init l G 169 170 _ (by decide) (rfl)) bn_8 wi_X2_init pi_X2_init rfl ⟨by decide, by decide⟩ ⟨Nat.le_of_ble_eq_true rfl, Nat.le_of_ble_eq_true rfl⟩ rfl (Nat.le_of_ble_eq_true rfl) rfl 171 5427 rfl rfl ?_
  refine bw_aast (t := 5) (ci := 2) (f := (va_up (va_up (va_up (va_up (va_up (va_up (fun _ => none) (Int32.toNatClampNeg 0) (some (G.2.2.2 + 151))) (Int32.toNatClampNeg 1) (some (G.2.2.2 + 154))) (Int32.toNatClampNeg 2) (some (G.2.2.2 + 157))) (Int32.toNatClampNeg 3) (some (G.2.2.2 + 160))) (Int32.toNatClampNeg 4) (some (G.2.2.2 + 163))) (Int32.toNatClampNeg 5) (some (G.2.2.2 + 166)))) (N := 8) dX10_init_234 235 rfl (by decide) (rfl) rfl (by decide) (rfl) rfl (by decide) ?_
  refine bw_iinc (i := 1) dX10_init_235 238 rfl 0 rfl 7 rfl [(1, .int 7), (0, .ref (G.2.2.2 + 0))] (by decide) rfl ?_
  refine bw_goto dX10_init_238 216 rfl ?_
  refine bw_iload_n (i := 1) dX10_init_216 217 rfl rfl 0 rfl ?_
  refine bw_bipush (x := 8) dX10_init_217 219 rfl rfl ?_
  refine bw_icmp_nge (t := 241) dX10_init_219 222 rfl rfl (by decide) ?_
  refine bw_aload_n (i := 0) dX10_init_222 223 rfl rfl 1 rfl ?_
  refine bw_get (T := TX10) (f := 9) (N := 19) (x := .ref (G.2.2.2 + 54)) dX10_init_223 226 rfl wc_87 in_X10 (by decide) (rfl) rfl (by decide) rfl ?_
  refine bw_iload_n (i := 1) dX10_init_226 227 rfl rfl 0 rfl ?_
  refine bw_new (ci := 2) (T := TX2) (N := 6) (fs := [.null, .null, .int 0, .int 0, .int 0, .int 0]) dX10_init_227 230 rfl in_X2 tyX2_ok wc_86 wc_105 wc_106 rfl df_X2 (Nat.le_of_ble_eq_true rfl) (Nat.le_of_ble_eq_true rfl) (173) 172 5433 rfl rfl rfl ?_
  refine bw_dup dX10_init_230 231 rfl rfl ?_
  refine bw_callIN (M2 := m_X2_init) (mc := 2) (ms := 96) dX10_init_231 234 rfl (kc_X2_init l G 172 173 _ (by decide) (rfl)) bn_8 wi_X2_init pi_X2_init rfl ⟨by decide, by decide⟩ ⟨Nat.le_of_ble_eq_true rfl, Nat.le_of_ble_eq_true rfl⟩ rfl (Nat.le_of_ble_eq_true rfl) rfl 174 5529 rfl rfl ?_
  refine bw_aast (t := 5) (ci := 2) (f := (va_up (va_up (va_up (va_up (va_up (va_up (va_up (fun _ => none) (Int32.toNatClampNeg 0) (some (G.2.2.2 + 151))) (Int32.toNatClampNeg 1) (some (G.2.2.2 + 154))) (Int32.toNatClampNeg 2) (some (G.2.2.2 + 157))) (Int32.toNatClampNeg 3) (some (G.2.2.2 + 160))) (Int32.toNatClampNeg 4) (some (G.2.2.2 + 163))) (Int32.toNatClampNeg 5) (some (G.2.2.2 + 166))) (Int32.toNatClampNeg 6) (some (G.2.2.2 + 169)))) (N := 8) dX10_init_234 235 rfl (by decide) (rfl) rfl (by decide) (rfl) rfl (by decide) ?_
  refine bw_iinc (i := 1) dX10_init_235 238 rfl 0 rfl 8 rfl [(1, .int 8), (0, .ref (G.2.2.2 + 0))] (by decide) rfl ?_
  refine bw_goto dX10_init_238 216 rfl ?_
  refine bw_iload_n (i := 1) dX10_init_216 217 rfl rfl 0 rfl ?_
  refine bw_bipush (x := 8) dX10_init_217 219 rfl rfl ?_
  refine bw_icmp_ge dX10_init_219 241 rfl (by decide) ?_
  exact bw_ret dX10_init_241 rfl rfl rfl rfl rfl
