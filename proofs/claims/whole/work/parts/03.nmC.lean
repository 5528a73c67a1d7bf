set_option maxRecDepth 20000 in
theorem ggX10_init_X7_init : GoodIn wsX10_init wsX7_init := goodIn_r _ [43, 44, 2, 3, 45, 10, 46, 47, 114, 115] (by decide +kernel) (by decide +kernel)
set_option maxRecDepth 20000 in
theorem gX10_init_X7_init : GoodIn wsX10_init (wsX7_init) := ggX10_init_X7_init
set_option maxRecDepth 20000 in
theorem ggX10_init_X0_init : GoodIn wsX10_init wsX0_init := goodIn_r _ [49, 50, 2, 3, 10, 51, 52, 53, 54, 55, 56, 57, 58, 59, 60, 61, 62, 63, 64, 65, 66, 67, 68, 69, 70, 71, 72, 73, 74, 75, 76, 77, 78, 79, 80, 81, 82, 83, 84, 85, 86, 87, 88, 135, 136, 137, 138, 139, 140, 141, 142, 143, 144, 145, 146, 147, 148, 149, 150, 151, 152, 153, 177, 178, 179, 180, 181, 182, 183, 184, 185, 186, 187, 188] (by decide +kernel) (by decide +kernel)
set_option maxRecDepth 20000 in
theorem gX10_init_X0_init_n34 : GoodIn wsX10_init (wsX0_init) := ggX10_init_X0_init
set_option maxRecDepth 20000 in
theorem ggX10_init_X8_init : GoodIn wsX10_init wsX8_init := goodIn_r _ [90, 91, 2, 3, 10, 92, 93, 94, 95, 154, 155, 156, 157] (by decide +kernel) (by decide +kernel)
set_option maxRecDepth 20000 in
theorem gX10_init_X8_init_n41 : GoodIn wsX10_init (wsX8_init) := ggX10_init_X8_init
set_option maxRecDepth 20000 in
theorem ggX10_init_X6_init : GoodIn wsX10_init wsX6_init := goodIn_r _ [97, 98, 2, 3, 10, 99, 100, 158, 159, 160, 161, 162, 163, 164] (by decide +kernel) (by decide +kernel)
set_option maxRecDepth 20000 in
theorem gX10_init_X6_init_n48 : GoodIn wsX10_init (wsX6_init) := ggX10_init_X6_init
set_option maxRecDepth 20000 in
theorem ggX10_init_X9_init : GoodIn wsX10_init wsX9_init := goodIn_r _ [102, 103, 2, 3] (by decide +kernel) (by decide +kernel)
set_option maxRecDepth 20000 in
theorem gX10_init_X9_init_n67 : GoodIn wsX10_init (wsX9_init) := ggX10_init_X9_init
set_option maxRecDepth 20000 in
theorem ggX10_init_X1_init : GoodIn wsX10_init wsX1_init := goodIn_r _ [105, 106, 2, 3, 107, 168, 169, 170] (by decide +kernel) (by decide +kernel)
set_option maxRecDepth 20000 in
theorem gX10_init_X1_init_n85 : GoodIn wsX10_init (wsX1_init) := ggX10_init_X1_init
set_option maxRecDepth 20000 in
theorem ggX10_init_X2_init : GoodIn wsX10_init wsX2_init := goodIn_r _ [109, 110, 2, 3, 10, 111, 55, 112, 113, 171, 172, 173, 174, 175, 176] (by decide +kernel) (by decide +kernel)
set_option maxRecDepth 20000 in
theorem gX10_init_X2_init_n86 : GoodIn wsX10_init (wsX2_init) := ggX10_init_X2_init
theorem dX10_init_0 : decode cX10_init 0 = .ok (.aload_n 0, 1) := by decide +kernel
theorem dX10_init_1 : decode cX10_init 1 = .ok (.invokespecial 1, 3) := by decide +kernel
theorem dX10_init_4 : decode cX10_init 4 = .ok (.aload_n 0, 1) := by decide +kernel
theorem dX10_init_5 : decode cX10_init 5 = .ok (.new 7, 3) := by decide +kernel
theorem dX10_init_8 : decode cX10_init 8 = .ok (.dup, 1) := by decide +kernel
theorem dX10_init_9 : decode cX10_init 9 = .ok (.bipush 6, 2) := by decide +kernel
theorem dX10_init_11 : decode cX10_init 11 = .ok (.bipush 48, 2) := by decide +kernel
theorem dX10_init_13 : decode cX10_init 13 = .ok (.invokespecial 11, 3) := by decide +kernel
theorem dX10_init_16 : decode cX10_init 16 = .ok (.putfield 14, 3) := by decide +kernel
theorem dX10_init_19 : decode cX10_init 19 = .ok (.aload_n 0, 1) := by decide +kernel
theorem dX10_init_20 : decode cX10_init 20 = .ok (.new 7, 3) := by decide +kernel
theorem dX10_init_23 : decode cX10_init 23 = .ok (.dup, 1) := by decide +kernel
theorem dX10_init_24 : decode cX10_init 24 = .ok (.bipush 6, 2) := by decide +kernel
theorem dX10_init_26 : decode cX10_init 26 = .ok (.bipush 40, 2) := by decide +kernel
theorem dX10_init_28 : decode cX10_init 28 = .ok (.invokespecial 11, 3) := by decide +kernel
theorem dX10_init_31 : decode cX10_init 31 = .ok (.putfield 18, 3) := by decide +kernel
theorem dX10_init_34 : decode cX10_init 34 = .ok (.aload_n 0, 1) := by decide +kernel
theorem dX10_init_35 : decode cX10_init 35 = .ok (.new 7, 3) := by decide +kernel
theorem dX10_init_38 : decode cX10_init 38 = .ok (.dup, 1) := by decide +kernel
theorem dX10_init_39 : decode cX10_init 39 = .ok (.bipush 8, 2) := by decide +kernel
theorem dX10_init_41 : decode cX10_init 41 = .ok (.bipush 40, 2) := by decide +kernel
theorem dX10_init_43 : decode cX10_init 43 = .ok (.invokespecial 11, 3) := by decide +kernel
theorem dX10_init_46 : decode cX10_init 46 = .ok (.putfield 21, 3) := by decide +kernel
theorem dX10_init_49 : decode cX10_init 49 = .ok (.aload_n 0, 1) := by decide +kernel
theorem dX10_init_50 : decode cX10_init 50 = .ok (.bipush 8, 2) := by decide +kernel
theorem dX10_init_52 : decode cX10_init 52 = .ok (.newarray .int, 2) := by decide +kernel
theorem dX10_init_54 : decode cX10_init 54 = .ok (.putfield 24, 3) := by decide +kernel
theorem dX10_init_57 : decode cX10_init 57 = .ok (.aload_n 0, 1) := by decide +kernel
theorem dX10_init_58 : decode cX10_init 58 = .ok (.bipush 6, 2) := by decide +kernel
theorem dX10_init_60 : decode cX10_init 60 = .ok (.anewarray 28, 3) := by decide +kernel
theorem dX10_init_63 : decode cX10_init 63 = .ok (.putfield 30, 3) := by decide +kernel
theorem dX10_init_66 : decode cX10_init 66 = .ok (.aload_n 0, 1) := by decide +kernel
theorem dX10_init_67 : decode cX10_init 67 = .ok (.new 28, 3) := by decide +kernel
theorem dX10_init_70 : decode cX10_init 70 = .ok (.dup, 1) := by decide +kernel
theorem dX10_init_71 : decode cX10_init 71 = .ok (.invokespecial 34, 3) := by decide +kernel
theorem dX10_init_74 : decode cX10_init 74 = .ok (.putfield 35, 3) := by decide +kernel
theorem dX10_init_77 : decode cX10_init 77 = .ok (.aload_n 0, 1) := by decide +kernel
theorem dX10_init_78 : decode cX10_init 78 = .ok (.new 39, 3) := by decide +kernel
theorem dX10_init_81 : decode cX10_init 81 = .ok (.dup, 1) := by decide +kernel
theorem dX10_init_82 : decode cX10_init 82 = .ok (.invokespecial 41, 3) := by decide +kernel
theorem dX10_init_85 : decode cX10_init 85 = .ok (.putfield 42, 3) := by decide +kernel
theorem dX10_init_88 : decode cX10_init 88 = .ok (.aload_n 0, 1) := by decide +kernel
theorem dX10_init_89 : decode cX10_init 89 = .ok (.new 46, 3) := by decide +kernel
theorem dX10_init_92 : decode cX10_init 92 = .ok (.dup, 1) := by decide +kernel
theorem dX10_init_93 : decode cX10_init 93 = .ok (.invokespecial 48, 3) := by decide +kernel
theorem dX10_init_96 : decode cX10_init 96 = .ok (.putfield 49, 3) := by decide +kernel
theorem dX10_init_99 : decode cX10_init 99 = .ok (.aload_n 0, 1) := by decide +kernel
theorem dX10_init_100 : decode cX10_init 100 = .ok (.bipush 8, 2) := by decide +kernel
theorem dX10_init_102 : decode cX10_init 102 = .ok (.anewarray 53, 3) := by decide +kernel
theorem dX10_init_105 : decode cX10_init 105 = .ok (.putfield 55, 3) := by decide +kernel
theorem dX10_init_108 : decode cX10_init 108 = .ok (.aload_n 0, 1) := by decide +kernel
theorem dX10_init_109 : decode cX10_init 109 = .ok (.bipush 8, 2) := by decide +kernel
theorem dX10_init_111 : decode cX10_init 111 = .ok (.anewarray 59, 3) := by decide +kernel
theorem dX10_init_114 : decode cX10_init 114 = .ok (.putfield 61, 3) := by decide +kernel
theorem dX10_init_117 : decode cX10_init 117 = .ok (.aload_n 0, 1) := by decide +kernel
theorem dX10_init_118 : decode cX10_init 118 = .ok (.new 65, 3) := by decide +kernel
theorem dX10_init_121 : decode cX10_init 121 = .ok (.dup, 1) := by decide +kernel
theorem dX10_init_122 : decode cX10_init 122 = .ok (.invokespecial 67, 3) := by decide +kernel
theorem dX10_init_125 : decode cX10_init 125 = .ok (.putfield 68, 3) := by decide +kernel
theorem dX10_init_128 : decode cX10_init 128 = .ok (.aload_n 0, 1) := by decide +kernel
theorem dX10_init_129 : decode cX10_init 129 = .ok (.new 65, 3) := by decide +kernel
theorem dX10_init_132 : decode cX10_init 132 = .ok (.dup, 1) := by decide +kernel
theorem dX10_init_133 : decode cX10_init 133 = .ok (.invokespecial 67, 3) := by decide +kernel
theorem dX10_init_136 : decode cX10_init 136 = .ok (.putfield 72, 3) := by decide +kernel
theorem dX10_init_139 : decode cX10_init 139 = .ok (.aload_n 0, 1) := by decide +kernel
theorem dX10_init_140 : decode cX10_init 140 = .ok (.bipush 9, 2) := by decide +kernel
theorem dX10_init_142 : decode cX10_init 142 = .ok (.newarray .int, 2) := by decide +kernel
theorem dX10_init_144 : decode cX10_init 144 = .ok (.putfield 75, 3) := by decide +kernel
theorem dX10_init_147 : decode cX10_init 147 = .ok (.aload_n 0, 1) := by decide +kernel
theorem dX10_init_148 : decode cX10_init 148 = .ok (.bipush 6, 2) := by decide +kernel
theorem dX10_init_150 : decode cX10_init 150 = .ok (.newarray .int, 2) := by decide +kernel
theorem dX10_init_152 : decode cX10_init 152 = .ok (.putfield 78, 3) := by decide +kernel
theorem dX10_init_155 : decode cX10_init 155 = .ok (.aload_n 0, 1) := by decide +kernel
theorem dX10_init_156 : decode cX10_init 156 = .ok (.lconst 1, 1) := by decide +kernel
theorem dX10_init_157 : decode cX10_init 157 = .ok (.putfield 81, 3) := by decide +kernel
theorem dX10_init_160 : decode cX10_init 160 = .ok (.iconst 0, 1) := by decide +kernel
theorem dX10_init_161 : decode cX10_init 161 = .ok (.istore_n 1, 1) := by decide +kernel
theorem dX10_init_162 : decode cX10_init 162 = .ok (.iload_n 1, 1) := by decide +kernel
theorem dX10_init_163 : decode cX10_init 163 = .ok (.bipush 6, 2) := by decide +kernel
theorem dX10_init_165 : decode cX10_init 165 = .ok (.if_icmp .ge 22, 3) := by decide +kernel
theorem dX10_init_168 : decode cX10_init 168 = .ok (.aload_n 0, 1) := by decide +kernel
theorem dX10_init_169 : decode cX10_init 169 = .ok (.getfield 30, 3) := by decide +kernel
theorem dX10_init_172 : decode cX10_init 172 = .ok (.iload_n 1, 1) := by decide +kernel
theorem dX10_init_173 : decode cX10_init 173 = .ok (.new 28, 3) := by decide +kernel
theorem dX10_init_176 : decode cX10_init 176 = .ok (.dup, 1) := by decide +kernel
theorem dX10_init_177 : decode cX10_init 177 = .ok (.invokespecial 34, 3) := by decide +kernel
theorem dX10_init_180 : decode cX10_init 180 = .ok (.aastore, 1) := by decide +kernel
theorem dX10_init_181 : decode cX10_init 181 = .ok (.iinc 1 1, 3) := by decide +kernel
theorem dX10_init_184 : decode cX10_init 184 = .ok (.goto (-22), 3) := by decide +kernel
theorem dX10_init_187 : decode cX10_init 187 = .ok (.iconst 0, 1) := by decide +kernel
theorem dX10_init_188 : decode cX10_init 188 = .ok (.istore_n 1, 1) := by decide +kernel
theorem dX10_init_189 : decode cX10_init 189 = .ok (.iload_n 1, 1) := by decide +kernel
theorem dX10_init_190 : decode cX10_init 190 = .ok (.bipush 8, 2) := by decide +kernel
theorem dX10_init_192 : decode cX10_init 192 = .ok (.if_icmp .ge 22, 3) := by decide +kernel
theorem dX10_init_195 : decode cX10_init 195 = .ok (.aload_n 0, 1) := by decide +kernel
theorem dX10_init_196 : decode cX10_init 196 = .ok (.getfield 55, 3) := by decide +kernel
theorem dX10_init_199 : decode cX10_init 199 = .ok (.iload_n 1, 1) := by decide +kernel
theorem dX10_init_200 : decode cX10_init 200 = .ok (.new 53, 3) := by decide +kernel
theorem dX10_init_203 : decode cX10_init 203 = .ok (.dup, 1) := by decide +kernel
theorem dX10_init_204 : decode cX10_init 204 = .ok (.invokespecial 85, 3) := by decide +kernel
theorem dX10_init_207 : decode cX10_init 207 = .ok (.aastore, 1) := by decide +kernel
theorem dX10_init_208 : decode cX10_init 208 = .ok (.iinc 1 1, 3) := by decide +kernel
theorem dX10_init_211 : decode cX10_init 211 = .ok (.goto (-22), 3) := by decide +kernel
theorem dX10_init_214 : decode cX10_init 214 = .ok (.iconst 0, 1) := by decide +kernel
theorem dX10_init_215 : decode cX10_init 215 = .ok (.istore_n 1, 1) := by decide +kernel
theorem dX10_init_216 : decode cX10_init 216 = .ok (.iload_n 1, 1) := by decide +kernel
theorem dX10_init_217 : decode cX10_init 217 = .ok (.bipush 8, 2) := by decide +kernel
theorem dX10_init_219 : decode cX10_init 219 = .ok (.if_icmp .ge 22, 3) := by decide +kernel
theorem dX10_init_222 : decode cX10_init 222 = .ok (.aload_n 0, 1) := by decide +kernel
theorem dX10_init_223 : decode cX10_init 223 = .ok (.getfield 61, 3) := by decide +kernel
theorem dX10_init_226 : decode cX10_init 226 = .ok (.iload_n 1, 1) := by decide +kernel
theorem dX10_init_227 : decode cX10_init 227 = .ok (.new 59, 3) := by decide +kernel
theorem dX10_init_230 : decode cX10_init 230 = .ok (.dup, 1) := by decide +kernel
theorem dX10_init_231 : decode cX10_init 231 = .ok (.invokespecial 86, 3) := by decide +kernel
theorem dX10_init_234 : decode cX10_init 234 = .ok (.aastore, 1) := by decide +kernel
theorem dX10_init_235 : decode cX10_init 235 = .ok (.iinc 1 1, 3) := by decide +kernel
theorem dX10_init_238 : decode cX10_init 238 = .ok (.goto (-22), 3) := by decide +kernel
theorem dX10_init_241 : decode cX10_init 241 = .ok (.return_, 1) := by decide +kernel
set_option maxRecDepth 20000 in
theorem ggX10_row_X7_isNumber : GoodIn wsX10_row wsX7_isNumber := goodIn_r _ [6, 7, 39, 40] (by decide +kernel) (by decide +kernel)
set_option maxRecDepth 20000 in
theorem gX10_row_X7_isNumber : GoodIn wsX10_row (wsV RX10 87 RX7 yX7_isNumber wsX7_isNumber) := goodIn_app (goodIn_of _ (by decide +kernel)) ggX10_row_X7_isNumber
set_option maxRecDepth 20000 in
theorem ggX10_row_X10_found : GoodIn wsX10_row wsX10_found := goodIn_r _ [12, 13, 14, 20, 21, 22, 23, 24, 25, 26, 27, 28, 29, 30, 31, 32, 33, 34, 35, 36, 37, 38] (by decide +kernel) (by decide +kernel)
set_option maxRecDepth 20000 in
theorem gX10_row_X10_found : GoodIn wsX10_row (wsV RX10 91 RX10 yX10_found wsX10_found) := goodIn_app (goodIn_of _ (by decide +kernel)) ggX10_row_X10_found
set_option maxRecDepth 20000 in
theorem ggX10_row_X7_make : GoodIn wsX10_row wsX7_make := goodIn_r _ [18, 7, 19, 39, 40] (by decide +kernel) (by decide +kernel)
set_option maxRecDepth 20000 in
theorem gX10_row_X7_make : GoodIn wsX10_row (wsV RX10 95 RX7 yX7_make wsX7_make) := goodIn_app (goodIn_of _ (by decide +kernel)) ggX10_row_X7_make
theorem dX10_row_0 : decode cX10_row 0 = .ok (.aload_n 0, 1) := by decide +kernel
theorem dX10_row_1 : decode cX10_row 1 = .ok (.getfield 14, 3) := by decide +kernel
theorem dX10_row_4 : decode cX10_row 4 = .ok (.iload_n 1, 1) := by decide +kernel
theorem dX10_row_5 : decode cX10_row 5 = .ok (.invokevirtual 87, 3) := by decide +kernel
theorem dX10_row_8 : decode cX10_row 8 = .ok (.ifCond .eq 9, 3) := by decide +kernel
theorem dX10_row_11 : decode cX10_row 11 = .ok (.iload_n 2, 1) := by decide +kernel
theorem dX10_row_12 : decode cX10_row 12 = .ok (.bipush 48, 2) := by decide +kernel
theorem dX10_row_14 : decode cX10_row 14 = .ok (.if_icmp .le 5, 3) := by decide +kernel
theorem dX10_row_17 : decode cX10_row 17 = .ok (.iconst (-1), 1) := by decide +kernel
theorem dX10_row_18 : decode cX10_row 18 = .ok (.ireturn, 1) := by decide +kernel
theorem dX10_row_19 : decode cX10_row 19 = .ok (.iload_n 2, 1) := by decide +kernel
theorem dX10_row_20 : decode cX10_row 20 = .ok (.ifCond .ge 9, 3) := by decide +kernel
theorem dX10_row_23 : decode cX10_row 23 = .ok (.aload_n 0, 1) := by decide +kernel
theorem dX10_row_24 : decode cX10_row 24 = .ok (.iconst 5, 1) := by decide +kernel
theorem dX10_row_25 : decode cX10_row 25 = .ok (.invokevirtual 91, 3) := by decide +kernel
theorem dX10_row_28 : decode cX10_row 28 = .ok (.ireturn, 1) := by decide +kernel
theorem dX10_row_29 : decode cX10_row 29 = .ok (.aload_n 0, 1) := by decide +kernel
theorem dX10_row_30 : decode cX10_row 30 = .ok (.getfield 14, 3) := by decide +kernel
theorem dX10_row_33 : decode cX10_row 33 = .ok (.iload_n 1, 1) := by decide +kernel
theorem dX10_row_34 : decode cX10_row 34 = .ok (.iload_n 2, 1) := by decide +kernel
theorem dX10_row_35 : decode cX10_row 35 = .ok (.iconst 0, 1) := by decide +kernel
theorem dX10_row_36 : decode cX10_row 36 = .ok (.invokevirtual 95, 3) := by decide +kernel
theorem dX10_row_39 : decode cX10_row 39 = .ok (.iload_n 2, 1) := by decide +kernel
theorem dX10_row_40 : decode cX10_row 40 = .ok (.ireturn, 1) := by decide +kernel
set_option maxRecDepth 20000 in
theorem ggX10_lay_X7_isNumber : GoodIn wsX10_lay wsX7_isNumber := goodIn_r _ [9, 10, 48, 49] (by decide +kernel) (by decide +kernel)
set_option maxRecDepth 20000 in
theorem gX10_lay_X7_isNumber : GoodIn wsX10_lay (wsV RX10 87 RX7 yX7_isNumber wsX7_isNumber) := goodIn_app (goodIn_of _ (by decide +kernel)) ggX10_lay_X7_isNumber
set_option maxRecDepth 20000 in
theorem ggX10_lay_X10_within : GoodIn wsX10_lay wsX10_within := goodIn_r _ [14] (by decide +kernel) (by decide +kernel)
set_option maxRecDepth 20000 in
theorem gX10_lay_X10_within : GoodIn wsX10_lay (va_wsS RX10 101 yX10_within wsX10_within) := goodIn_app (goodIn_of _ (by decide +kernel)) ggX10_lay_X10_within
set_option maxRecDepth 20000 in
theorem ggX10_lay_X7_isThere : GoodIn wsX10_lay wsX7_isThere := goodIn_r _ [18, 10, 48, 49] (by decide +kernel) (by decide +kernel)
set_option maxRecDepth 20000 in
theorem gX10_lay_X7_isThere : GoodIn wsX10_lay (wsV RX10 105 RX7 yX7_isThere wsX7_isThere) := goodIn_app (goodIn_of _ (by decide +kernel)) ggX10_lay_X7_isThere
set_option maxRecDepth 20000 in
theorem ggX10_lay_X10_found : GoodIn wsX10_lay wsX10_found := goodIn_r _ [22, 23, 24, 29, 30, 31, 32, 33, 34, 35, 36, 37, 38, 39, 40, 41, 42, 43, 44, 45, 46, 47] (by decide +kernel) (by decide +kernel)
set_option maxRecDepth 20000 in
theorem gX10_lay_X10_found : GoodIn wsX10_lay (wsV RX10 91 RX10 yX10_found wsX10_found) := goodIn_app (goodIn_of _ (by decide +kernel)) ggX10_lay_X10_found
set_option maxRecDepth 20000 in
theorem ggX10_lay_X7_hasPlace : GoodIn wsX10_lay wsX7_hasPlace := goodIn_r _ [28, 10, 48, 49] (by decide +kernel) (by decide +kernel)
set_option maxRecDepth 20000 in
theorem gX10_lay_X7_hasPlace : GoodIn wsX10_lay (wsV RX10 108 RX7 yX7_hasPlace wsX7_hasPlace) := goodIn_app (goodIn_of _ (by decide +kernel)) ggX10_lay_X7_hasPlace
theorem dX10_lay_0 : decode cX10_lay 0 = .ok (.aload_n 0, 1) := by decide +kernel
theorem dX10_lay_1 : decode cX10_lay 1 = .ok (.getfield 14, 3) := by decide +kernel
theorem dX10_lay_4 : decode cX10_lay 4 = .ok (.iload_n 1, 1) := by decide +kernel
theorem dX10_lay_5 : decode cX10_lay 5 = .ok (.invokevirtual 87, 3) := by decide +kernel
theorem dX10_lay_8 : decode cX10_lay 8 = .ok (.ifCond .eq 14, 3) := by decide +kernel
theorem dX10_lay_11 : decode cX10_lay 11 = .ok (.iload_n 3, 1) := by decide +kernel
theorem dX10_lay_12 : decode cX10_lay 12 = .ok (.ldc 99, 2) := by decide +kernel
theorem dX10_lay_14 : decode cX10_lay 14 = .ok (.ldc 100, 2) := by decide +kernel
theorem dX10_lay_16 : decode cX10_lay 16 = .ok (.invokestatic 101, 3) := by decide +kernel
theorem dX10_lay_19 : decode cX10_lay 19 = .ok (.ifCond .ne 5, 3) := by decide +kernel
theorem dX10_lay_22 : decode cX10_lay 22 = .ok (.iconst (-1), 1) := by decide +kernel
theorem dX10_lay_23 : decode cX10_lay 23 = .ok (.ireturn, 1) := by decide +kernel
theorem dX10_lay_24 : decode cX10_lay 24 = .ok (.aload_n 0, 1) := by decide +kernel
theorem dX10_lay_25 : decode cX10_lay 25 = .ok (.getfield 14, 3) := by decide +kernel
theorem dX10_lay_28 : decode cX10_lay 28 = .ok (.iload_n 1, 1) := by decide +kernel
theorem dX10_lay_29 : decode cX10_lay 29 = .ok (.invokevirtual 105, 3) := by decide +kernel
theorem dX10_lay_32 : decode cX10_lay 32 = .ok (.ifCond .ne 9, 3) := by decide +kernel
theorem dX10_lay_35 : decode cX10_lay 35 = .ok (.aload_n 0, 1) := by decide +kernel
theorem dX10_lay_36 : decode cX10_lay 36 = .ok (.iconst 1, 1) := by decide +kernel
theorem dX10_lay_37 : decode cX10_lay 37 = .ok (.invokevirtual 91, 3) := by decide +kernel
theorem dX10_lay_40 : decode cX10_lay 40 = .ok (.ireturn, 1) := by decide +kernel
theorem dX10_lay_41 : decode cX10_lay 41 = .ok (.aload_n 0, 1) := by decide +kernel
theorem dX10_lay_42 : decode cX10_lay 42 = .ok (.getfield 14, 3) := by decide +kernel
theorem dX10_lay_45 : decode cX10_lay 45 = .ok (.iload_n 1, 1) := by decide +kernel
theorem dX10_lay_46 : decode cX10_lay 46 = .ok (.iload_n 2, 1) := by decide +kernel
theorem dX10_lay_47 : decode cX10_lay 47 = .ok (.invokevirtual 108, 3) := by decide +kernel
theorem dX10_lay_50 : decode cX10_lay 50 = .ok (.ifCond .ne 9, 3) := by decide +kernel
theorem dX10_lay_53 : decode cX10_lay 53 = .ok (.aload_n 0, 1) := by decide +kernel
theorem dX10_lay_54 : decode cX10_lay 54 = .ok (.iconst 2, 1) := by decide +kernel
theorem dX10_lay_55 : decode cX10_lay 55 = .ok (.invokevirtual 91, 3) := by decide +kernel
theorem dX10_lay_58 : decode cX10_lay 58 = .ok (.ireturn, 1) := by decide +kernel
theorem dX10_lay_59 : decode cX10_lay 59 = .ok (.aload_n 0, 1) := by decide +kernel
theorem dX10_lay_60 : decode cX10_lay 60 = .ok (.aload_n 0, 1) := by decide +kernel
theorem dX10_lay_61 : decode cX10_lay 61 = .ok (.getfield 14, 3) := by decide +kernel
theorem dX10_lay_64 : decode cX10_lay 64 = .ok (.getfield 112, 3) := by decide +kernel
theorem dX10_lay_67 : decode cX10_lay 67 = .ok (.iload_n 1, 1) := by decide +kernel
theorem dX10_lay_68 : decode cX10_lay 68 = .ok (.aaload, 1) := by decide +kernel
theorem dX10_lay_69 : decode cX10_lay 69 = .ok (.iload_n 2, 1) := by decide +kernel
theorem dX10_lay_70 : decode cX10_lay 70 = .ok (.iaload, 1) := by decide +kernel
theorem dX10_lay_71 : decode cX10_lay 71 = .ok (.putfield 116, 3) := by decide +kernel
theorem dX10_lay_74 : decode cX10_lay 74 = .ok (.aload_n 0, 1) := by decide +kernel
theorem dX10_lay_75 : decode cX10_lay 75 = .ok (.getfield 14, 3) := by decide +kernel
theorem dX10_lay_78 : decode cX10_lay 78 = .ok (.getfield 112, 3) := by decide +kernel
theorem dX10_lay_81 : decode cX10_lay 81 = .ok (.iload_n 1, 1) := by decide +kernel
theorem dX10_lay_82 : decode cX10_lay 82 = .ok (.aaload, 1) := by decide +kernel
theorem dX10_lay_83 : decode cX10_lay 83 = .ok (.iload_n 2, 1) := by decide +kernel
theorem dX10_lay_84 : decode cX10_lay 84 = .ok (.iload_n 3, 1) := by decide +kernel
theorem dX10_lay_85 : decode cX10_lay 85 = .ok (.iastore, 1) := by decide +kernel
theorem dX10_lay_86 : decode cX10_lay 86 = .ok (.iconst 1, 1) := by decide +kernel
theorem dX10_lay_87 : decode cX10_lay 87 = .ok (.ireturn, 1) := by decide +kernel
set_option maxRecDepth 20000 in
theorem ggX10_tear_X10_removed : GoodIn wsX10_tear wsX10_removed := goodIn_r _ [6, 7, 8, 9, 10, 11, 12, 13, 14, 15, 16, 17, 18, 19, 5, 20, 21, 22, 23, 24, 25, 26, 46, 47, 27, 28, 29, 30, 31, 32, 33, 34, 35, 36, 37, 38, 39, 40, 41, 42, 43, 44, 45] (by decide +kernel) (by decide +kernel)
set_option maxRecDepth 20000 in
theorem gX10_tear_X10_removed : GoodIn wsX10_tear (wsV RX10 120 RX10 yX10_removed wsX10_removed) := goodIn_app (goodIn_of _ (by decide +kernel)) ggX10_tear_X10_removed
theorem dX10_tear_0 : decode cX10_tear 0 = .ok (.aload_n 0, 1) := by decide +kernel
theorem dX10_tear_1 : decode cX10_tear 1 = .ok (.aload_n 0, 1) := by decide +kernel
theorem dX10_tear_2 : decode cX10_tear 2 = .ok (.getfield 14, 3) := by decide +kernel
theorem dX10_tear_5 : decode cX10_tear 5 = .ok (.iload_n 1, 1) := by decide +kernel
theorem dX10_tear_6 : decode cX10_tear 6 = .ok (.invokevirtual 120, 3) := by decide +kernel
theorem dX10_tear_9 : decode cX10_tear 9 = .ok (.ireturn, 1) := by decide +kernel
set_option maxRecDepth 20000 in
theorem ggX10_copy_X7_isNumber : GoodIn wsX10_copy wsX7_isNumber := goodIn_r _ [10, 11, 46, 47] (by decide +kernel) (by decide +kernel)
set_option maxRecDepth 20000 in
theorem gX10_copy_X7_isNumber : GoodIn wsX10_copy (wsV RX10 87 RX7 yX7_isNumber wsX7_isNumber) := goodIn_app (goodIn_of _ (by decide +kernel)) ggX10_copy_X7_isNumber
set_option maxRecDepth 20000 in
theorem ggX10_copy_X10_found : GoodIn wsX10_copy wsX10_found := goodIn_r _ [16, 17, 18, 27, 28, 29, 30, 31, 32, 33, 34, 35, 36, 37, 38, 39, 40, 41, 42, 43, 44, 45] (by decide +kernel) (by decide +kernel)
set_option maxRecDepth 20000 in
theorem gX10_copy_X10_found : GoodIn wsX10_copy (wsV RX10 91 RX10 yX10_found wsX10_found) := goodIn_app (goodIn_of _ (by decide +kernel)) ggX10_copy_X10_found
set_option maxRecDepth 20000 in
theorem ggX10_copy_X7_isThere : GoodIn wsX10_copy wsX7_isThere := goodIn_r _ [22, 11, 46, 47] (by decide +kernel) (by decide +kernel)
set_option maxRecDepth 20000 in
theorem gX10_copy_X7_isThere : GoodIn wsX10_copy (wsV RX10 105 RX7 yX7_isThere wsX7_isThere) := goodIn_app (goodIn_of _ (by decide +kernel)) ggX10_copy_X7_isThere
set_option maxRecDepth 20000 in
theorem ggX10_copy_X7_hasRun : GoodIn wsX10_copy wsX7_hasRun := goodIn_r _ [26, 11, 46, 47] (by decide +kernel) (by decide +kernel)
set_option maxRecDepth 20000 in
theorem gX10_copy_X7_hasRun : GoodIn wsX10_copy (wsV RX10 124 RX7 yX7_hasRun wsX7_hasRun) := goodIn_app (goodIn_of _ (by decide +kernel)) ggX10_copy_X7_hasRun
theorem dX10_copy_0 : decode cX10_copy 0 = .ok (.aload_n 0, 1) := by decide +kernel
theorem dX10_copy_1 : decode cX10_copy 1 = .ok (.getfield 14, 3) := by decide +kernel
theorem dX10_copy_4 : decode cX10_copy 4 = .ok (.iload_n 1, 1) := by decide +kernel
theorem dX10_copy_5 : decode cX10_copy 5 = .ok (.invokevirtual 87, 3) := by decide +kernel
theorem dX10_copy_8 : decode cX10_copy 8 = .ok (.ifCond .eq 14, 3) := by decide +kernel
theorem dX10_copy_11 : decode cX10_copy 11 = .ok (.aload_n 0, 1) := by decide +kernel
theorem dX10_copy_12 : decode cX10_copy 12 = .ok (.getfield 14, 3) := by decide +kernel
theorem dX10_copy_15 : decode cX10_copy 15 = .ok (.iload_n 3, 1) := by decide +kernel
theorem dX10_copy_16 : decode cX10_copy 16 = .ok (.invokevirtual 87, 3) := by decide +kernel
theorem dX10_copy_19 : decode cX10_copy 19 = .ok (.ifCond .ne 5, 3) := by decide +kernel
theorem dX10_copy_22 : decode cX10_copy 22 = .ok (.iconst (-1), 1) := by decide +kernel
theorem dX10_copy_23 : decode cX10_copy 23 = .ok (.ireturn, 1) := by decide +kernel
theorem dX10_copy_24 : decode cX10_copy 24 = .ok (.iload 5, 2) := by decide +kernel
theorem dX10_copy_26 : decode cX10_copy 26 = .ok (.ifCond .ge 9, 3) := by decide +kernel
theorem dX10_copy_29 : decode cX10_copy 29 = .ok (.aload_n 0, 1) := by decide +kernel
theorem dX10_copy_30 : decode cX10_copy 30 = .ok (.iconst 5, 1) := by decide +kernel
theorem dX10_copy_31 : decode cX10_copy 31 = .ok (.invokevirtual 91, 3) := by decide +kernel
theorem dX10_copy_34 : decode cX10_copy 34 = .ok (.ireturn, 1) := by decide +kernel
theorem dX10_copy_35 : decode cX10_copy 35 = .ok (.aload_n 0, 1) := by decide +kernel
theorem dX10_copy_36 : decode cX10_copy 36 = .ok (.getfield 14, 3) := by decide +kernel
theorem dX10_copy_39 : decode cX10_copy 39 = .ok (.iload_n 1, 1) := by decide +kernel
theorem dX10_copy_40 : decode cX10_copy 40 = .ok (.invokevirtual 105, 3) := by decide +kernel
theorem dX10_copy_43 : decode cX10_copy 43 = .ok (.ifCond .eq 14, 3) := by decide +kernel
theorem dX10_copy_46 : decode cX10_copy 46 = .ok (.aload_n 0, 1) := by decide +kernel
theorem dX10_copy_47 : decode cX10_copy 47 = .ok (.getfield 14, 3) := by decide +kernel
theorem dX10_copy_50 : decode cX10_copy 50 = .ok (.iload_n 3, 1) := by decide +kernel
theorem dX10_copy_51 : decode cX10_copy 51 = .ok (.invokevirtual 105, 3) := by decide +kernel
theorem dX10_copy_54 : decode cX10_copy 54 = .ok (.ifCond .ne 9, 3) := by decide +kernel
theorem dX10_copy_57 : decode cX10_copy 57 = .ok (.aload_n 0, 1) := by decide +kernel
theorem dX10_copy_58 : decode cX10_copy 58 = .ok (.iconst 1, 1) := by decide +kernel
theorem dX10_copy_59 : decode cX10_copy 59 = .ok (.invokevirtual 91, 3) := by decide +kernel
theorem dX10_copy_62 : decode cX10_copy 62 = .ok (.ireturn, 1) := by decide +kernel
theorem dX10_copy_63 : decode cX10_copy 63 = .ok (.aload_n 0, 1) := by decide +kernel
theorem dX10_copy_64 : decode cX10_copy 64 = .ok (.getfield 14, 3) := by decide +kernel
theorem dX10_copy_67 : decode cX10_copy 67 = .ok (.iload_n 1, 1) := by decide +kernel
theorem dX10_copy_68 : decode cX10_copy 68 = .ok (.iload_n 2, 1) := by decide +kernel
theorem dX10_copy_69 : decode cX10_copy 69 = .ok (.iload 5, 2) := by decide +kernel
theorem dX10_copy_71 : decode cX10_copy 71 = .ok (.invokevirtual 124, 3) := by decide +kernel
theorem dX10_copy_74 : decode cX10_copy 74 = .ok (.ifCond .eq 18, 3) := by decide +kernel
theorem dX10_copy_77 : decode cX10_copy 77 = .ok (.aload_n 0, 1) := by decide +kernel
theorem dX10_copy_78 : decode cX10_copy 78 = .ok (.getfield 14, 3) := by decide +kernel
theorem dX10_copy_81 : decode cX10_copy 81 = .ok (.iload_n 3, 1) := by decide +kernel
theorem dX10_copy_82 : decode cX10_copy 82 = .ok (.iload 4, 2) := by decide +kernel
theorem dX10_copy_84 : decode cX10_copy 84 = .ok (.iload 5, 2) := by decide +kernel
theorem dX10_copy_86 : decode cX10_copy 86 = .ok (.invokevirtual 124, 3) := by decide +kernel
theorem dX10_copy_89 : decode cX10_copy 89 = .ok (.ifCond .ne 9, 3) := by decide +kernel
theorem dX10_copy_92 : decode cX10_copy 92 = .ok (.aload_n 0, 1) := by decide +kernel
theorem dX10_copy_93 : decode cX10_copy 93 = .ok (.iconst 2, 1) := by decide +kernel
theorem dX10_copy_94 : decode cX10_copy 94 = .ok (.invokevirtual 91, 3) := by decide +kernel
theorem dX10_copy_97 : decode cX10_copy 97 = .ok (.ireturn, 1) := by decide +kernel
theorem dX10_copy_98 : decode cX10_copy 98 = .ok (.aload_n 0, 1) := by decide +kernel
theorem dX10_copy_99 : decode cX10_copy 99 = .ok (.getfield 14, 3) := by decide +kernel
theorem dX10_copy_102 : decode cX10_copy 102 = .ok (.getfield 112, 3) := by decide +kernel
theorem dX10_copy_105 : decode cX10_copy 105 = .ok (.iload_n 1, 1) := by decide +kernel
theorem dX10_copy_106 : decode cX10_copy 106 = .ok (.aaload, 1) := by decide +kernel
theorem dX10_copy_107 : decode cX10_copy 107 = .ok (.iload_n 2, 1) := by decide +kernel
theorem dX10_copy_108 : decode cX10_copy 108 = .ok (.aload_n 0, 1) := by decide +kernel
theorem dX10_copy_109 : decode cX10_copy 109 = .ok (.getfield 14, 3) := by decide +kernel
theorem dX10_copy_112 : decode cX10_copy 112 = .ok (.getfield 112, 3) := by decide +kernel
theorem dX10_copy_115 : decode cX10_copy 115 = .ok (.iload_n 3, 1) := by decide +kernel
theorem dX10_copy_116 : decode cX10_copy 116 = .ok (.aaload, 1) := by decide +kernel
theorem dX10_copy_117 : decode cX10_copy 117 = .ok (.iload 4, 2) := by decide +kernel
theorem dX10_copy_119 : decode cX10_copy 119 = .ok (.iload 5, 2) := by decide +kernel
theorem dX10_copy_121 : decode cX10_copy 121 = .ok (.invokestatic 127, 3) := by decide +kernel
theorem dX10_copy_124 : decode cX10_copy 124 = .ok (.iconst 1, 1) := by decide +kernel
theorem dX10_copy_125 : decode cX10_copy 125 = .ok (.ireturn, 1) := by decide +kernel
set_option maxRecDepth 20000 in
theorem ggX10_mean_X7_isNumber : GoodIn wsX10_mean wsX7_isNumber := goodIn_r _ [7, 8, 43, 44] (by decide +kernel) (by decide +kernel)
set_option maxRecDepth 20000 in
theorem gX10_mean_X7_isNumber : GoodIn wsX10_mean (wsV RX10 87 RX7 yX7_isNumber wsX7_isNumber) := goodIn_app (goodIn_of _ (by decide +kernel)) ggX10_mean_X7_isNumber
set_option maxRecDepth 20000 in
theorem ggX10_mean_X7_isThere : GoodIn wsX10_mean wsX7_isThere := goodIn_r _ [12, 8, 43, 44] (by decide +kernel) (by decide +kernel)
set_option maxRecDepth 20000 in
theorem gX10_mean_X7_isThere : GoodIn wsX10_mean (wsV RX10 105 RX7 yX7_isThere wsX7_isThere) := goodIn_app (goodIn_of _ (by decide +kernel)) ggX10_mean_X7_isThere
set_option maxRecDepth 20000 in
theorem ggX10_mean_X10_found : GoodIn wsX10_mean wsX10_found := goodIn_r _ [17, 18, 19, 24, 25, 26, 27, 28, 29, 30, 31, 32, 33, 34, 35, 36, 37, 38, 39, 40, 41, 42] (by decide +kernel) (by decide +kernel)
set_option maxRecDepth 20000 in
theorem gX10_mean_X10_found : GoodIn wsX10_mean (wsV RX10 91 RX10 yX10_found wsX10_found) := goodIn_app (goodIn_of _ (by decide +kernel)) ggX10_mean_X10_found
set_option maxRecDepth 20000 in
theorem ggX10_mean_X10_knownPlaces : GoodIn wsX10_mean wsX10_knownPlaces := goodIn_r _ [23, 1, 24, 25, 26, 27, 28, 29, 30, 31, 32, 33, 34, 35, 36, 37, 38, 39, 40, 41, 42, 43, 44] (by decide +kernel) (by decide +kernel)
set_option maxRecDepth 20000 in
theorem gX10_mean_X10_knownPlaces : GoodIn wsX10_mean (wsV RX10 133 RX10 yX10_knownPlaces wsX10_knownPlaces) := goodIn_app (goodIn_of _ (by decide +kernel)) ggX10_mean_X10_knownPlaces
theorem dX10_mean_0 : decode cX10_mean 0 = .ok (.aload_n 0, 1) := by decide +kernel
theorem dX10_mean_1 : decode cX10_mean 1 = .ok (.getfield 14, 3) := by decide +kernel
theorem dX10_mean_4 : decode cX10_mean 4 = .ok (.iload_n 1, 1) := by decide +kernel
theorem dX10_mean_5 : decode cX10_mean 5 = .ok (.invokevirtual 87, 3) := by decide +kernel
theorem dX10_mean_8 : decode cX10_mean 8 = .ok (.ifCond .ne 5, 3) := by decide +kernel
theorem dX10_mean_11 : decode cX10_mean 11 = .ok (.iconst (-1), 1) := by decide +kernel
theorem dX10_mean_12 : decode cX10_mean 12 = .ok (.ireturn, 1) := by decide +kernel
theorem dX10_mean_13 : decode cX10_mean 13 = .ok (.aload_n 0, 1) := by decide +kernel
theorem dX10_mean_14 : decode cX10_mean 14 = .ok (.getfield 14, 3) := by decide +kernel
theorem dX10_mean_17 : decode cX10_mean 17 = .ok (.iload_n 1, 1) := by decide +kernel
theorem dX10_mean_18 : decode cX10_mean 18 = .ok (.invokevirtual 105, 3) := by decide +kernel
theorem dX10_mean_21 : decode cX10_mean 21 = .ok (.ifCond .ne 9, 3) := by decide +kernel
theorem dX10_mean_24 : decode cX10_mean 24 = .ok (.aload_n 0, 1) := by decide +kernel
theorem dX10_mean_25 : decode cX10_mean 25 = .ok (.iconst 1, 1) := by decide +kernel
theorem dX10_mean_26 : decode cX10_mean 26 = .ok (.invokevirtual 91, 3) := by decide +kernel
theorem dX10_mean_29 : decode cX10_mean 29 = .ok (.ireturn, 1) := by decide +kernel
theorem dX10_mean_30 : decode cX10_mean 30 = .ok (.aload_n 0, 1) := by decide +kernel
theorem dX10_mean_31 : decode cX10_mean 31 = .ok (.iload_n 1, 1) := by decide +kernel
theorem dX10_mean_32 : decode cX10_mean 32 = .ok (.invokevirtual 133, 3) := by decide +kernel
theorem dX10_mean_35 : decode cX10_mean 35 = .ok (.istore_n 2, 1) := by decide +kernel
theorem dX10_mean_36 : decode cX10_mean 36 = .ok (.iload_n 2, 1) := by decide +kernel
theorem dX10_mean_37 : decode cX10_mean 37 = .ok (.ifCond .gt 9, 3) := by decide +kernel
theorem dX10_mean_40 : decode cX10_mean 40 = .ok (.aload_n 0, 1) := by decide +kernel
theorem dX10_mean_41 : decode cX10_mean 41 = .ok (.iconst 4, 1) := by decide +kernel
theorem dX10_mean_42 : decode cX10_mean 42 = .ok (.invokevirtual 91, 3) := by decide +kernel
theorem dX10_mean_45 : decode cX10_mean 45 = .ok (.ireturn, 1) := by decide +kernel
theorem dX10_mean_46 : decode cX10_mean 46 = .ok (.iconst 0, 1) := by decide +kernel
theorem dX10_mean_47 : decode cX10_mean 47 = .ok (.istore_n 3, 1) := by decide +kernel
theorem dX10_mean_48 : decode cX10_mean 48 = .ok (.iconst 0, 1) := by decide +kernel
theorem dX10_mean_49 : decode cX10_mean 49 = .ok (.istore 4, 2) := by decide +kernel
theorem dX10_mean_51 : decode cX10_mean 51 = .ok (.iload 4, 2) := by decide +kernel
theorem dX10_mean_53 : decode cX10_mean 53 = .ok (.aload_n 0, 1) := by decide +kernel
theorem dX10_mean_54 : decode cX10_mean 54 = .ok (.getfield 14, 3) := by decide +kernel
theorem dX10_mean_57 : decode cX10_mean 57 = .ok (.getfield 136, 3) := by decide +kernel
theorem dX10_mean_60 : decode cX10_mean 60 = .ok (.iload_n 1, 1) := by decide +kernel
theorem dX10_mean_61 : decode cX10_mean 61 = .ok (.iaload, 1) := by decide +kernel
theorem dX10_mean_62 : decode cX10_mean 62 = .ok (.if_icmp .ge 41, 3) := by decide +kernel
theorem dX10_mean_65 : decode cX10_mean 65 = .ok (.aload_n 0, 1) := by decide +kernel
theorem dX10_mean_66 : decode cX10_mean 66 = .ok (.getfield 14, 3) := by decide +kernel
theorem dX10_mean_69 : decode cX10_mean 69 = .ok (.getfield 112, 3) := by decide +kernel
theorem dX10_mean_72 : decode cX10_mean 72 = .ok (.iload_n 1, 1) := by decide +kernel
theorem dX10_mean_73 : decode cX10_mean 73 = .ok (.aaload, 1) := by decide +kernel
theorem dX10_mean_74 : decode cX10_mean 74 = .ok (.iload 4, 2) := by decide +kernel
theorem dX10_mean_76 : decode cX10_mean 76 = .ok (.iaload, 1) := by decide +kernel
theorem dX10_mean_77 : decode cX10_mean 77 = .ok (.bipush (-9), 2) := by decide +kernel
theorem dX10_mean_79 : decode cX10_mean 79 = .ok (.if_icmp .eq 18, 3) := by decide +kernel
theorem dX10_mean_82 : decode cX10_mean 82 = .ok (.iload_n 3, 1) := by decide +kernel
theorem dX10_mean_83 : decode cX10_mean 83 = .ok (.aload_n 0, 1) := by decide +kernel
theorem dX10_mean_84 : decode cX10_mean 84 = .ok (.getfield 14, 3) := by decide +kernel
theorem dX10_mean_87 : decode cX10_mean 87 = .ok (.getfield 112, 3) := by decide +kernel
theorem dX10_mean_90 : decode cX10_mean 90 = .ok (.iload_n 1, 1) := by decide +kernel
theorem dX10_mean_91 : decode cX10_mean 91 = .ok (.aaload, 1) := by decide +kernel
theorem dX10_mean_92 : decode cX10_mean 92 = .ok (.iload 4, 2) := by decide +kernel
theorem dX10_mean_94 : decode cX10_mean 94 = .ok (.iaload, 1) := by decide +kernel
theorem dX10_mean_95 : decode cX10_mean 95 = .ok (.iadd, 1) := by decide +kernel
theorem dX10_mean_96 : decode cX10_mean 96 = .ok (.istore_n 3, 1) := by decide +kernel
theorem dX10_mean_97 : decode cX10_mean 97 = .ok (.iinc 4 1, 3) := by decide +kernel
theorem dX10_mean_100 : decode cX10_mean 100 = .ok (.goto (-49), 3) := by decide +kernel
theorem dX10_mean_103 : decode cX10_mean 103 = .ok (.aload_n 0, 1) := by decide +kernel
theorem dX10_mean_104 : decode cX10_mean 104 = .ok (.iload_n 3, 1) := by decide +kernel
theorem dX10_mean_105 : decode cX10_mean 105 = .ok (.iload_n 2, 1) := by decide +kernel
theorem dX10_mean_106 : decode cX10_mean 106 = .ok (.idiv, 1) := by decide +kernel
theorem dX10_mean_107 : decode cX10_mean 107 = .ok (.putfield 116, 3) := by decide +kernel
theorem dX10_mean_110 : decode cX10_mean 110 = .ok (.iconst 1, 1) := by decide +kernel
theorem dX10_mean_111 : decode cX10_mean 111 = .ok (.ireturn, 1) := by decide +kernel
set_option maxRecDepth 20000 in
theorem ggX10_text_X7_isNumber : GoodIn wsX10_text wsX7_isNumber := goodIn_r _ [6, 7, 39, 40] (by decide +kernel) (by decide +kernel)
set_option maxRecDepth 20000 in
theorem gX10_text_X7_isNumber : GoodIn wsX10_text (wsV RX10 87 RX7 yX7_isNumber wsX7_isNumber) := goodIn_app (goodIn_of _ (by decide +kernel)) ggX10_text_X7_isNumber
set_option maxRecDepth 20000 in
theorem ggX10_text_X10_found : GoodIn wsX10_text wsX10_found := goodIn_r _ [12, 13, 14, 20, 21, 22, 23, 24, 25, 26, 27, 28, 29, 30, 31, 32, 33, 34, 35, 36, 37, 38] (by decide +kernel) (by decide +kernel)
set_option maxRecDepth 20000 in
theorem gX10_text_X10_found : GoodIn wsX10_text (wsV RX10 91 RX10 yX10_found wsX10_found) := goodIn_app (goodIn_of _ (by decide +kernel)) ggX10_text_X10_found
set_option maxRecDepth 20000 in
theorem ggX10_text_X7_make : GoodIn wsX10_text wsX7_make := goodIn_r _ [18, 7, 19, 39, 40] (by decide +kernel) (by decide +kernel)
set_option maxRecDepth 20000 in
theorem gX10_text_X7_make : GoodIn wsX10_text (wsV RX10 95 RX7 yX7_make wsX7_make) := goodIn_app (goodIn_of _ (by decide +kernel)) ggX10_text_X7_make
theorem dX10_text_0 : decode cX10_text 0 = .ok (.aload_n 0, 1) := by decide +kernel
theorem dX10_text_1 : decode cX10_text 1 = .ok (.getfield 18, 3) := by decide +kernel
theorem dX10_text_4 : decode cX10_text 4 = .ok (.iload_n 1, 1) := by decide +kernel
theorem dX10_text_5 : decode cX10_text 5 = .ok (.invokevirtual 87, 3) := by decide +kernel
theorem dX10_text_8 : decode cX10_text 8 = .ok (.ifCond .eq 9, 3) := by decide +kernel
theorem dX10_text_11 : decode cX10_text 11 = .ok (.iload_n 2, 1) := by decide +kernel
theorem dX10_text_12 : decode cX10_text 12 = .ok (.bipush 40, 2) := by decide +kernel
theorem dX10_text_14 : decode cX10_text 14 = .ok (.if_icmp .le 5, 3) := by decide +kernel
theorem dX10_text_17 : decode cX10_text 17 = .ok (.iconst (-1), 1) := by decide +kernel
theorem dX10_text_18 : decode cX10_text 18 = .ok (.ireturn, 1) := by decide +kernel
theorem dX10_text_19 : decode cX10_text 19 = .ok (.iload_n 2, 1) := by decide +kernel
theorem dX10_text_20 : decode cX10_text 20 = .ok (.ifCond .ge 9, 3) := by decide +kernel
theorem dX10_text_23 : decode cX10_text 23 = .ok (.aload_n 0, 1) := by decide +kernel
theorem dX10_text_24 : decode cX10_text 24 = .ok (.iconst 5, 1) := by decide +kernel
theorem dX10_text_25 : decode cX10_text 25 = .ok (.invokevirtual 91, 3) := by decide +kernel
theorem dX10_text_28 : decode cX10_text 28 = .ok (.ireturn, 1) := by decide +kernel
theorem dX10_text_29 : decode cX10_text 29 = .ok (.aload_n 0, 1) := by decide +kernel
theorem dX10_text_30 : decode cX10_text 30 = .ok (.getfield 18, 3) := by decide +kernel
theorem dX10_text_33 : decode cX10_text 33 = .ok (.iload_n 1, 1) := by decide +kernel
theorem dX10_text_34 : decode cX10_text 34 = .ok (.iload_n 2, 1) := by decide +kernel
theorem dX10_text_35 : decode cX10_text 35 = .ok (.bipush 32, 2) := by decide +kernel
theorem dX10_text_37 : decode cX10_text 37 = .ok (.invokevirtual 95, 3) := by decide +kernel
theorem dX10_text_40 : decode cX10_text 40 = .ok (.iload_n 2, 1) := by decide +kernel
theorem dX10_text_41 : decode cX10_text 41 = .ok (.ireturn, 1) := by decide +kernel
set_option maxRecDepth 20000 in
theorem ggX10_put_X7_isNumber : GoodIn wsX10_put wsX7_isNumber := goodIn_r _ [6, 7, 42, 43] (by decide +kernel) (by decide +kernel)
set_option maxRecDepth 20000 in
theorem gX10_put_X7_isNumber : GoodIn wsX10_put (wsV RX10 87 RX7 yX7_isNumber wsX7_isNumber) := goodIn_app (goodIn_of _ (by decide +kernel)) ggX10_put_X7_isNumber
set_option maxRecDepth 20000 in
theorem ggX10_put_X7_isThere : GoodIn wsX10_put wsX7_isThere := goodIn_r _ [11, 7, 42, 43] (by decide +kernel) (by decide +kernel)
set_option maxRecDepth 20000 in
theorem gX10_put_X7_isThere : GoodIn wsX10_put (wsV RX10 105 RX7 yX7_isThere wsX7_isThere) := goodIn_app (goodIn_of _ (by decide +kernel)) ggX10_put_X7_isThere
set_option maxRecDepth 20000 in
theorem ggX10_put_X10_found : GoodIn wsX10_put wsX10_found := goodIn_r _ [16, 17, 18, 23, 24, 25, 26, 27, 28, 29, 30, 31, 32, 33, 34, 35, 36, 37, 38, 39, 40, 41] (by decide +kernel) (by decide +kernel)
set_option maxRecDepth 20000 in
theorem gX10_put_X10_found : GoodIn wsX10_put (wsV RX10 91 RX10 yX10_found wsX10_found) := goodIn_app (goodIn_of _ (by decide +kernel)) ggX10_put_X10_found
set_option maxRecDepth 20000 in
theorem ggX10_put_X7_hasPlace : GoodIn wsX10_put wsX7_hasPlace := goodIn_r _ [22, 7, 42, 43] (by decide +kernel) (by decide +kernel)
set_option maxRecDepth 20000 in
theorem gX10_put_X7_hasPlace : GoodIn wsX10_put (wsV RX10 108 RX7 yX7_hasPlace wsX7_hasPlace) := goodIn_app (goodIn_of _ (by decide +kernel)) ggX10_put_X7_hasPlace
theorem dX10_put_0 : decode cX10_put 0 = .ok (.aload_n 0, 1) := by decide +kernel
theorem dX10_put_1 : decode cX10_put 1 = .ok (.getfield 18, 3) := by decide +kernel
theorem dX10_put_4 : decode cX10_put 4 = .ok (.iload_n 1, 1) := by decide +kernel
theorem dX10_put_5 : decode cX10_put 5 = .ok (.invokevirtual 87, 3) := by decide +kernel
theorem dX10_put_8 : decode cX10_put 8 = .ok (.ifCond .ne 5, 3) := by decide +kernel
theorem dX10_put_11 : decode cX10_put 11 = .ok (.iconst (-1), 1) := by decide +kernel
theorem dX10_put_12 : decode cX10_put 12 = .ok (.ireturn, 1) := by decide +kernel
theorem dX10_put_13 : decode cX10_put 13 = .ok (.aload_n 0, 1) := by decide +kernel
theorem dX10_put_14 : decode cX10_put 14 = .ok (.getfield 18, 3) := by decide +kernel
theorem dX10_put_17 : decode cX10_put 17 = .ok (.iload_n 1, 1) := by decide +kernel
theorem dX10_put_18 : decode cX10_put 18 = .ok (.invokevirtual 105, 3) := by decide +kernel
theorem dX10_put_21 : decode cX10_put 21 = .ok (.ifCond .ne 9, 3) := by decide +kernel
theorem dX10_put_24 : decode cX10_put 24 = .ok (.aload_n 0, 1) := by decide +kernel
theorem dX10_put_25 : decode cX10_put 25 = .ok (.iconst 1, 1) := by decide +kernel
theorem dX10_put_26 : decode cX10_put 26 = .ok (.invokevirtual 91, 3) := by decide +kernel
theorem dX10_put_29 : decode cX10_put 29 = .ok (.ireturn, 1) := by decide +kernel
theorem dX10_put_30 : decode cX10_put 30 = .ok (.aload_n 0, 1) := by decide +kernel
theorem dX10_put_31 : decode cX10_put 31 = .ok (.getfield 18, 3) := by decide +kernel
theorem dX10_put_34 : decode cX10_put 34 = .ok (.iload_n 1, 1) := by decide +kernel
theorem dX10_put_35 : decode cX10_put 35 = .ok (.iload_n 2, 1) := by decide +kernel
theorem dX10_put_36 : decode cX10_put 36 = .ok (.invokevirtual 108, 3) := by decide +kernel
theorem dX10_put_39 : decode cX10_put 39 = .ok (.ifCond .ne 9, 3) := by decide +kernel
theorem dX10_put_42 : decode cX10_put 42 = .ok (.aload_n 0, 1) := by decide +kernel
theorem dX10_put_43 : decode cX10_put 43 = .ok (.iconst 2, 1) := by decide +kernel
theorem dX10_put_44 : decode cX10_put 44 = .ok (.invokevirtual 91, 3) := by decide +kernel
theorem dX10_put_47 : decode cX10_put 47 = .ok (.ireturn, 1) := by decide +kernel
theorem dX10_put_48 : decode cX10_put 48 = .ok (.aload_n 0, 1) := by decide +kernel
theorem dX10_put_49 : decode cX10_put 49 = .ok (.getfield 18, 3) := by decide +kernel
theorem dX10_put_52 : decode cX10_put 52 = .ok (.getfield 112, 3) := by decide +kernel
theorem dX10_put_55 : decode cX10_put 55 = .ok (.iload_n 1, 1) := by decide +kernel
theorem dX10_put_56 : decode cX10_put 56 = .ok (.aaload, 1) := by decide +kernel
theorem dX10_put_57 : decode cX10_put 57 = .ok (.iload_n 2, 1) := by decide +kernel
theorem dX10_put_58 : decode cX10_put 58 = .ok (.iaload, 1) := by decide +kernel
theorem dX10_put_59 : decode cX10_put 59 = .ok (.istore 4, 2) := by decide +kernel
theorem dX10_put_61 : decode cX10_put 61 = .ok (.aload_n 0, 1) := by decide +kernel
theorem dX10_put_62 : decode cX10_put 62 = .ok (.getfield 18, 3) := by decide +kernel
theorem dX10_put_65 : decode cX10_put 65 = .ok (.getfield 112, 3) := by decide +kernel
theorem dX10_put_68 : decode cX10_put 68 = .ok (.iload_n 1, 1) := by decide +kernel
theorem dX10_put_69 : decode cX10_put 69 = .ok (.aaload, 1) := by decide +kernel
theorem dX10_put_70 : decode cX10_put 70 = .ok (.iload_n 2, 1) := by decide +kernel
theorem dX10_put_71 : decode cX10_put 71 = .ok (.iload_n 3, 1) := by decide +kernel
theorem dX10_put_72 : decode cX10_put 72 = .ok (.i2b, 1) := by decide +kernel
theorem dX10_put_73 : decode cX10_put 73 = .ok (.iastore, 1) := by decide +kernel
theorem dX10_put_74 : decode cX10_put 74 = .ok (.iload 4, 2) := by decide +kernel
theorem dX10_put_76 : decode cX10_put 76 = .ok (.sipush 1000, 3) := by decide +kernel
theorem dX10_put_79 : decode cX10_put 79 = .ok (.iadd, 1) := by decide +kernel
theorem dX10_put_80 : decode cX10_put 80 = .ok (.ireturn, 1) := by decide +kernel
set_option maxRecDepth 20000 in
theorem ggX10_burn_X10_removed : GoodIn wsX10_burn wsX10_removed := goodIn_r _ [6, 7, 8, 9, 10, 11, 12, 13, 14, 15, 16, 17, 18, 19, 5, 20, 21, 22, 23, 24, 25, 26, 46, 47, 27, 28, 29, 30, 31, 32, 33, 34, 35, 36, 37, 38, 39, 40, 41, 42, 43, 44, 45] (by decide +kernel) (by decide +kernel)
set_option maxRecDepth 20000 in
theorem gX10_burn_X10_removed : GoodIn wsX10_burn (wsV RX10 120 RX10 yX10_removed wsX10_removed) := goodIn_app (goodIn_of _ (by decide +kernel)) ggX10_burn_X10_removed
theorem dX10_burn_0 : decode cX10_burn 0 = .ok (.aload_n 0, 1) := by decide +kernel
theorem dX10_burn_1 : decode cX10_burn 1 = .ok (.aload_n 0, 1) := by decide +kernel
theorem dX10_burn_2 : decode cX10_burn 2 = .ok (.getfield 18, 3) := by decide +kernel
theorem dX10_burn_5 : decode cX10_burn 5 = .ok (.iload_n 1, 1) := by decide +kernel
theorem dX10_burn_6 : decode cX10_burn 6 = .ok (.invokevirtual 120, 3) := by decide +kernel
theorem dX10_burn_9 : decode cX10_burn 9 = .ok (.ireturn, 1) := by decide +kernel
set_option maxRecDepth 20000 in
theorem ggX10_fault_X7_isNumber : GoodIn wsX10_fault wsX7_isNumber := goodIn_r _ [6, 7, 79, 80] (by decide +kernel) (by decide +kernel)
set_option maxRecDepth 20000 in
theorem gX10_fault_X7_isNumber : GoodIn wsX10_fault (wsV RX10 87 RX7 yX7_isNumber wsX7_isNumber) := goodIn_app (goodIn_of _ (by decide +kernel)) ggX10_fault_X7_isNumber
set_option maxRecDepth 20000 in
theorem ggX10_fault_X7_isThere : GoodIn wsX10_fault wsX7_isThere := goodIn_r _ [11, 7, 79, 80] (by decide +kernel) (by decide +kernel)
set_option maxRecDepth 20000 in
theorem gX10_fault_X7_isThere : GoodIn wsX10_fault (wsV RX10 105 RX7 yX7_isThere wsX7_isThere) := goodIn_app (goodIn_of _ (by decide +kernel)) ggX10_fault_X7_isThere
set_option maxRecDepth 20000 in
theorem ggX10_fault_X10_found : GoodIn wsX10_fault wsX10_found := goodIn_r _ [16, 17, 18, 60, 61, 62, 63, 64, 65, 66, 67, 68, 69, 70, 71, 72, 73, 74, 75, 76, 77, 78] (by decide +kernel) (by decide +kernel)
set_option maxRecDepth 20000 in
theorem gX10_fault_X10_found : GoodIn wsX10_fault (wsV RX10 91 RX10 yX10_found wsX10_found) := goodIn_app (goodIn_of _ (by decide +kernel)) ggX10_fault_X10_found
set_option maxRecDepth 20000 in
theorem ggX10_fault_X10_faultOf : GoodIn wsX10_fault wsX10_faultOf := goodIn_r _ [22, 23, 1, 24, 25, 26, 27, 28, 29, 30, 31, 32, 33, 34, 35, 36, 37, 38, 39, 40, 41, 42, 43, 44, 45, 46, 47, 48, 49, 50, 51, 52, 53, 54, 55, 56, 57, 58, 59, 60, 61, 62, 63, 64, 65, 66, 67, 68, 69, 70, 71, 72, 73, 74, 75, 76, 77, 78, 79, 80, 81, 82, 83, 84, 85, 86, 87] (by decide +kernel) (by decide +kernel)
set_option maxRecDepth 20000 in
theorem gX10_fault_X10_faultOf : GoodIn wsX10_fault (wsV RX10 139 RX10 yX10_faultOf wsX10_faultOf) := goodIn_app (goodIn_of _ (by decide +kernel)) ggX10_fault_X10_faultOf
theorem dX10_fault_0 : decode cX10_fault 0 = .ok (.aload_n 0, 1) := by decide +kernel
theorem dX10_fault_1 : decode cX10_fault 1 = .ok (.getfield 18, 3) := by decide +kernel
theorem dX10_fault_4 : decode cX10_fault 4 = .ok (.iload_n 1, 1) := by decide +kernel
theorem dX10_fault_5 : decode cX10_fault 5 = .ok (.invokevirtual 87, 3) := by decide +kernel
theorem dX10_fault_8 : decode cX10_fault 8 = .ok (.ifCond .ne 5, 3) := by decide +kernel
theorem dX10_fault_11 : decode cX10_fault 11 = .ok (.iconst (-1), 1) := by decide +kernel
theorem dX10_fault_12 : decode cX10_fault 12 = .ok (.ireturn, 1) := by decide +kernel
theorem dX10_fault_13 : decode cX10_fault 13 = .ok (.aload_n 0, 1) := by decide +kernel
theorem dX10_fault_14 : decode cX10_fault 14 = .ok (.getfield 18, 3) := by decide +kernel
theorem dX10_fault_17 : decode cX10_fault 17 = .ok (.iload_n 1, 1) := by decide +kernel
theorem dX10_fault_18 : decode cX10_fault 18 = .ok (.invokevirtual 105, 3) := by decide +kernel
theorem dX10_fault_21 : decode cX10_fault 21 = .ok (.ifCond .ne 9, 3) := by decide +kernel
theorem dX10_fault_24 : decode cX10_fault 24 = .ok (.aload_n 0, 1) := by decide +kernel
theorem dX10_fault_25 : decode cX10_fault 25 = .ok (.iconst 1, 1) := by decide +kernel
theorem dX10_fault_26 : decode cX10_fault 26 = .ok (.invokevirtual 91, 3) := by decide +kernel
theorem dX10_fault_29 : decode cX10_fault 29 = .ok (.ireturn, 1) := by decide +kernel
theorem dX10_fault_30 : decode cX10_fault 30 = .ok (.aload_n 0, 1) := by decide +kernel
theorem dX10_fault_31 : decode cX10_fault 31 = .ok (.iload_n 1, 1) := by decide +kernel
theorem dX10_fault_32 : decode cX10_fault 32 = .ok (.invokevirtual 139, 3) := by decide +kernel
theorem dX10_fault_35 : decode cX10_fault 35 = .ok (.ireturn, 1) := by decide +kernel
set_option maxRecDepth 20000 in
theorem ggX10_removed_X7_isNumber : GoodIn wsX10_removed wsX7_isNumber := goodIn_r _ [5, 6, 22, 23] (by decide +kernel) (by decide +kernel)
set_option maxRecDepth 20000 in
theorem gX10_removed_X7_isNumber : GoodIn wsX10_removed (wsV RX10 87 RX7 yX7_isNumber wsX7_isNumber) := goodIn_app (goodIn_of _ (by decide +kernel)) ggX10_removed_X7_isNumber
set_option maxRecDepth 20000 in
theorem ggX10_removed_X7_isThere : GoodIn wsX10_removed wsX7_isThere := goodIn_r _ [10, 6, 22, 23] (by decide +kernel) (by decide +kernel)
set_option maxRecDepth 20000 in
theorem gX10_removed_X7_isThere : GoodIn wsX10_removed (wsV RX10 105 RX7 yX7_isThere wsX7_isThere) := goodIn_app (goodIn_of _ (by decide +kernel)) ggX10_removed_X7_isThere
set_option maxRecDepth 20000 in
theorem ggX10_removed_X10_found : GoodIn wsX10_removed wsX10_found := goodIn_r _ [15, 16, 17, 24, 25, 26, 27, 28, 29, 30, 31, 32, 33, 34, 35, 36, 37, 38, 39, 40, 41, 42] (by decide +kernel) (by decide +kernel)
set_option maxRecDepth 20000 in
theorem gX10_removed_X10_found : GoodIn wsX10_removed (wsV RX10 91 RX10 yX10_found wsX10_found) := goodIn_app (goodIn_of _ (by decide +kernel)) ggX10_removed_X10_found
set_option maxRecDepth 20000 in
theorem ggX10_removed_X7_remove : GoodIn wsX10_removed wsX7_remove := goodIn_r _ [21, 6, 22, 23] (by decide +kernel) (by decide +kernel)
set_option maxRecDepth 20000 in
theorem gX10_removed_X7_remove : GoodIn wsX10_removed (wsV RX10 142 RX7 yX7_remove wsX7_remove) := goodIn_app (goodIn_of _ (by decide +kernel)) ggX10_removed_X7_remove
theorem dX10_removed_0 : decode cX10_removed 0 = .ok (.aload_n 1, 1) := by decide +kernel
theorem dX10_removed_1 : decode cX10_removed 1 = .ok (.iload_n 2, 1) := by decide +kernel
theorem dX10_removed_2 : decode cX10_removed 2 = .ok (.invokevirtual 87, 3) := by decide +kernel
theorem dX10_removed_5 : decode cX10_removed 5 = .ok (.ifCond .ne 5, 3) := by decide +kernel
theorem dX10_removed_8 : decode cX10_removed 8 = .ok (.iconst (-1), 1) := by decide +kernel
theorem dX10_removed_9 : decode cX10_removed 9 = .ok (.ireturn, 1) := by decide +kernel
theorem dX10_removed_10 : decode cX10_removed 10 = .ok (.aload_n 1, 1) := by decide +kernel
theorem dX10_removed_11 : decode cX10_removed 11 = .ok (.iload_n 2, 1) := by decide +kernel
theorem dX10_removed_12 : decode cX10_removed 12 = .ok (.invokevirtual 105, 3) := by decide +kernel
theorem dX10_removed_15 : decode cX10_removed 15 = .ok (.ifCond .ne 9, 3) := by decide +kernel
theorem dX10_removed_18 : decode cX10_removed 18 = .ok (.aload_n 0, 1) := by decide +kernel
theorem dX10_removed_19 : decode cX10_removed 19 = .ok (.iconst 1, 1) := by decide +kernel
theorem dX10_removed_20 : decode cX10_removed 20 = .ok (.invokevirtual 91, 3) := by decide +kernel
theorem dX10_removed_23 : decode cX10_removed 23 = .ok (.ireturn, 1) := by decide +kernel
theorem dX10_removed_24 : decode cX10_removed 24 = .ok (.aload_n 1, 1) := by decide +kernel
theorem dX10_removed_25 : decode cX10_removed 25 = .ok (.iload_n 2, 1) := by decide +kernel
theorem dX10_removed_26 : decode cX10_removed 26 = .ok (.invokevirtual 142, 3) := by decide +kernel
theorem dX10_removed_29 : decode cX10_removed 29 = .ok (.iconst 1, 1) := by decide +kernel
theorem dX10_removed_30 : decode cX10_removed 30 = .ok (.ireturn, 1) := by decide +kernel
theorem dX10_knownPlaces_0 : decode cX10_knownPlaces 0 = .ok (.iconst 0, 1) := by decide +kernel
theorem dX10_knownPlaces_1 : decode cX10_knownPlaces 1 = .ok (.istore_n 2, 1) := by decide +kernel
theorem dX10_knownPlaces_2 : decode cX10_knownPlaces 2 = .ok (.iconst 0, 1) := by decide +kernel
theorem dX10_knownPlaces_3 : decode cX10_knownPlaces 3 = .ok (.istore_n 3, 1) := by decide +kernel
theorem dX10_knownPlaces_4 : decode cX10_knownPlaces 4 = .ok (.iload_n 3, 1) := by decide +kernel
theorem dX10_knownPlaces_5 : decode cX10_knownPlaces 5 = .ok (.aload_n 0, 1) := by decide +kernel
theorem dX10_knownPlaces_6 : decode cX10_knownPlaces 6 = .ok (.getfield 14, 3) := by decide +kernel
theorem dX10_knownPlaces_9 : decode cX10_knownPlaces 9 = .ok (.getfield 136, 3) := by decide +kernel
theorem dX10_knownPlaces_12 : decode cX10_knownPlaces 12 = .ok (.iload_n 1, 1) := by decide +kernel
theorem dX10_knownPlaces_13 : decode cX10_knownPlaces 13 = .ok (.iaload, 1) := by decide +kernel
theorem dX10_knownPlaces_14 : decode cX10_knownPlaces 14 = .ok (.if_icmp .ge 28, 3) := by decide +kernel
theorem dX10_knownPlaces_17 : decode cX10_knownPlaces 17 = .ok (.aload_n 0, 1) := by decide +kernel
theorem dX10_knownPlaces_18 : decode cX10_knownPlaces 18 = .ok (.getfield 14, 3) := by decide +kernel
theorem dX10_knownPlaces_21 : decode cX10_knownPlaces 21 = .ok (.getfield 112, 3) := by decide +kernel
theorem dX10_knownPlaces_24 : decode cX10_knownPlaces 24 = .ok (.iload_n 1, 1) := by decide +kernel
theorem dX10_knownPlaces_25 : decode cX10_knownPlaces 25 = .ok (.aaload, 1) := by decide +kernel
theorem dX10_knownPlaces_26 : decode cX10_knownPlaces 26 = .ok (.iload_n 3, 1) := by decide +kernel
theorem dX10_knownPlaces_27 : decode cX10_knownPlaces 27 = .ok (.iaload, 1) := by decide +kernel
theorem dX10_knownPlaces_28 : decode cX10_knownPlaces 28 = .ok (.bipush (-9), 2) := by decide +kernel
theorem dX10_knownPlaces_30 : decode cX10_knownPlaces 30 = .ok (.if_icmp .eq 6, 3) := by decide +kernel
theorem dX10_knownPlaces_33 : decode cX10_knownPlaces 33 = .ok (.iinc 2 1, 3) := by decide +kernel
theorem dX10_knownPlaces_36 : decode cX10_knownPlaces 36 = .ok (.iinc 3 1, 3) := by decide +kernel
theorem dX10_knownPlaces_39 : decode cX10_knownPlaces 39 = .ok (.goto (-35), 3) := by decide +kernel
theorem dX10_knownPlaces_42 : decode cX10_knownPlaces 42 = .ok (.iload_n 2, 1) := by decide +kernel
theorem dX10_knownPlaces_43 : decode cX10_knownPlaces 43 = .ok (.ireturn, 1) := by decide +kernel
set_option maxRecDepth 20000 in
theorem ggX10_faultOf_X6_open : GoodIn wsX10_faultOf wsX6_open := goodIn_r _ [7, 8, 9, 10, 11, 12, 60, 61, 62, 63, 64, 65, 66] (by decide +kernel) (by decide +kernel)
set_option maxRecDepth 20000 in
theorem gX10_faultOf_X6_open : GoodIn wsX10_faultOf (wsV RX10 146 RX6 yX6_open wsX6_open) := goodIn_app (goodIn_of _ (by decide +kernel)) ggX10_faultOf_X6_open
set_option maxRecDepth 20000 in
theorem ggX10_faultOf_X6_next : GoodIn wsX10_faultOf wsX6_next := goodIn_r _ [16, 10, 9, 8, 12, 17, 18, 11, 19, 20, 21, 6, 22, 23, 24, 25, 26, 27, 28, 29, 30, 31, 32, 33, 34, 35, 36, 37, 38, 60, 61, 62, 63, 64, 65, 66] (by decide +kernel) (by decide +kernel)
set_option maxRecDepth 20000 in
theorem gX10_faultOf_X6_next : GoodIn wsX10_faultOf (wsV RX10 150 RX6 yX6_next wsX6_next) := goodIn_app (goodIn_of _ (by decide +kernel)) ggX10_faultOf_X6_next
theorem dX10_faultOf_0 : decode cX10_faultOf 0 = .ok (.aload_n 0, 1) := by decide +kernel
theorem dX10_faultOf_1 : decode cX10_faultOf 1 = .ok (.getfield 49, 3) := by decide +kernel
theorem dX10_faultOf_4 : decode cX10_faultOf 4 = .ok (.aload_n 0, 1) := by decide +kernel
theorem dX10_faultOf_5 : decode cX10_faultOf 5 = .ok (.getfield 18, 3) := by decide +kernel
theorem dX10_faultOf_8 : decode cX10_faultOf 8 = .ok (.getfield 112, 3) := by decide +kernel
theorem dX10_faultOf_11 : decode cX10_faultOf 11 = .ok (.iload_n 1, 1) := by decide +kernel
theorem dX10_faultOf_12 : decode cX10_faultOf 12 = .ok (.aaload, 1) := by decide +kernel
theorem dX10_faultOf_13 : decode cX10_faultOf 13 = .ok (.aload_n 0, 1) := by decide +kernel
theorem dX10_faultOf_14 : decode cX10_faultOf 14 = .ok (.getfield 18, 3) := by decide +kernel
theorem dX10_faultOf_17 : decode cX10_faultOf 17 = .ok (.getfield 136, 3) := by decide +kernel
theorem dX10_faultOf_20 : decode cX10_faultOf 20 = .ok (.iload_n 1, 1) := by decide +kernel
theorem dX10_faultOf_21 : decode cX10_faultOf 21 = .ok (.iaload, 1) := by decide +kernel
theorem dX10_faultOf_22 : decode cX10_faultOf 22 = .ok (.invokevirtual 146, 3) := by decide +kernel
theorem dX10_faultOf_25 : decode cX10_faultOf 25 = .ok (.iconst 0, 1) := by decide +kernel
theorem dX10_faultOf_26 : decode cX10_faultOf 26 = .ok (.istore_n 2, 1) := by decide +kernel
theorem dX10_faultOf_27 : decode cX10_faultOf 27 = .ok (.iload_n 2, 1) := by decide +kernel
theorem dX10_faultOf_28 : decode cX10_faultOf 28 = .ok (.bipush 40, 2) := by decide +kernel
theorem dX10_faultOf_30 : decode cX10_faultOf 30 = .ok (.if_icmp .ge 19, 3) := by decide +kernel
theorem dX10_faultOf_33 : decode cX10_faultOf 33 = .ok (.aload_n 0, 1) := by decide +kernel
theorem dX10_faultOf_34 : decode cX10_faultOf 34 = .ok (.getfield 49, 3) := by decide +kernel
theorem dX10_faultOf_37 : decode cX10_faultOf 37 = .ok (.invokevirtual 150, 3) := by decide +kernel
theorem dX10_faultOf_40 : decode cX10_faultOf 40 = .ok (.ifCond .eq 9, 3) := by decide +kernel
theorem dX10_faultOf_43 : decode cX10_faultOf 43 = .ok (.iinc 2 1, 3) := by decide +kernel
theorem dX10_faultOf_46 : decode cX10_faultOf 46 = .ok (.goto (-19), 3) := by decide +kernel
theorem dX10_faultOf_49 : decode cX10_faultOf 49 = .ok (.aload_n 0, 1) := by decide +kernel
theorem dX10_faultOf_50 : decode cX10_faultOf 50 = .ok (.getfield 49, 3) := by decide +kernel
theorem dX10_faultOf_53 : decode cX10_faultOf 53 = .ok (.getfield 154, 3) := by decide +kernel
theorem dX10_faultOf_56 : decode cX10_faultOf 56 = .ok (.ireturn, 1) := by decide +kernel
set_option maxRecDepth 20000 in
theorem ggX10_board_X10_isBoard : GoodIn wsX10_board wsX10_isBoard := goodIn_r _ [5] (by decide +kernel) (by decide +kernel)
set_option maxRecDepth 20000 in
theorem gX10_board_X10_isBoard : GoodIn wsX10_board (va_wsS RX10 157 yX10_isBoard wsX10_isBoard) := goodIn_app (goodIn_of _ (by decide +kernel)) ggX10_board_X10_isBoard
set_option maxRecDepth 20000 in
theorem ggX10_board_X10_within : GoodIn wsX10_board wsX10_within := goodIn_r _ [8] (by decide +kernel) (by decide +kernel)
set_option maxRecDepth 20000 in
theorem gX10_board_X10_within : GoodIn wsX10_board (va_wsS RX10 101 yX10_within wsX10_within) := goodIn_app (goodIn_of _ (by decide +kernel)) ggX10_board_X10_within
set_option maxRecDepth 20000 in
theorem ggX10_board_X10_clear : GoodIn wsX10_board wsX10_clear := goodIn_r _ [12, 1, 13, 14, 15, 4, 16, 17, 18, 19, 20, 21, 22, 2, 3, 5, 59, 60, 61, 62, 63, 64, 65, 66, 67, 68, 69, 70, 71, 72, 73, 74, 75, 76, 77, 78, 79, 80, 81, 82, 83, 84, 85, 86, 87, 88, 89, 90, 91, 92, 93, 94, 95, 96, 97, 98, 99, 100, 101, 102, 103, 104, 105, 106, 107, 108, 109, 110] (by decide +kernel) (by decide +kernel)
set_option maxRecDepth 20000 in
theorem gX10_board_X10_clear : GoodIn wsX10_board (wsV RX10 160 RX10 yX10_clear wsX10_clear) := goodIn_app (goodIn_of _ (by decide +kernel)) ggX10_board_X10_clear
set_option maxRecDepth 20000 in
theorem ggX10_board_X0_reset : GoodIn wsX10_board wsX0_reset := goodIn_r _ [27, 28, 29, 30, 31, 32, 33, 34, 35, 36, 37, 38, 39, 40, 41, 42, 43, 44, 45, 46, 47, 48, 49, 50, 51, 52, 53, 54, 78, 79, 80, 81, 82, 83, 84, 85, 86, 87, 88, 89, 90, 91, 92, 93, 94, 95, 96, 111, 112, 113, 106, 107, 108, 109, 110, 114, 115, 116, 117] (by decide +kernel) (by decide +kernel)
set_option maxRecDepth 20000 in
theorem gX10_board_X0_reset : GoodIn wsX10_board (wsV RX10 163 RX0 yX0_reset wsX0_reset) := goodIn_app (goodIn_of _ (by decide +kernel)) ggX10_board_X0_reset
set_option maxRecDepth 20000 in
theorem ggX10_board_X0_cells : GoodIn wsX10_board wsX0_cells := goodIn_r _ [58, 30, 31, 78, 79, 80, 81, 82, 83, 84, 85, 86, 87, 88, 89, 90, 91, 92, 93, 94, 95, 96] (by decide +kernel) (by decide +kernel)
set_option maxRecDepth 20000 in
theorem gX10_board_X0_cells : GoodIn wsX10_board (wsV RX10 166 RX0 yX0_cells wsX0_cells) := goodIn_app (goodIn_of _ (by decide +kernel)) ggX10_board_X0_cells
theorem dX10_board_0 : decode cX10_board 0 = .ok (.iload_n 1, 1) := by decide +kernel
theorem dX10_board_1 : decode cX10_board 1 = .ok (.invokestatic 157, 3) := by decide +kernel
theorem dX10_board_4 : decode cX10_board 4 = .ok (.ifCond .eq 17, 3) := by decide +kernel
theorem dX10_board_7 : decode cX10_board 7 = .ok (.iload_n 2, 1) := by decide +kernel
theorem dX10_board_8 : decode cX10_board 8 = .ok (.ifCond .eq 15, 3) := by decide +kernel
theorem dX10_board_11 : decode cX10_board 11 = .ok (.iload_n 2, 1) := by decide +kernel
theorem dX10_board_12 : decode cX10_board 12 = .ok (.iconst 1, 1) := by decide +kernel
theorem dX10_board_13 : decode cX10_board 13 = .ok (.if_icmp .eq 10, 3) := by decide +kernel
theorem dX10_board_16 : decode cX10_board 16 = .ok (.iload_n 2, 1) := by decide +kernel
theorem dX10_board_17 : decode cX10_board 17 = .ok (.iconst 3, 1) := by decide +kernel
theorem dX10_board_18 : decode cX10_board 18 = .ok (.if_icmp .eq 5, 3) := by decide +kernel
theorem dX10_board_21 : decode cX10_board 21 = .ok (.iconst (-1), 1) := by decide +kernel
theorem dX10_board_22 : decode cX10_board 22 = .ok (.ireturn, 1) := by decide +kernel
theorem dX10_board_23 : decode cX10_board 23 = .ok (.iload_n 3, 1) := by decide +kernel
theorem dX10_board_24 : decode cX10_board 24 = .ok (.iconst 2, 1) := by decide +kernel
theorem dX10_board_25 : decode cX10_board 25 = .ok (.bipush 8, 2) := by decide +kernel
theorem dX10_board_27 : decode cX10_board 27 = .ok (.invokestatic 101, 3) := by decide +kernel
theorem dX10_board_30 : decode cX10_board 30 = .ok (.ifCond .eq 14, 3) := by decide +kernel
theorem dX10_board_33 : decode cX10_board 33 = .ok (.iload 4, 2) := by decide +kernel
theorem dX10_board_35 : decode cX10_board 35 = .ok (.iconst 1, 1) := by decide +kernel
theorem dX10_board_36 : decode cX10_board 36 = .ok (.bipush 6, 2) := by decide +kernel
theorem dX10_board_38 : decode cX10_board 38 = .ok (.invokestatic 101, 3) := by decide +kernel
theorem dX10_board_41 : decode cX10_board 41 = .ok (.ifCond .ne 5, 3) := by decide +kernel
theorem dX10_board_44 : decode cX10_board 44 = .ok (.iconst (-1), 1) := by decide +kernel
theorem dX10_board_45 : decode cX10_board 45 = .ok (.ireturn, 1) := by decide +kernel
theorem dX10_board_46 : decode cX10_board 46 = .ok (.aload_n 0, 1) := by decide +kernel
theorem dX10_board_47 : decode cX10_board 47 = .ok (.iload_n 1, 1) := by decide +kernel
theorem dX10_board_48 : decode cX10_board 48 = .ok (.invokevirtual 160, 3) := by decide +kernel
theorem dX10_board_51 : decode cX10_board 51 = .ok (.aload_n 0, 1) := by decide +kernel
theorem dX10_board_52 : decode cX10_board 52 = .ok (.getfield 30, 3) := by decide +kernel
theorem dX10_board_55 : decode cX10_board 55 = .ok (.iload_n 1, 1) := by decide +kernel
theorem dX10_board_56 : decode cX10_board 56 = .ok (.aaload, 1) := by decide +kernel
theorem dX10_board_57 : decode cX10_board 57 = .ok (.iload_n 2, 1) := by decide +kernel
theorem dX10_board_58 : decode cX10_board 58 = .ok (.iload_n 3, 1) := by decide +kernel
theorem dX10_board_59 : decode cX10_board 59 = .ok (.iload 4, 2) := by decide +kernel
theorem dX10_board_61 : decode cX10_board 61 = .ok (.invokevirtual 163, 3) := by decide +kernel
theorem dX10_board_64 : decode cX10_board 64 = .ok (.aload_n 0, 1) := by decide +kernel
theorem dX10_board_65 : decode cX10_board 65 = .ok (.getfield 30, 3) := by decide +kernel
theorem dX10_board_68 : decode cX10_board 68 = .ok (.iload_n 1, 1) := by decide +kernel
theorem dX10_board_69 : decode cX10_board 69 = .ok (.aaload, 1) := by decide +kernel
theorem dX10_board_70 : decode cX10_board 70 = .ok (.invokevirtual 166, 3) := by decide +kernel
theorem dX10_board_73 : decode cX10_board 73 = .ok (.ireturn, 1) := by decide +kernel
set_option maxRecDepth 20000 in
theorem ggX10_drop_X10_boardRefused : GoodIn wsX10_drop wsX10_boardRefused := goodIn_r _ [5, 6, 7, 8, 4, 9, 10, 11, 12, 13, 14, 15, 30, 31, 32, 33, 34, 35, 36, 37, 38, 39, 40, 41, 42, 43, 44, 45, 46, 47, 48, 49, 50, 51, 52, 53, 54, 55, 56, 57, 58, 59, 60, 61, 62, 63, 64, 65, 66, 67] (by decide +kernel) (by decide +kernel)
set_option maxRecDepth 20000 in
theorem gX10_drop_X10_boardRefused : GoodIn wsX10_drop (wsV RX10 170 RX10 yX10_boardRefused wsX10_boardRefused) := goodIn_app (goodIn_of _ (by decide +kernel)) ggX10_drop_X10_boardRefused
set_option maxRecDepth 20000 in
theorem ggX10_drop_X10_clear : GoodIn wsX10_drop wsX10_clear := goodIn_r _ [19, 6, 20, 21, 22, 4, 23, 24, 25, 26, 27, 28, 29, 7, 8, 9, 30, 31, 32, 33, 34, 35, 36, 37, 38, 39, 40, 41, 42, 43, 44, 45, 46, 47, 48, 49, 50, 51, 52, 53, 54, 55, 56, 57, 58, 59, 60, 61, 62, 63, 64, 65, 66, 67, 68, 69, 70, 71, 72, 73, 74, 75, 76, 77, 78, 79, 80, 81] (by decide +kernel) (by decide +kernel)
set_option maxRecDepth 20000 in
theorem gX10_drop_X10_clear : GoodIn wsX10_drop (wsV RX10 160 RX10 yX10_clear wsX10_clear) := goodIn_app (goodIn_of _ (by decide +kernel)) ggX10_drop_X10_clear
theorem dX10_drop_0 : decode cX10_drop 0 = .ok (.aload_n 0, 1) := by decide +kernel
theorem dX10_drop_1 : decode cX10_drop 1 = .ok (.iconst 1, 1) := by decide +kernel
theorem dX10_drop_2 : decode cX10_drop 2 = .ok (.iload_n 1, 1) := by decide +kernel
theorem dX10_drop_3 : decode cX10_drop 3 = .ok (.invokevirtual 170, 3) := by decide +kernel
theorem dX10_drop_6 : decode cX10_drop 6 = .ok (.istore_n 2, 1) := by decide +kernel
theorem dX10_drop_7 : decode cX10_drop 7 = .ok (.iload_n 2, 1) := by decide +kernel
theorem dX10_drop_8 : decode cX10_drop 8 = .ok (.ifCond .eq 5, 3) := by decide +kernel
theorem dX10_drop_11 : decode cX10_drop 11 = .ok (.iload_n 2, 1) := by decide +kernel
theorem dX10_drop_12 : decode cX10_drop 12 = .ok (.ireturn, 1) := by decide +kernel
theorem dX10_drop_13 : decode cX10_drop 13 = .ok (.aload_n 0, 1) := by decide +kernel
theorem dX10_drop_14 : decode cX10_drop 14 = .ok (.iload_n 1, 1) := by decide +kernel
theorem dX10_drop_15 : decode cX10_drop 15 = .ok (.invokevirtual 160, 3) := by decide +kernel
theorem dX10_drop_18 : decode cX10_drop 18 = .ok (.iconst 1, 1) := by decide +kernel
theorem dX10_drop_19 : decode cX10_drop 19 = .ok (.ireturn, 1) := by decide +kernel
set_option maxRecDepth 20000 in
theorem ggX10_bottom_X10_within : GoodIn wsX10_bottom wsX10_within := goodIn_r _ [6] (by decide +kernel) (by decide +kernel)
set_option maxRecDepth 20000 in
theorem gX10_bottom_X10_within : GoodIn wsX10_bottom (va_wsS RX10 101 yX10_within wsX10_within) := goodIn_app (goodIn_of _ (by decide +kernel)) ggX10_bottom_X10_within
set_option maxRecDepth 20000 in
theorem ggX10_bottom_X10_cellRefused : GoodIn wsX10_bottom wsX10_cellRefused := goodIn_r _ [10, 1, 11, 12, 13, 5, 14, 15, 16, 17, 18, 19, 20, 21, 22, 23, 24, 25, 26, 27, 28, 29, 30, 31, 32, 33, 34, 35, 36, 37, 38, 39, 40, 41, 42, 43, 44, 45, 46, 47, 48, 49, 50, 51, 52, 53, 54, 55, 56, 57, 58, 59, 60, 61, 62, 63, 64, 65, 66, 67, 68] (by decide +kernel) (by decide +kernel)
set_option maxRecDepth 20000 in
theorem gX10_bottom_X10_cellRefused : GoodIn wsX10_bottom (wsV RX10 174 RX10 yX10_cellRefused wsX10_cellRefused) := goodIn_app (goodIn_of _ (by decide +kernel)) ggX10_bottom_X10_cellRefused
theorem dX10_bottom_0 : decode cX10_bottom 0 = .ok (.aload_n 0, 1) := by decide +kernel
theorem dX10_bottom_1 : decode cX10_bottom 1 = .ok (.iload_n 3, 1) := by decide +kernel
theorem dX10_bottom_2 : decode cX10_bottom 2 = .ok (.sipush (-1000), 3) := by decide +kernel
theorem dX10_bottom_5 : decode cX10_bottom 5 = .ok (.sipush 1000, 3) := by decide +kernel
theorem dX10_bottom_8 : decode cX10_bottom 8 = .ok (.invokestatic 101, 3) := by decide +kernel
theorem dX10_bottom_11 : decode cX10_bottom 11 = .ok (.iload_n 1, 1) := by decide +kernel
theorem dX10_bottom_12 : decode cX10_bottom 12 = .ok (.iload_n 2, 1) := by decide +kernel
theorem dX10_bottom_13 : decode cX10_bottom 13 = .ok (.invokevirtual 174, 3) := by decide +kernel
theorem dX10_bottom_16 : decode cX10_bottom 16 = .ok (.istore 4, 2) := by decide +kernel
theorem dX10_bottom_18 : decode cX10_bottom 18 = .ok (.iload 4, 2) := by decide +kernel
theorem dX10_bottom_20 : decode cX10_bottom 20 = .ok (.ifCond .eq 6, 3) := by decide +kernel
theorem dX10_bottom_23 : decode cX10_bottom 23 = .ok (.iload 4, 2) := by decide +kernel
theorem dX10_bottom_25 : decode cX10_bottom 25 = .ok (.ireturn, 1) := by decide +kernel
theorem dX10_bottom_26 : decode cX10_bottom 26 = .ok (.aload_n 0, 1) := by decide +kernel
theorem dX10_bottom_27 : decode cX10_bottom 27 = .ok (.aload_n 0, 1) := by decide +kernel
theorem dX10_bottom_28 : decode cX10_bottom 28 = .ok (.getfield 30, 3) := by decide +kernel
theorem dX10_bottom_31 : decode cX10_bottom 31 = .ok (.iload_n 1, 1) := by decide +kernel
theorem dX10_bottom_32 : decode cX10_bottom 32 = .ok (.aaload, 1) := by decide +kernel
theorem dX10_bottom_33 : decode cX10_bottom 33 = .ok (.getfield 178, 3) := by decide +kernel
theorem dX10_bottom_36 : decode cX10_bottom 36 = .ok (.iload_n 2, 1) := by decide +kernel
theorem dX10_bottom_37 : decode cX10_bottom 37 = .ok (.iaload, 1) := by decide +kernel
theorem dX10_bottom_38 : decode cX10_bottom 38 = .ok (.putfield 116, 3) := by decide +kernel
theorem dX10_bottom_41 : decode cX10_bottom 41 = .ok (.aload_n 0, 1) := by decide +kernel
theorem dX10_bottom_42 : decode cX10_bottom 42 = .ok (.getfield 30, 3) := by decide +kernel
theorem dX10_bottom_45 : decode cX10_bottom 45 = .ok (.iload_n 1, 1) := by decide +kernel
theorem dX10_bottom_46 : decode cX10_bottom 46 = .ok (.aaload, 1) := by decide +kernel
theorem dX10_bottom_47 : decode cX10_bottom 47 = .ok (.getfield 178, 3) := by decide +kernel
theorem dX10_bottom_50 : decode cX10_bottom 50 = .ok (.iload_n 2, 1) := by decide +kernel
theorem dX10_bottom_51 : decode cX10_bottom 51 = .ok (.iload_n 3, 1) := by decide +kernel
theorem dX10_bottom_52 : decode cX10_bottom 52 = .ok (.iastore, 1) := by decide +kernel
theorem dX10_bottom_53 : decode cX10_bottom 53 = .ok (.iconst 1, 1) := by decide +kernel
theorem dX10_bottom_54 : decode cX10_bottom 54 = .ok (.ireturn, 1) := by decide +kernel
set_option maxRecDepth 20000 in
theorem ggX10_water_X10_within : GoodIn wsX10_water wsX10_within := goodIn_r _ [6] (by decide +kernel) (by decide +kernel)
set_option maxRecDepth 20000 in
theorem gX10_water_X10_within : GoodIn wsX10_water (va_wsS RX10 101 yX10_within wsX10_within) := goodIn_app (goodIn_of _ (by decide +kernel)) ggX10_water_X10_within
set_option maxRecDepth 20000 in
theorem ggX10_water_X10_cellRefused : GoodIn wsX10_water wsX10_cellRefused := goodIn_r _ [10, 2, 11, 12, 13, 5, 14, 15, 16, 17, 18, 19, 20, 21, 22, 23, 24, 25, 26, 27, 28, 29, 30, 31, 32, 33, 34, 35, 36, 37, 38, 39, 40, 41, 42, 43, 44, 45, 46, 47, 48, 49, 50, 51, 52, 53, 54, 55, 56, 57, 58, 59, 60, 61, 62, 63, 64, 65, 66, 67, 68] (by decide +kernel) (by decide +kernel)
set_option maxRecDepth 20000 in
theorem gX10_water_X10_cellRefused : GoodIn wsX10_water (wsV RX10 174 RX10 yX10_cellRefused wsX10_cellRefused) := goodIn_app (goodIn_of _ (by decide +kernel)) ggX10_water_X10_cellRefused
theorem dX10_water_0 : decode cX10_water 0 = .ok (.aload_n 0, 1) := by decide +kernel
theorem dX10_water_1 : decode cX10_water 1 = .ok (.iload_n 3, 1) := by decide +kernel
theorem dX10_water_2 : decode cX10_water 2 = .ok (.iconst 0, 1) := by decide +kernel
theorem dX10_water_3 : decode cX10_water 3 = .ok (.ldc 100, 2) := by decide +kernel
theorem dX10_water_5 : decode cX10_water 5 = .ok (.invokestatic 101, 3) := by decide +kernel
theorem dX10_water_8 : decode cX10_water 8 = .ok (.iload_n 1, 1) := by decide +kernel
theorem dX10_water_9 : decode cX10_water 9 = .ok (.iload_n 2, 1) := by decide +kernel
theorem dX10_water_10 : decode cX10_water 10 = .ok (.invokevirtual 174, 3) := by decide +kernel
theorem dX10_water_13 : decode cX10_water 13 = .ok (.istore 4, 2) := by decide +kernel
theorem dX10_water_15 : decode cX10_water 15 = .ok (.iload 4, 2) := by decide +kernel
theorem dX10_water_17 : decode cX10_water 17 = .ok (.ifCond .eq 6, 3) := by decide +kernel
theorem dX10_water_20 : decode cX10_water 20 = .ok (.iload 4, 2) := by decide +kernel
theorem dX10_water_22 : decode cX10_water 22 = .ok (.ireturn, 1) := by decide +kernel
theorem dX10_water_23 : decode cX10_water 23 = .ok (.aload_n 0, 1) := by decide +kernel
theorem dX10_water_24 : decode cX10_water 24 = .ok (.getfield 30, 3) := by decide +kernel
theorem dX10_water_27 : decode cX10_water 27 = .ok (.iload_n 1, 1) := by decide +kernel
theorem dX10_water_28 : decode cX10_water 28 = .ok (.aaload, 1) := by decide +kernel
theorem dX10_water_29 : decode cX10_water 29 = .ok (.getfield 181, 3) := by decide +kernel
theorem dX10_water_32 : decode cX10_water 32 = .ok (.iload_n 2, 1) := by decide +kernel
theorem dX10_water_33 : decode cX10_water 33 = .ok (.iaload, 1) := by decide +kernel
theorem dX10_water_34 : decode cX10_water 34 = .ok (.istore 5, 2) := by decide +kernel
theorem dX10_water_36 : decode cX10_water 36 = .ok (.aload_n 0, 1) := by decide +kernel
theorem dX10_water_37 : decode cX10_water 37 = .ok (.getfield 30, 3) := by decide +kernel
theorem dX10_water_40 : decode cX10_water 40 = .ok (.iload_n 1, 1) := by decide +kernel
theorem dX10_water_41 : decode cX10_water 41 = .ok (.aaload, 1) := by decide +kernel
theorem dX10_water_42 : decode cX10_water 42 = .ok (.getfield 181, 3) := by decide +kernel
theorem dX10_water_45 : decode cX10_water 45 = .ok (.iload_n 2, 1) := by decide +kernel
theorem dX10_water_46 : decode cX10_water 46 = .ok (.iload_n 3, 1) := by decide +kernel
theorem dX10_water_47 : decode cX10_water 47 = .ok (.iastore, 1) := by decide +kernel
theorem dX10_water_48 : decode cX10_water 48 = .ok (.iload 5, 2) := by decide +kernel
theorem dX10_water_50 : decode cX10_water 50 = .ok (.ireturn, 1) := by decide +kernel
set_option maxRecDepth 20000 in
theorem ggX10_spill_X10_within : GoodIn wsX10_spill wsX10_within := goodIn_r _ [6] (by decide +kernel) (by decide +kernel)
set_option maxRecDepth 20000 in
theorem gX10_spill_X10_within : GoodIn wsX10_spill (va_wsS RX10 101 yX10_within wsX10_within) := goodIn_app (goodIn_of _ (by decide +kernel)) ggX10_spill_X10_within
set_option maxRecDepth 20000 in
theorem ggX10_spill_X10_cellRefused : GoodIn wsX10_spill wsX10_cellRefused := goodIn_r _ [10, 2, 11, 12, 13, 5, 14, 15, 16, 17, 18, 19, 20, 21, 22, 23, 24, 25, 26, 27, 28, 29, 30, 31, 32, 33, 34, 35, 36, 37, 38, 39, 40, 41, 42, 43, 44, 45, 46, 47, 48, 49, 50, 51, 52, 53, 54, 55, 56, 57, 58, 59, 60, 61, 62, 63, 64, 65, 66, 67, 68] (by decide +kernel) (by decide +kernel)
set_option maxRecDepth 20000 in
theorem gX10_spill_X10_cellRefused : GoodIn wsX10_spill (wsV RX10 174 RX10 yX10_cellRefused wsX10_cellRefused) := goodIn_app (goodIn_of _ (by decide +kernel)) ggX10_spill_X10_cellRefused
theorem dX10_spill_0 : decode cX10_spill 0 = .ok (.aload_n 0, 1) := by decide +kernel
theorem dX10_spill_1 : decode cX10_spill 1 = .ok (.iload_n 3, 1) := by decide +kernel
theorem dX10_spill_2 : decode cX10_spill 2 = .ok (.iconst 0, 1) := by decide +kernel
theorem dX10_spill_3 : decode cX10_spill 3 = .ok (.iconst 2, 1) := by decide +kernel
theorem dX10_spill_4 : decode cX10_spill 4 = .ok (.invokestatic 101, 3) := by decide +kernel
theorem dX10_spill_7 : decode cX10_spill 7 = .ok (.ifCond .eq 18, 3) := by decide +kernel
theorem dX10_spill_10 : decode cX10_spill 10 = .ok (.iload 4, 2) := by decide +kernel
theorem dX10_spill_12 : decode cX10_spill 12 = .ok (.iconst 0, 1) := by decide +kernel
theorem dX10_spill_13 : decode cX10_spill 13 = .ok (.ldc 100, 2) := by decide +kernel
theorem dX10_spill_15 : decode cX10_spill 15 = .ok (.invokestatic 101, 3) := by decide +kernel
theorem dX10_spill_18 : decode cX10_spill 18 = .ok (.ifCond .eq 7, 3) := by decide +kernel
theorem dX10_spill_21 : decode cX10_spill 21 = .ok (.iconst 1, 1) := by decide +kernel
theorem dX10_spill_22 : decode cX10_spill 22 = .ok (.goto 4, 3) := by decide +kernel
theorem dX10_spill_25 : decode cX10_spill 25 = .ok (.iconst 0, 1) := by decide +kernel
theorem dX10_spill_26 : decode cX10_spill 26 = .ok (.iload_n 1, 1) := by decide +kernel
theorem dX10_spill_27 : decode cX10_spill 27 = .ok (.iload_n 2, 1) := by decide +kernel
theorem dX10_spill_28 : decode cX10_spill 28 = .ok (.invokevirtual 174, 3) := by decide +kernel
theorem dX10_spill_31 : decode cX10_spill 31 = .ok (.istore 5, 2) := by decide +kernel
theorem dX10_spill_33 : decode cX10_spill 33 = .ok (.iload 5, 2) := by decide +kernel
theorem dX10_spill_35 : decode cX10_spill 35 = .ok (.ifCond .eq 6, 3) := by decide +kernel
theorem dX10_spill_38 : decode cX10_spill 38 = .ok (.iload 5, 2) := by decide +kernel
theorem dX10_spill_40 : decode cX10_spill 40 = .ok (.ireturn, 1) := by decide +kernel
theorem dX10_spill_41 : decode cX10_spill 41 = .ok (.iload_n 3, 1) := by decide +kernel
theorem dX10_spill_42 : decode cX10_spill 42 = .ok (.bipush 48, 2) := by decide +kernel
theorem dX10_spill_44 : decode cX10_spill 44 = .ok (.imul, 1) := by decide +kernel
theorem dX10_spill_45 : decode cX10_spill 45 = .ok (.iload_n 2, 1) := by decide +kernel
theorem dX10_spill_46 : decode cX10_spill 46 = .ok (.iadd, 1) := by decide +kernel
theorem dX10_spill_47 : decode cX10_spill 47 = .ok (.istore 6, 2) := by decide +kernel
theorem dX10_spill_49 : decode cX10_spill 49 = .ok (.aload_n 0, 1) := by decide +kernel
theorem dX10_spill_50 : decode cX10_spill 50 = .ok (.getfield 30, 3) := by decide +kernel
theorem dX10_spill_53 : decode cX10_spill 53 = .ok (.iload_n 1, 1) := by decide +kernel
theorem dX10_spill_54 : decode cX10_spill 54 = .ok (.aaload, 1) := by decide +kernel
theorem dX10_spill_55 : decode cX10_spill 55 = .ok (.getfield 184, 3) := by decide +kernel
theorem dX10_spill_58 : decode cX10_spill 58 = .ok (.iload 6, 2) := by decide +kernel
theorem dX10_spill_60 : decode cX10_spill 60 = .ok (.iaload, 1) := by decide +kernel
theorem dX10_spill_61 : decode cX10_spill 61 = .ok (.istore 7, 2) := by decide +kernel
theorem dX10_spill_63 : decode cX10_spill 63 = .ok (.aload_n 0, 1) := by decide +kernel
theorem dX10_spill_64 : decode cX10_spill 64 = .ok (.getfield 30, 3) := by decide +kernel
theorem dX10_spill_67 : decode cX10_spill 67 = .ok (.iload_n 1, 1) := by decide +kernel
theorem dX10_spill_68 : decode cX10_spill 68 = .ok (.aaload, 1) := by decide +kernel
theorem dX10_spill_69 : decode cX10_spill 69 = .ok (.getfield 184, 3) := by decide +kernel
theorem dX10_spill_72 : decode cX10_spill 72 = .ok (.iload 6, 2) := by decide +kernel
theorem dX10_spill_74 : decode cX10_spill 74 = .ok (.iload 4, 2) := by decide +kernel
theorem dX10_spill_76 : decode cX10_spill 76 = .ok (.iastore, 1) := by decide +kernel
theorem dX10_spill_77 : decode cX10_spill 77 = .ok (.iload 7, 2) := by decide +kernel
theorem dX10_spill_79 : decode cX10_spill 79 = .ok (.ireturn, 1) := by decide +kernel
set_option maxRecDepth 20000 in
theorem ggX10_cell_X10_within : GoodIn wsX10_cell wsX10_within := goodIn_r _ [6] (by decide +kernel) (by decide +kernel)
set_option maxRecDepth 20000 in
theorem gX10_cell_X10_within : GoodIn wsX10_cell (va_wsS RX10 101 yX10_within wsX10_within) := goodIn_app (goodIn_of _ (by decide +kernel)) ggX10_cell_X10_within
set_option maxRecDepth 20000 in
theorem ggX10_cell_X10_cellRefused : GoodIn wsX10_cell wsX10_cellRefused := goodIn_r _ [10, 1, 11, 12, 13, 5, 14, 15, 16, 17, 18, 19, 20, 21, 22, 23, 24, 25, 26, 27, 28, 29, 30, 37, 38, 39, 40, 41, 42, 43, 44, 45, 46, 47, 48, 49, 50, 51, 52, 53, 54, 55, 56, 57, 58, 59, 60, 61, 62, 63, 64, 65, 66, 67, 68, 69, 70, 71, 72, 73, 74] (by decide +kernel) (by decide +kernel)
set_option maxRecDepth 20000 in
theorem gX10_cell_X10_cellRefused : GoodIn wsX10_cell (wsV RX10 174 RX10 yX10_cellRefused wsX10_cellRefused) := goodIn_app (goodIn_of _ (by decide +kernel)) ggX10_cell_X10_cellRefused
set_option maxRecDepth 20000 in
theorem ggX10_cell_X0_level : GoodIn wsX10_cell wsX0_level := goodIn_r _ [34, 35, 36, 56, 57, 58, 59, 60, 61, 62, 63, 64, 65, 66, 67, 68, 69, 70, 71, 72, 73, 74] (by decide +kernel) (by decide +kernel)
set_option maxRecDepth 20000 in
theorem gX10_cell_X0_level : GoodIn wsX10_cell (wsV RX10 187 RX0 yX0_level wsX0_level) := goodIn_app (goodIn_of _ (by decide +kernel)) ggX10_cell_X0_level
theorem dX10_cell_0 : decode cX10_cell 0 = .ok (.aload_n 0, 1) := by decide +kernel
theorem dX10_cell_1 : decode cX10_cell 1 = .ok (.iload_n 3, 1) := by decide +kernel
theorem dX10_cell_2 : decode cX10_cell 2 = .ok (.iconst 0, 1) := by decide +kernel
theorem dX10_cell_3 : decode cX10_cell 3 = .ok (.iconst 5, 1) := by decide +kernel
theorem dX10_cell_4 : decode cX10_cell 4 = .ok (.invokestatic 101, 3) := by decide +kernel
theorem dX10_cell_7 : decode cX10_cell 7 = .ok (.iload_n 1, 1) := by decide +kernel
theorem dX10_cell_8 : decode cX10_cell 8 = .ok (.iload_n 2, 1) := by decide +kernel
theorem dX10_cell_9 : decode cX10_cell 9 = .ok (.invokevirtual 174, 3) := by decide +kernel
theorem dX10_cell_12 : decode cX10_cell 12 = .ok (.istore 4, 2) := by decide +kernel
theorem dX10_cell_14 : decode cX10_cell 14 = .ok (.iload 4, 2) := by decide +kernel
theorem dX10_cell_16 : decode cX10_cell 16 = .ok (.ifCond .eq 6, 3) := by decide +kernel
theorem dX10_cell_19 : decode cX10_cell 19 = .ok (.iload 4, 2) := by decide +kernel
theorem dX10_cell_21 : decode cX10_cell 21 = .ok (.ireturn, 1) := by decide +kernel
theorem dX10_cell_22 : decode cX10_cell 22 = .ok (.aload_n 0, 1) := by decide +kernel
theorem dX10_cell_23 : decode cX10_cell 23 = .ok (.getfield 30, 3) := by decide +kernel
theorem dX10_cell_26 : decode cX10_cell 26 = .ok (.iload_n 1, 1) := by decide +kernel
theorem dX10_cell_27 : decode cX10_cell 27 = .ok (.aaload, 1) := by decide +kernel
theorem dX10_cell_28 : decode cX10_cell 28 = .ok (.astore 5, 2) := by decide +kernel
theorem dX10_cell_30 : decode cX10_cell 30 = .ok (.iload_n 3, 1) := by decide +kernel
theorem dX10_cell_31 : decode cX10_cell 31 = .ok (.ifCond .ne 17, 3) := by decide +kernel
theorem dX10_cell_34 : decode cX10_cell 34 = .ok (.aload_n 0, 1) := by decide +kernel
theorem dX10_cell_35 : decode cX10_cell 35 = .ok (.aload 5, 2) := by decide +kernel
theorem dX10_cell_37 : decode cX10_cell 37 = .ok (.getfield 178, 3) := by decide +kernel
theorem dX10_cell_40 : decode cX10_cell 40 = .ok (.iload_n 2, 1) := by decide +kernel
theorem dX10_cell_41 : decode cX10_cell 41 = .ok (.iaload, 1) := by decide +kernel
theorem dX10_cell_42 : decode cX10_cell 42 = .ok (.putfield 116, 3) := by decide +kernel
theorem dX10_cell_45 : decode cX10_cell 45 = .ok (.goto 58, 3) := by decide +kernel
theorem dX10_cell_48 : decode cX10_cell 48 = .ok (.iload_n 3, 1) := by decide +kernel
theorem dX10_cell_49 : decode cX10_cell 49 = .ok (.iconst 1, 1) := by decide +kernel
theorem dX10_cell_50 : decode cX10_cell 50 = .ok (.if_icmp .ne 17, 3) := by decide +kernel
theorem dX10_cell_53 : decode cX10_cell 53 = .ok (.aload_n 0, 1) := by decide +kernel
theorem dX10_cell_54 : decode cX10_cell 54 = .ok (.aload 5, 2) := by decide +kernel
theorem dX10_cell_56 : decode cX10_cell 56 = .ok (.getfield 181, 3) := by decide +kernel
theorem dX10_cell_59 : decode cX10_cell 59 = .ok (.iload_n 2, 1) := by decide +kernel
theorem dX10_cell_60 : decode cX10_cell 60 = .ok (.iaload, 1) := by decide +kernel
theorem dX10_cell_61 : decode cX10_cell 61 = .ok (.putfield 116, 3) := by decide +kernel
theorem dX10_cell_64 : decode cX10_cell 64 = .ok (.goto 39, 3) := by decide +kernel
theorem dX10_cell_67 : decode cX10_cell 67 = .ok (.iload_n 3, 1) := by decide +kernel
theorem dX10_cell_68 : decode cX10_cell 68 = .ok (.iconst 2, 1) := by decide +kernel
theorem dX10_cell_69 : decode cX10_cell 69 = .ok (.if_icmp .ne 16, 3) := by decide +kernel
theorem dX10_cell_72 : decode cX10_cell 72 = .ok (.aload_n 0, 1) := by decide +kernel
theorem dX10_cell_73 : decode cX10_cell 73 = .ok (.aload 5, 2) := by decide +kernel
theorem dX10_cell_75 : decode cX10_cell 75 = .ok (.iload_n 2, 1) := by decide +kernel
theorem dX10_cell_76 : decode cX10_cell 76 = .ok (.invokevirtual 187, 3) := by decide +kernel
theorem dX10_cell_79 : decode cX10_cell 79 = .ok (.putfield 116, 3) := by decide +kernel
theorem dX10_cell_82 : decode cX10_cell 82 = .ok (.goto 21, 3) := by decide +kernel
theorem dX10_cell_85 : decode cX10_cell 85 = .ok (.aload_n 0, 1) := by decide +kernel
theorem dX10_cell_86 : decode cX10_cell 86 = .ok (.aload 5, 2) := by decide +kernel
theorem dX10_cell_88 : decode cX10_cell 88 = .ok (.getfield 184, 3) := by decide +kernel
theorem dX10_cell_91 : decode cX10_cell 91 = .ok (.iload_n 3, 1) := by decide +kernel
theorem dX10_cell_92 : decode cX10_cell 92 = .ok (.iconst 3, 1) := by decide +kernel
theorem dX10_cell_93 : decode cX10_cell 93 = .ok (.isub, 1) := by decide +kernel
theorem dX10_cell_94 : decode cX10_cell 94 = .ok (.bipush 48, 2) := by decide +kernel
theorem dX10_cell_96 : decode cX10_cell 96 = .ok (.imul, 1) := by decide +kernel
theorem dX10_cell_97 : decode cX10_cell 97 = .ok (.iload_n 2, 1) := by decide +kernel
theorem dX10_cell_98 : decode cX10_cell 98 = .ok (.iadd, 1) := by decide +kernel
theorem dX10_cell_99 : decode cX10_cell 99 = .ok (.iaload, 1) := by decide +kernel
theorem dX10_cell_100 : decode cX10_cell 100 = .ok (.putfield 116, 3) := by decide +kernel
theorem dX10_cell_103 : decode cX10_cell 103 = .ok (.iconst 1, 1) := by decide +kernel
theorem dX10_cell_104 : decode cX10_cell 104 = .ok (.ireturn, 1) := by decide +kernel
set_option maxRecDepth 20000 in
theorem ggX10_flow_X10_sideRefused : GoodIn wsX10_flow wsX10_sideRefused := goodIn_r _ [7, 1, 8, 9, 10, 6, 11, 12, 13, 14, 15, 16, 17, 18, 19, 20, 21, 22, 23, 24, 25, 26, 27, 28, 29, 30, 31, 32, 33, 34, 35, 36, 37, 38, 39, 40, 41, 42, 43, 44, 45, 46, 47, 48, 49, 50, 51, 52, 53, 54, 55, 56, 57, 58, 59, 60, 61, 62, 63, 64, 65] (by decide +kernel) (by decide +kernel)
set_option maxRecDepth 20000 in
theorem gX10_flow_X10_sideRefused : GoodIn wsX10_flow (wsV RX10 190 RX10 yX10_sideRefused wsX10_sideRefused) := goodIn_app (goodIn_of _ (by decide +kernel)) ggX10_flow_X10_sideRefused
theorem dX10_flow_0 : decode cX10_flow 0 = .ok (.aload_n 0, 1) := by decide +kernel
theorem dX10_flow_1 : decode cX10_flow 1 = .ok (.iload_n 1, 1) := by decide +kernel
theorem dX10_flow_2 : decode cX10_flow 2 = .ok (.iload_n 2, 1) := by decide +kernel
theorem dX10_flow_3 : decode cX10_flow 3 = .ok (.invokevirtual 190, 3) := by decide +kernel
theorem dX10_flow_6 : decode cX10_flow 6 = .ok (.istore_n 3, 1) := by decide +kernel
theorem dX10_flow_7 : decode cX10_flow 7 = .ok (.iload_n 3, 1) := by decide +kernel
theorem dX10_flow_8 : decode cX10_flow 8 = .ok (.ifCond .eq 5, 3) := by decide +kernel
theorem dX10_flow_11 : decode cX10_flow 11 = .ok (.iload_n 3, 1) := by decide +kernel
theorem dX10_flow_12 : decode cX10_flow 12 = .ok (.ireturn, 1) := by decide +kernel
theorem dX10_flow_13 : decode cX10_flow 13 = .ok (.aload_n 0, 1) := by decide +kernel
theorem dX10_flow_14 : decode cX10_flow 14 = .ok (.aload_n 0, 1) := by decide +kernel
theorem dX10_flow_15 : decode cX10_flow 15 = .ok (.getfield 30, 3) := by decide +kernel
theorem dX10_flow_18 : decode cX10_flow 18 = .ok (.iload_n 1, 1) := by decide +kernel
theorem dX10_flow_19 : decode cX10_flow 19 = .ok (.aaload, 1) := by decide +kernel
theorem dX10_flow_20 : decode cX10_flow 20 = .ok (.getfield 194, 3) := by decide +kernel
theorem dX10_flow_23 : decode cX10_flow 23 = .ok (.iload_n 2, 1) := by decide +kernel
theorem dX10_flow_24 : decode cX10_flow 24 = .ok (.iaload, 1) := by decide +kernel
theorem dX10_flow_25 : decode cX10_flow 25 = .ok (.putfield 116, 3) := by decide +kernel
theorem dX10_flow_28 : decode cX10_flow 28 = .ok (.iconst 1, 1) := by decide +kernel
theorem dX10_flow_29 : decode cX10_flow 29 = .ok (.ireturn, 1) := by decide +kernel
set_option maxRecDepth 20000 in
theorem ggX10_gate_X10_sideRefused : GoodIn wsX10_gate wsX10_sideRefused := goodIn_r _ [6, 1, 7, 8, 9, 5, 10, 11, 12, 13, 14, 15, 16, 17, 18, 19, 20, 21, 22, 23, 24, 25, 26, 27, 28, 29, 30, 31, 32, 33, 34, 35, 36, 37, 38, 39, 40, 41, 42, 43, 44, 45, 46, 47, 48, 49, 50, 51, 52, 53, 54, 55, 56, 57, 58, 59, 60, 61, 62, 63, 64] (by decide +kernel) (by decide +kernel)
set_option maxRecDepth 20000 in
theorem gX10_gate_X10_sideRefused : GoodIn wsX10_gate (wsV RX10 190 RX10 yX10_sideRefused wsX10_sideRefused) := goodIn_app (goodIn_of _ (by decide +kernel)) ggX10_gate_X10_sideRefused
theorem dX10_gate_0 : decode cX10_gate 0 = .ok (.aload_n 0, 1) := by decide +kernel
theorem dX10_gate_1 : decode cX10_gate 1 = .ok (.iload_n 1, 1) := by decide +kernel
theorem dX10_gate_2 : decode cX10_gate 2 = .ok (.iload_n 2, 1) := by decide +kernel
theorem dX10_gate_3 : decode cX10_gate 3 = .ok (.invokevirtual 190, 3) := by decide +kernel
theorem dX10_gate_6 : decode cX10_gate 6 = .ok (.istore 4, 2) := by decide +kernel
theorem dX10_gate_8 : decode cX10_gate 8 = .ok (.iload 4, 2) := by decide +kernel
theorem dX10_gate_10 : decode cX10_gate 10 = .ok (.ifCond .eq 6, 3) := by decide +kernel
theorem dX10_gate_13 : decode cX10_gate 13 = .ok (.iload 4, 2) := by decide +kernel
theorem dX10_gate_15 : decode cX10_gate 15 = .ok (.ireturn, 1) := by decide +kernel
theorem dX10_gate_16 : decode cX10_gate 16 = .ok (.aload_n 0, 1) := by decide +kernel
theorem dX10_gate_17 : decode cX10_gate 17 = .ok (.getfield 30, 3) := by decide +kernel
theorem dX10_gate_20 : decode cX10_gate 20 = .ok (.iload_n 1, 1) := by decide +kernel
theorem dX10_gate_21 : decode cX10_gate 21 = .ok (.aaload, 1) := by decide +kernel
theorem dX10_gate_22 : decode cX10_gate 22 = .ok (.getfield 197, 3) := by decide +kernel
theorem dX10_gate_25 : decode cX10_gate 25 = .ok (.iload_n 2, 1) := by decide +kernel
theorem dX10_gate_26 : decode cX10_gate 26 = .ok (.baload, 1) := by decide +kernel
theorem dX10_gate_27 : decode cX10_gate 27 = .ok (.ifCond .eq 7, 3) := by decide +kernel
theorem dX10_gate_30 : decode cX10_gate 30 = .ok (.iconst 1, 1) := by decide +kernel
theorem dX10_gate_31 : decode cX10_gate 31 = .ok (.goto 4, 3) := by decide +kernel
theorem dX10_gate_34 : decode cX10_gate 34 = .ok (.iconst 0, 1) := by decide +kernel
theorem dX10_gate_35 : decode cX10_gate 35 = .ok (.istore 5, 2) := by decide +kernel
theorem dX10_gate_37 : decode cX10_gate 37 = .ok (.aload_n 0, 1) := by decide +kernel
theorem dX10_gate_38 : decode cX10_gate 38 = .ok (.getfield 30, 3) := by decide +kernel
theorem dX10_gate_41 : decode cX10_gate 41 = .ok (.iload_n 1, 1) := by decide +kernel
theorem dX10_gate_42 : decode cX10_gate 42 = .ok (.aaload, 1) := by decide +kernel
theorem dX10_gate_43 : decode cX10_gate 43 = .ok (.getfield 197, 3) := by decide +kernel
theorem dX10_gate_46 : decode cX10_gate 46 = .ok (.iload_n 2, 1) := by decide +kernel
theorem dX10_gate_47 : decode cX10_gate 47 = .ok (.iload_n 3, 1) := by decide +kernel
theorem dX10_gate_48 : decode cX10_gate 48 = .ok (.bastore, 1) := by decide +kernel
theorem dX10_gate_49 : decode cX10_gate 49 = .ok (.iload 5, 2) := by decide +kernel
theorem dX10_gate_51 : decode cX10_gate 51 = .ok (.ireturn, 1) := by decide +kernel
set_option maxRecDepth 20000 in
theorem ggX10_law_X10_within : GoodIn wsX10_law wsX10_within := goodIn_r _ [5] (by decide +kernel) (by decide +kernel)
set_option maxRecDepth 20000 in
theorem gX10_law_X10_within : GoodIn wsX10_law (va_wsS RX10 101 yX10_within wsX10_within) := goodIn_app (goodIn_of _ (by decide +kernel)) ggX10_law_X10_within
set_option maxRecDepth 20000 in
theorem ggX10_law_X10_boardRefused : GoodIn wsX10_law wsX10_boardRefused := goodIn_r _ [9, 1, 10, 11, 4, 12, 13, 14, 15, 16, 17, 18, 19, 20, 21, 22, 23, 24, 25, 26, 27, 28, 29, 30, 31, 32, 33, 34, 35, 36, 37, 38, 39, 40, 41, 42, 43, 44, 45, 46, 47, 48, 49, 50, 51, 52, 53, 54, 55, 56] (by decide +kernel) (by decide +kernel)
set_option maxRecDepth 20000 in
theorem gX10_law_X10_boardRefused : GoodIn wsX10_law (wsV RX10 170 RX10 yX10_boardRefused wsX10_boardRefused) := goodIn_app (goodIn_of _ (by decide +kernel)) ggX10_law_X10_boardRefused
theorem dX10_law_0 : decode cX10_law 0 = .ok (.aload_n 0, 1) := by decide +kernel
theorem dX10_law_1 : decode cX10_law 1 = .ok (.iload_n 2, 1) := by decide +kernel
theorem dX10_law_2 : decode cX10_law 2 = .ok (.iconst 1, 1) := by decide +kernel
theorem dX10_law_3 : decode cX10_law 3 = .ok (.bipush 8, 2) := by decide +kernel
theorem dX10_law_5 : decode cX10_law 5 = .ok (.invokestatic 101, 3) := by decide +kernel
theorem dX10_law_8 : decode cX10_law 8 = .ok (.ifCond .eq 18, 3) := by decide +kernel
theorem dX10_law_11 : decode cX10_law 11 = .ok (.iload_n 3, 1) := by decide +kernel
theorem dX10_law_12 : decode cX10_law 12 = .ok (.iconst 2, 1) := by decide +kernel
theorem dX10_law_13 : decode cX10_law 13 = .ok (.sipush 1000, 3) := by decide +kernel
theorem dX10_law_16 : decode cX10_law 16 = .ok (.invokestatic 101, 3) := by decide +kernel
theorem dX10_law_19 : decode cX10_law 19 = .ok (.ifCond .eq 7, 3) := by decide +kernel
theorem dX10_law_22 : decode cX10_law 22 = .ok (.iconst 1, 1) := by decide +kernel
theorem dX10_law_23 : decode cX10_law 23 = .ok (.goto 4, 3) := by decide +kernel
theorem dX10_law_26 : decode cX10_law 26 = .ok (.iconst 0, 1) := by decide +kernel
theorem dX10_law_27 : decode cX10_law 27 = .ok (.iload_n 1, 1) := by decide +kernel
theorem dX10_law_28 : decode cX10_law 28 = .ok (.invokevirtual 170, 3) := by decide +kernel
theorem dX10_law_31 : decode cX10_law 31 = .ok (.istore 4, 2) := by decide +kernel
theorem dX10_law_33 : decode cX10_law 33 = .ok (.iload 4, 2) := by decide +kernel
theorem dX10_law_35 : decode cX10_law 35 = .ok (.ifCond .eq 6, 3) := by decide +kernel
theorem dX10_law_38 : decode cX10_law 38 = .ok (.iload 4, 2) := by decide +kernel
theorem dX10_law_40 : decode cX10_law 40 = .ok (.ireturn, 1) := by decide +kernel
theorem dX10_law_41 : decode cX10_law 41 = .ok (.aload_n 0, 1) := by decide +kernel
theorem dX10_law_42 : decode cX10_law 42 = .ok (.getfield 30, 3) := by decide +kernel
theorem dX10_law_45 : decode cX10_law 45 = .ok (.iload_n 1, 1) := by decide +kernel
theorem dX10_law_46 : decode cX10_law 46 = .ok (.aaload, 1) := by decide +kernel
theorem dX10_law_47 : decode cX10_law 47 = .ok (.getfield 201, 3) := by decide +kernel
theorem dX10_law_50 : decode cX10_law 50 = .ok (.iload_n 2, 1) := by decide +kernel
theorem dX10_law_51 : decode cX10_law 51 = .ok (.putfield 205, 3) := by decide +kernel
theorem dX10_law_54 : decode cX10_law 54 = .ok (.aload_n 0, 1) := by decide +kernel
theorem dX10_law_55 : decode cX10_law 55 = .ok (.getfield 30, 3) := by decide +kernel
theorem dX10_law_58 : decode cX10_law 58 = .ok (.iload_n 1, 1) := by decide +kernel
theorem dX10_law_59 : decode cX10_law 59 = .ok (.aaload, 1) := by decide +kernel
theorem dX10_law_60 : decode cX10_law 60 = .ok (.getfield 201, 3) := by decide +kernel
theorem dX10_law_63 : decode cX10_law 63 = .ok (.iload_n 3, 1) := by decide +kernel
theorem dX10_law_64 : decode cX10_law 64 = .ok (.putfield 210, 3) := by decide +kernel
theorem dX10_law_67 : decode cX10_law 67 = .ok (.iconst 1, 1) := by decide +kernel
theorem dX10_law_68 : decode cX10_law 68 = .ok (.ireturn, 1) := by decide +kernel
set_option maxRecDepth 20000 in
theorem ggX10_wind_X10_within : GoodIn wsX10_wind wsX10_within := goodIn_r _ [5] (by decide +kernel) (by decide +kernel)
set_option maxRecDepth 20000 in
theorem gX10_wind_X10_within : GoodIn wsX10_wind (va_wsS RX10 101 yX10_within wsX10_within) := goodIn_app (goodIn_of _ (by decide +kernel)) ggX10_wind_X10_within
set_option maxRecDepth 20000 in
theorem ggX10_wind_X10_boardRefused : GoodIn wsX10_wind wsX10_boardRefused := goodIn_r _ [9, 1, 10, 11, 4, 12, 13, 14, 15, 16, 17, 18, 19, 20, 21, 22, 23, 24, 25, 26, 27, 28, 29, 30, 31, 32, 33, 34, 35, 36, 37, 38, 39, 40, 41, 42, 43, 44, 45, 46, 47, 48, 49, 50, 51, 52, 53, 54, 55, 56] (by decide +kernel) (by decide +kernel)
set_option maxRecDepth 20000 in
theorem gX10_wind_X10_boardRefused : GoodIn wsX10_wind (wsV RX10 170 RX10 yX10_boardRefused wsX10_boardRefused) := goodIn_app (goodIn_of _ (by decide +kernel)) ggX10_wind_X10_boardRefused
theorem dX10_wind_0 : decode cX10_wind 0 = .ok (.aload_n 0, 1) := by decide +kernel
theorem dX10_wind_1 : decode cX10_wind 1 = .ok (.iload_n 2, 1) := by decide +kernel
theorem dX10_wind_2 : decode cX10_wind 2 = .ok (.bipush (-50), 2) := by decide +kernel
theorem dX10_wind_4 : decode cX10_wind 4 = .ok (.bipush 50, 2) := by decide +kernel
theorem dX10_wind_6 : decode cX10_wind 6 = .ok (.invokestatic 101, 3) := by decide +kernel
theorem dX10_wind_9 : decode cX10_wind 9 = .ok (.ifCond .eq 18, 3) := by decide +kernel
theorem dX10_wind_12 : decode cX10_wind 12 = .ok (.iload_n 3, 1) := by decide +kernel
theorem dX10_wind_13 : decode cX10_wind 13 = .ok (.bipush (-50), 2) := by decide +kernel
theorem dX10_wind_15 : decode cX10_wind 15 = .ok (.bipush 50, 2) := by decide +kernel
theorem dX10_wind_17 : decode cX10_wind 17 = .ok (.invokestatic 101, 3) := by decide +kernel
theorem dX10_wind_20 : decode cX10_wind 20 = .ok (.ifCond .eq 7, 3) := by decide +kernel
theorem dX10_wind_23 : decode cX10_wind 23 = .ok (.iconst 1, 1) := by decide +kernel
theorem dX10_wind_24 : decode cX10_wind 24 = .ok (.goto 4, 3) := by decide +kernel
theorem dX10_wind_27 : decode cX10_wind 27 = .ok (.iconst 0, 1) := by decide +kernel
theorem dX10_wind_28 : decode cX10_wind 28 = .ok (.iload_n 1, 1) := by decide +kernel
theorem dX10_wind_29 : decode cX10_wind 29 = .ok (.invokevirtual 170, 3) := by decide +kernel
theorem dX10_wind_32 : decode cX10_wind 32 = .ok (.istore 4, 2) := by decide +kernel
theorem dX10_wind_34 : decode cX10_wind 34 = .ok (.iload 4, 2) := by decide +kernel
theorem dX10_wind_36 : decode cX10_wind 36 = .ok (.ifCond .eq 6, 3) := by decide +kernel
theorem dX10_wind_39 : decode cX10_wind 39 = .ok (.iload 4, 2) := by decide +kernel
theorem dX10_wind_41 : decode cX10_wind 41 = .ok (.ireturn, 1) := by decide +kernel
theorem dX10_wind_42 : decode cX10_wind 42 = .ok (.aload_n 0, 1) := by decide +kernel
theorem dX10_wind_43 : decode cX10_wind 43 = .ok (.getfield 30, 3) := by decide +kernel
theorem dX10_wind_46 : decode cX10_wind 46 = .ok (.iload_n 1, 1) := by decide +kernel
theorem dX10_wind_47 : decode cX10_wind 47 = .ok (.aaload, 1) := by decide +kernel
theorem dX10_wind_48 : decode cX10_wind 48 = .ok (.getfield 201, 3) := by decide +kernel
theorem dX10_wind_51 : decode cX10_wind 51 = .ok (.iload_n 2, 1) := by decide +kernel
theorem dX10_wind_52 : decode cX10_wind 52 = .ok (.putfield 213, 3) := by decide +kernel
theorem dX10_wind_55 : decode cX10_wind 55 = .ok (.aload_n 0, 1) := by decide +kernel
theorem dX10_wind_56 : decode cX10_wind 56 = .ok (.getfield 30, 3) := by decide +kernel
theorem dX10_wind_59 : decode cX10_wind 59 = .ok (.iload_n 1, 1) := by decide +kernel
theorem dX10_wind_60 : decode cX10_wind 60 = .ok (.aaload, 1) := by decide +kernel
theorem dX10_wind_61 : decode cX10_wind 61 = .ok (.getfield 201, 3) := by decide +kernel
theorem dX10_wind_64 : decode cX10_wind 64 = .ok (.iload_n 3, 1) := by decide +kernel
theorem dX10_wind_65 : decode cX10_wind 65 = .ok (.putfield 216, 3) := by decide +kernel
theorem dX10_wind_68 : decode cX10_wind 68 = .ok (.iconst 1, 1) := by decide +kernel
theorem dX10_wind_69 : decode cX10_wind 69 = .ok (.ireturn, 1) := by decide +kernel
set_option maxRecDepth 20000 in
theorem ggX10_river_X10_within : GoodIn wsX10_river wsX10_within := goodIn_r _ [5] (by decide +kernel) (by decide +kernel)
set_option maxRecDepth 20000 in
theorem gX10_river_X10_within : GoodIn wsX10_river (va_wsS RX10 101 yX10_within wsX10_within) := goodIn_app (goodIn_of _ (by decide +kernel)) ggX10_river_X10_within
set_option maxRecDepth 20000 in
theorem ggX10_river_X10_boardRefused : GoodIn wsX10_river wsX10_boardRefused := goodIn_r _ [9, 1, 10, 11, 4, 12, 13, 14, 15, 16, 17, 18, 26, 27, 28, 29, 30, 31, 32, 33, 34, 35, 36, 37, 38, 39, 40, 41, 42, 43, 44, 45, 46, 47, 48, 49, 50, 51, 52, 53, 54, 55, 56, 57, 58, 59, 60, 61, 62, 63] (by decide +kernel) (by decide +kernel)
set_option maxRecDepth 20000 in
theorem gX10_river_X10_boardRefused : GoodIn wsX10_river (wsV RX10 170 RX10 yX10_boardRefused wsX10_boardRefused) := goodIn_app (goodIn_of _ (by decide +kernel)) ggX10_river_X10_boardRefused
set_option maxRecDepth 20000 in
theorem ggX10_river_X0_hasCell : GoodIn wsX10_river wsX0_hasCell := goodIn_r _ [23, 24, 25, 45, 46, 47, 48, 49, 50, 51, 52, 53, 54, 55, 56, 57, 58, 59, 60, 61, 62, 63] (by decide +kernel) (by decide +kernel)
set_option maxRecDepth 20000 in
theorem gX10_river_X0_hasCell : GoodIn wsX10_river (wsV RX10 228 RX0 yX0_hasCell wsX0_hasCell) := goodIn_app (goodIn_of _ (by decide +kernel)) ggX10_river_X0_hasCell
set_option maxRecDepth 20000 in
theorem ggX10_river_X10_found : GoodIn wsX10_river wsX10_found := goodIn_r _ [16, 17, 18, 26, 27, 28, 29, 30, 31, 32, 33, 34, 35, 36, 37, 38, 39, 40, 41, 42, 43, 44] (by decide +kernel) (by decide +kernel)
set_option maxRecDepth 20000 in
theorem gX10_river_X10_found : GoodIn wsX10_river (wsV RX10 91 RX10 yX10_found wsX10_found) := goodIn_app (goodIn_of _ (by decide +kernel)) ggX10_river_X10_found
theorem dX10_river_0 : decode cX10_river 0 = .ok (.aload_n 0, 1) := by decide +kernel
theorem dX10_river_1 : decode cX10_river 1 = .ok (.iload_n 3, 1) := by decide +kernel
theorem dX10_river_2 : decode cX10_river 2 = .ok (.iconst 0, 1) := by decide +kernel
theorem dX10_river_3 : decode cX10_river 3 = .ok (.sipush 1000, 3) := by decide +kernel
theorem dX10_river_6 : decode cX10_river 6 = .ok (.invokestatic 101, 3) := by decide +kernel
theorem dX10_river_9 : decode cX10_river 9 = .ok (.iload_n 1, 1) := by decide +kernel
theorem dX10_river_10 : decode cX10_river 10 = .ok (.invokevirtual 170, 3) := by decide +kernel
theorem dX10_river_13 : decode cX10_river 13 = .ok (.istore 4, 2) := by decide +kernel
theorem dX10_river_15 : decode cX10_river 15 = .ok (.iload 4, 2) := by decide +kernel
theorem dX10_river_17 : decode cX10_river 17 = .ok (.ifCond .eq 6, 3) := by decide +kernel
theorem dX10_river_20 : decode cX10_river 20 = .ok (.iload 4, 2) := by decide +kernel
theorem dX10_river_22 : decode cX10_river 22 = .ok (.ireturn, 1) := by decide +kernel
theorem dX10_river_23 : decode cX10_river 23 = .ok (.aload_n 0, 1) := by decide +kernel
theorem dX10_river_24 : decode cX10_river 24 = .ok (.getfield 30, 3) := by decide +kernel
theorem dX10_river_27 : decode cX10_river 27 = .ok (.iload_n 1, 1) := by decide +kernel
theorem dX10_river_28 : decode cX10_river 28 = .ok (.aaload, 1) := by decide +kernel
theorem dX10_river_29 : decode cX10_river 29 = .ok (.getfield 219, 3) := by decide +kernel
theorem dX10_river_32 : decode cX10_river 32 = .ok (.astore 5, 2) := by decide +kernel
theorem dX10_river_34 : decode cX10_river 34 = .ok (.aload 5, 2) := by decide +kernel
theorem dX10_river_36 : decode cX10_river 36 = .ok (.getfield 223, 3) := by decide +kernel
theorem dX10_river_39 : decode cX10_river 39 = .ok (.iconst 4, 1) := by decide +kernel
theorem dX10_river_40 : decode cX10_river 40 = .ok (.if_icmp .lt 6, 3) := by decide +kernel
theorem dX10_river_43 : decode cX10_river 43 = .ok (.bipush (-2), 2) := by decide +kernel
theorem dX10_river_45 : decode cX10_river 45 = .ok (.ireturn, 1) := by decide +kernel
theorem dX10_river_46 : decode cX10_river 46 = .ok (.aload_n 0, 1) := by decide +kernel
theorem dX10_river_47 : decode cX10_river 47 = .ok (.getfield 30, 3) := by decide +kernel
theorem dX10_river_50 : decode cX10_river 50 = .ok (.iload_n 1, 1) := by decide +kernel
theorem dX10_river_51 : decode cX10_river 51 = .ok (.aaload, 1) := by decide +kernel
theorem dX10_river_52 : decode cX10_river 52 = .ok (.iload_n 2, 1) := by decide +kernel
theorem dX10_river_53 : decode cX10_river 53 = .ok (.invokevirtual 228, 3) := by decide +kernel
theorem dX10_river_56 : decode cX10_river 56 = .ok (.ifCond .ne 9, 3) := by decide +kernel
theorem dX10_river_59 : decode cX10_river 59 = .ok (.aload_n 0, 1) := by decide +kernel
theorem dX10_river_60 : decode cX10_river 60 = .ok (.iconst 2, 1) := by decide +kernel
theorem dX10_river_61 : decode cX10_river 61 = .ok (.invokevirtual 91, 3) := by decide +kernel
theorem dX10_river_64 : decode cX10_river 64 = .ok (.ireturn, 1) := by decide +kernel
theorem dX10_river_65 : decode cX10_river 65 = .ok (.aload 5, 2) := by decide +kernel
theorem dX10_river_67 : decode cX10_river 67 = .ok (.getfield 231, 3) := by decide +kernel
theorem dX10_river_70 : decode cX10_river 70 = .ok (.aload 5, 2) := by decide +kernel
theorem dX10_river_72 : decode cX10_river 72 = .ok (.getfield 223, 3) := by decide +kernel
theorem dX10_river_75 : decode cX10_river 75 = .ok (.iload_n 2, 1) := by decide +kernel
theorem dX10_river_76 : decode cX10_river 76 = .ok (.iastore, 1) := by decide +kernel
theorem dX10_river_77 : decode cX10_river 77 = .ok (.aload 5, 2) := by decide +kernel
theorem dX10_river_79 : decode cX10_river 79 = .ok (.getfield 234, 3) := by decide +kernel
theorem dX10_river_82 : decode cX10_river 82 = .ok (.aload 5, 2) := by decide +kernel
theorem dX10_river_84 : decode cX10_river 84 = .ok (.getfield 223, 3) := by decide +kernel
theorem dX10_river_87 : decode cX10_river 87 = .ok (.iload_n 3, 1) := by decide +kernel
theorem dX10_river_88 : decode cX10_river 88 = .ok (.iastore, 1) := by decide +kernel
theorem dX10_river_89 : decode cX10_river 89 = .ok (.aload 5, 2) := by decide +kernel
theorem dX10_river_91 : decode cX10_river 91 = .ok (.dup, 1) := by decide +kernel
theorem dX10_river_92 : decode cX10_river 92 = .ok (.getfield 223, 3) := by decide +kernel
theorem dX10_river_95 : decode cX10_river 95 = .ok (.iconst 1, 1) := by decide +kernel
theorem dX10_river_96 : decode cX10_river 96 = .ok (.iadd, 1) := by decide +kernel
theorem dX10_river_97 : decode cX10_river 97 = .ok (.putfield 223, 3) := by decide +kernel
theorem dX10_river_100 : decode cX10_river 100 = .ok (.aload 5, 2) := by decide +kernel
theorem dX10_river_102 : decode cX10_river 102 = .ok (.getfield 223, 3) := by decide +kernel
theorem dX10_river_105 : decode cX10_river 105 = .ok (.ireturn, 1) := by decide +kernel
set_option maxRecDepth 20000 in
theorem ggX10_tide_X7_isNumber : GoodIn wsX10_tide wsX7_isNumber := goodIn_r _ [7, 8, 70, 71] (by decide +kernel) (by decide +kernel)
set_option maxRecDepth 20000 in
theorem gX10_tide_X7_isNumber : GoodIn wsX10_tide (wsV RX10 87 RX7 yX7_isNumber wsX7_isNumber) := goodIn_app (goodIn_of _ (by decide +kernel)) ggX10_tide_X7_isNumber
set_option maxRecDepth 20000 in
theorem ggX10_tide_X10_within : GoodIn wsX10_tide wsX10_within := goodIn_r _ [12] (by decide +kernel) (by decide +kernel)
set_option maxRecDepth 20000 in
theorem gX10_tide_X10_within : GoodIn wsX10_tide (va_wsS RX10 101 yX10_within wsX10_within) := goodIn_app (goodIn_of _ (by decide +kernel)) ggX10_tide_X10_within
set_option maxRecDepth 20000 in
theorem ggX10_tide_X10_boardRefused : GoodIn wsX10_tide wsX10_boardRefused := goodIn_r _ [16, 2, 17, 18, 11, 19, 20, 21, 22, 23, 24, 25, 32, 33, 34, 35, 36, 37, 38, 39, 40, 41, 42, 43, 44, 45, 46, 47, 48, 49, 50, 51, 52, 53, 54, 55, 56, 57, 58, 59, 60, 61, 62, 63, 64, 65, 66, 67, 68, 69] (by decide +kernel) (by decide +kernel)
set_option maxRecDepth 20000 in
theorem gX10_tide_X10_boardRefused : GoodIn wsX10_tide (wsV RX10 170 RX10 yX10_boardRefused wsX10_boardRefused) := goodIn_app (goodIn_of _ (by decide +kernel)) ggX10_tide_X10_boardRefused
set_option maxRecDepth 20000 in
theorem ggX10_tide_X0_isTidal : GoodIn wsX10_tide wsX0_isTidal := goodIn_r _ [30, 31, 51, 52, 53, 54, 55, 56, 57, 58, 59, 60, 61, 62, 63, 64, 65, 66, 67, 68, 69] (by decide +kernel) (by decide +kernel)
set_option maxRecDepth 20000 in
theorem gX10_tide_X0_isTidal : GoodIn wsX10_tide (wsV RX10 237 RX0 yX0_isTidal wsX0_isTidal) := goodIn_app (goodIn_of _ (by decide +kernel)) ggX10_tide_X0_isTidal
set_option maxRecDepth 20000 in
theorem ggX10_tide_X10_found : GoodIn wsX10_tide wsX10_found := goodIn_r _ [23, 24, 25, 32, 33, 34, 35, 36, 37, 38, 39, 40, 41, 42, 43, 44, 45, 46, 47, 48, 49, 50] (by decide +kernel) (by decide +kernel)
set_option maxRecDepth 20000 in
theorem gX10_tide_X10_found : GoodIn wsX10_tide (wsV RX10 91 RX10 yX10_found wsX10_found) := goodIn_app (goodIn_of _ (by decide +kernel)) ggX10_tide_X10_found
theorem dX10_tide_0 : decode cX10_tide 0 = .ok (.aload_n 0, 1) := by decide +kernel
theorem dX10_tide_1 : decode cX10_tide 1 = .ok (.aload_n 0, 1) := by decide +kernel
theorem dX10_tide_2 : decode cX10_tide 2 = .ok (.getfield 14, 3) := by decide +kernel
theorem dX10_tide_5 : decode cX10_tide 5 = .ok (.iload_n 2, 1) := by decide +kernel
theorem dX10_tide_6 : decode cX10_tide 6 = .ok (.invokevirtual 87, 3) := by decide +kernel
theorem dX10_tide_9 : decode cX10_tide 9 = .ok (.ifCond .eq 20, 3) := by decide +kernel
theorem dX10_tide_12 : decode cX10_tide 12 = .ok (.iload_n 3, 1) := by decide +kernel
theorem dX10_tide_13 : decode cX10_tide 13 = .ok (.sipush (-500), 3) := by decide +kernel
theorem dX10_tide_16 : decode cX10_tide 16 = .ok (.sipush 500, 3) := by decide +kernel
theorem dX10_tide_19 : decode cX10_tide 19 = .ok (.invokestatic 101, 3) := by decide +kernel
theorem dX10_tide_22 : decode cX10_tide 22 = .ok (.ifCond .eq 7, 3) := by decide +kernel
theorem dX10_tide_25 : decode cX10_tide 25 = .ok (.iconst 1, 1) := by decide +kernel
theorem dX10_tide_26 : decode cX10_tide 26 = .ok (.goto 4, 3) := by decide +kernel
theorem dX10_tide_29 : decode cX10_tide 29 = .ok (.iconst 0, 1) := by decide +kernel
theorem dX10_tide_30 : decode cX10_tide 30 = .ok (.iload_n 1, 1) := by decide +kernel
theorem dX10_tide_31 : decode cX10_tide 31 = .ok (.invokevirtual 170, 3) := by decide +kernel
theorem dX10_tide_34 : decode cX10_tide 34 = .ok (.istore 4, 2) := by decide +kernel
theorem dX10_tide_36 : decode cX10_tide 36 = .ok (.iload 4, 2) := by decide +kernel
theorem dX10_tide_38 : decode cX10_tide 38 = .ok (.ifCond .eq 6, 3) := by decide +kernel
theorem dX10_tide_41 : decode cX10_tide 41 = .ok (.iload 4, 2) := by decide +kernel
theorem dX10_tide_43 : decode cX10_tide 43 = .ok (.ireturn, 1) := by decide +kernel
theorem dX10_tide_44 : decode cX10_tide 44 = .ok (.aload_n 0, 1) := by decide +kernel
theorem dX10_tide_45 : decode cX10_tide 45 = .ok (.getfield 30, 3) := by decide +kernel
theorem dX10_tide_48 : decode cX10_tide 48 = .ok (.iload_n 1, 1) := by decide +kernel
theorem dX10_tide_49 : decode cX10_tide 49 = .ok (.aaload, 1) := by decide +kernel
theorem dX10_tide_50 : decode cX10_tide 50 = .ok (.invokevirtual 237, 3) := by decide +kernel
theorem dX10_tide_53 : decode cX10_tide 53 = .ok (.ifCond .ne 9, 3) := by decide +kernel
theorem dX10_tide_56 : decode cX10_tide 56 = .ok (.aload_n 0, 1) := by decide +kernel
theorem dX10_tide_57 : decode cX10_tide 57 = .ok (.iconst 3, 1) := by decide +kernel
theorem dX10_tide_58 : decode cX10_tide 58 = .ok (.invokevirtual 91, 3) := by decide +kernel
theorem dX10_tide_61 : decode cX10_tide 61 = .ok (.ireturn, 1) := by decide +kernel
theorem dX10_tide_62 : decode cX10_tide 62 = .ok (.aload_n 0, 1) := by decide +kernel
theorem dX10_tide_63 : decode cX10_tide 63 = .ok (.getfield 30, 3) := by decide +kernel
theorem dX10_tide_66 : decode cX10_tide 66 = .ok (.iload_n 1, 1) := by decide +kernel
theorem dX10_tide_67 : decode cX10_tide 67 = .ok (.aaload, 1) := by decide +kernel
theorem dX10_tide_68 : decode cX10_tide 68 = .ok (.iload_n 2, 1) := by decide +kernel
theorem dX10_tide_69 : decode cX10_tide 69 = .ok (.putfield 240, 3) := by decide +kernel
theorem dX10_tide_72 : decode cX10_tide 72 = .ok (.aload_n 0, 1) := by decide +kernel
theorem dX10_tide_73 : decode cX10_tide 73 = .ok (.getfield 30, 3) := by decide +kernel
theorem dX10_tide_76 : decode cX10_tide 76 = .ok (.iload_n 1, 1) := by decide +kernel
theorem dX10_tide_77 : decode cX10_tide 77 = .ok (.aaload, 1) := by decide +kernel
theorem dX10_tide_78 : decode cX10_tide 78 = .ok (.iload_n 3, 1) := by decide +kernel
theorem dX10_tide_79 : decode cX10_tide 79 = .ok (.putfield 243, 3) := by decide +kernel
theorem dX10_tide_82 : decode cX10_tide 82 = .ok (.iconst 1, 1) := by decide +kernel
theorem dX10_tide_83 : decode cX10_tide 83 = .ok (.ireturn, 1) := by decide +kernel
set_option maxRecDepth 20000 in
theorem ggX10_step_X10_within : GoodIn wsX10_step wsX10_within := goodIn_r _ [4] (by decide +kernel) (by decide +kernel)
set_option maxRecDepth 20000 in
theorem gX10_step_X10_within : GoodIn wsX10_step (va_wsS RX10 101 yX10_within wsX10_within) := goodIn_app (goodIn_of _ (by decide +kernel)) ggX10_step_X10_within
set_option maxRecDepth 20000 in
theorem ggX10_step_X10_boardRefused : GoodIn wsX10_step wsX10_boardRefused := goodIn_r _ [8, 9, 10, 11, 3, 12, 13, 14, 15, 16, 17, 18, 163, 164, 165, 166, 167, 168, 169, 170, 171, 172, 173, 174, 175, 176, 177, 178, 179, 180, 181, 182, 183, 184, 185, 186, 187, 188, 189, 190, 191, 192, 193, 194, 195, 196, 197, 198, 199, 200] (by decide +kernel) (by decide +kernel)
set_option maxRecDepth 20000 in
theorem gX10_step_X10_boardRefused : GoodIn wsX10_step (wsV RX10 170 RX10 yX10_boardRefused wsX10_boardRefused) := goodIn_app (goodIn_of _ (by decide +kernel)) ggX10_step_X10_boardRefused
set_option maxRecDepth 20000 in
theorem ggX10_step_X10_stepWhole : GoodIn wsX10_step wsX10_stepWhole := goodIn_r _ [22, 9, 23, 24, 25, 26, 27, 28, 29, 30, 31, 32, 33, 34, 35, 36, 37, 38, 39, 40, 41, 42, 43, 44, 45, 46, 47, 48, 49, 50, 51, 52, 53, 54, 55, 56, 57, 58, 59, 60, 61, 62, 63, 64, 65, 66, 67, 68, 69, 70, 71, 72, 73, 74, 75, 76, 77, 78, 79, 80, 81, 82, 83, 84, 85, 86, 87, 88, 89, 90, 91, 92, 93, 94, 95, 96, 97, 98, 99, 100, 101, 102, 103, 104, 105, 106, 107, 108, 109, 110, 111, 112, 113, 114, 115, 116, 117, 118, 119, 120, 121, 122, 123, 124, 125, 126, 127, 128, 129, 130, 131, 132, 133, 134, 135, 136, 137, 138, 139, 140, 141, 142, 143, 144, 145, 146, 147, 148, 149, 150, 151, 152, 153, 154, 155, 156, 157, 158, 159, 160, 161, 162, 163, 164, 165, 166, 167, 168, 169, 170, 171, 172, 173, 174, 175, 176, 177, 178, 179, 180, 181, 201, 202, 203, 204, 205, 206, 207, 208, 209, 210, 211, 212, 213, 182, 183, 184, 185, 186, 187, 188, 189, 190, 191, 192, 193, 194, 195, 196, 197, 198, 199, 200, 214, 215, 216, 217, 218, 219, 220, 221, 222] (by decide +kernel) (by decide +kernel)
set_option maxRecDepth 20000 in
theorem gX10_step_X10_stepWhole : GoodIn wsX10_step (wsV RX10 246 RX10 yX10_stepWhole wsX10_stepWhole) := goodIn_app (goodIn_of _ (by decide +kernel)) ggX10_step_X10_stepWhole
theorem dX10_step_0 : decode cX10_step 0 = .ok (.aload_n 0, 1) := by decide +kernel
theorem dX10_step_1 : decode cX10_step 1 = .ok (.iload_n 2, 1) := by decide +kernel
theorem dX10_step_2 : decode cX10_step 2 = .ok (.iconst 0, 1) := by decide +kernel
theorem dX10_step_3 : decode cX10_step 3 = .ok (.sipush 200, 3) := by decide +kernel
theorem dX10_step_6 : decode cX10_step 6 = .ok (.invokestatic 101, 3) := by decide +kernel
theorem dX10_step_9 : decode cX10_step 9 = .ok (.iload_n 1, 1) := by decide +kernel
theorem dX10_step_10 : decode cX10_step 10 = .ok (.invokevirtual 170, 3) := by decide +kernel
theorem dX10_step_13 : decode cX10_step 13 = .ok (.istore_n 3, 1) := by decide +kernel
theorem dX10_step_14 : decode cX10_step 14 = .ok (.iload_n 3, 1) := by decide +kernel
theorem dX10_step_15 : decode cX10_step 15 = .ok (.ifCond .eq 5, 3) := by decide +kernel
theorem dX10_step_18 : decode cX10_step 18 = .ok (.iload_n 3, 1) := by decide +kernel
theorem dX10_step_19 : decode cX10_step 19 = .ok (.ireturn, 1) := by decide +kernel
theorem dX10_step_20 : decode cX10_step 20 = .ok (.iconst 0, 1) := by decide +kernel
theorem dX10_step_21 : decode cX10_step 21 = .ok (.istore 4, 2) := by decide +kernel
theorem dX10_step_23 : decode cX10_step 23 = .ok (.iload 4, 2) := by decide +kernel
theorem dX10_step_25 : decode cX10_step 25 = .ok (.iload_n 2, 1) := by decide +kernel
theorem dX10_step_26 : decode cX10_step 26 = .ok (.if_icmp .ge 17, 3) := by decide +kernel
theorem dX10_step_29 : decode cX10_step 29 = .ok (.aload_n 0, 1) := by decide +kernel
theorem dX10_step_30 : decode cX10_step 30 = .ok (.iload_n 1, 1) := by decide +kernel
theorem dX10_step_31 : decode cX10_step 31 = .ok (.invokevirtual 246, 3) := by decide +kernel
theorem dX10_step_34 : decode cX10_step 34 = .ok (.ifCond .eq 9, 3) := by decide +kernel
theorem dX10_step_37 : decode cX10_step 37 = .ok (.iinc 4 1, 3) := by decide +kernel
theorem dX10_step_40 : decode cX10_step 40 = .ok (.goto (-17), 3) := by decide +kernel
theorem dX10_step_43 : decode cX10_step 43 = .ok (.iload 4, 2) := by decide +kernel
theorem dX10_step_45 : decode cX10_step 45 = .ok (.ireturn, 1) := by decide +kernel
set_option maxRecDepth 20000 in
theorem ggX10_told_X10_within : GoodIn wsX10_told wsX10_within := goodIn_r _ [6] (by decide +kernel) (by decide +kernel)
set_option maxRecDepth 20000 in
theorem gX10_told_X10_within : GoodIn wsX10_told (va_wsS RX10 101 yX10_within wsX10_within) := goodIn_app (goodIn_of _ (by decide +kernel)) ggX10_told_X10_within
set_option maxRecDepth 20000 in
theorem ggX10_told_X10_boardRefused : GoodIn wsX10_told wsX10_boardRefused := goodIn_r _ [10, 1, 11, 12, 5, 13, 14, 15, 16, 17, 18, 19, 45, 46, 47, 48, 49, 50, 51, 52, 53, 54, 55, 56, 57, 58, 59, 60, 61, 62, 63, 64, 65, 66, 67, 68, 69, 70, 71, 72, 73, 74, 75, 76, 77, 78, 79, 80, 81, 82] (by decide +kernel) (by decide +kernel)
set_option maxRecDepth 20000 in
theorem gX10_told_X10_boardRefused : GoodIn wsX10_told (wsV RX10 170 RX10 yX10_boardRefused wsX10_boardRefused) := goodIn_app (goodIn_of _ (by decide +kernel)) ggX10_told_X10_boardRefused
set_option maxRecDepth 20000 in
theorem ggX10_told_X0_tells : GoodIn wsX10_told wsX0_tells := goodIn_r _ [24, 25, 26, 27, 28, 29, 30, 31, 32, 33, 34, 35, 23, 36, 37, 38, 39, 40, 41, 42, 43, 44, 64, 65, 66, 67, 68, 69, 70, 71, 72, 73, 74, 75, 76, 77, 78, 79, 80, 81, 82] (by decide +kernel) (by decide +kernel)
set_option maxRecDepth 20000 in
theorem gX10_told_X0_tells : GoodIn wsX10_told (wsV RX10 249 RX0 yX0_tells wsX0_tells) := goodIn_app (goodIn_of _ (by decide +kernel)) ggX10_told_X0_tells
theorem dX10_told_0 : decode cX10_told 0 = .ok (.aload_n 0, 1) := by decide +kernel
theorem dX10_told_1 : decode cX10_told 1 = .ok (.iload_n 2, 1) := by decide +kernel
theorem dX10_told_2 : decode cX10_told 2 = .ok (.iconst 0, 1) := by decide +kernel
theorem dX10_told_3 : decode cX10_told 3 = .ok (.bipush 10, 2) := by decide +kernel
theorem dX10_told_5 : decode cX10_told 5 = .ok (.invokestatic 101, 3) := by decide +kernel
theorem dX10_told_8 : decode cX10_told 8 = .ok (.iload_n 1, 1) := by decide +kernel
theorem dX10_told_9 : decode cX10_told 9 = .ok (.invokevirtual 170, 3) := by decide +kernel
theorem dX10_told_12 : decode cX10_told 12 = .ok (.istore_n 3, 1) := by decide +kernel
theorem dX10_told_13 : decode cX10_told 13 = .ok (.iload_n 3, 1) := by decide +kernel
theorem dX10_told_14 : decode cX10_told 14 = .ok (.ifCond .eq 5, 3) := by decide +kernel
theorem dX10_told_17 : decode cX10_told 17 = .ok (.iload_n 3, 1) := by decide +kernel
theorem dX10_told_18 : decode cX10_told 18 = .ok (.ireturn, 1) := by decide +kernel
theorem dX10_told_19 : decode cX10_told 19 = .ok (.aload_n 0, 1) := by decide +kernel
theorem dX10_told_20 : decode cX10_told 20 = .ok (.aload_n 0, 1) := by decide +kernel
theorem dX10_told_21 : decode cX10_told 21 = .ok (.getfield 30, 3) := by decide +kernel
theorem dX10_told_24 : decode cX10_told 24 = .ok (.iload_n 1, 1) := by decide +kernel
theorem dX10_told_25 : decode cX10_told 25 = .ok (.aaload, 1) := by decide +kernel
theorem dX10_told_26 : decode cX10_told 26 = .ok (.iload_n 2, 1) := by decide +kernel
theorem dX10_told_27 : decode cX10_told 27 = .ok (.invokevirtual 249, 3) := by decide +kernel
theorem dX10_told_30 : decode cX10_told 30 = .ok (.putfield 116, 3) := by decide +kernel
theorem dX10_told_33 : decode cX10_told 33 = .ok (.iconst 1, 1) := by decide +kernel
theorem dX10_told_34 : decode cX10_told 34 = .ok (.ireturn, 1) := by decide +kernel
set_option maxRecDepth 20000 in
theorem ggX10_mark_X10_within : GoodIn wsX10_mark wsX10_within := goodIn_r _ [7] (by decide +kernel) (by decide +kernel)
set_option maxRecDepth 20000 in
theorem gX10_mark_X10_within : GoodIn wsX10_mark (va_wsS RX10 101 yX10_within wsX10_within) := goodIn_app (goodIn_of _ (by decide +kernel)) ggX10_mark_X10_within
set_option maxRecDepth 20000 in
theorem ggX10_mark_X10_boardRefused : GoodIn wsX10_mark wsX10_boardRefused := goodIn_r _ [11, 1, 12, 13, 6, 14, 15, 16, 17, 18, 19, 20, 69, 70, 71, 72, 73, 74, 75, 76, 77, 78, 79, 80, 81, 82, 83, 84, 85, 86, 87, 88, 89, 90, 91, 92, 93, 94, 95, 96, 97, 98, 99, 100, 101, 102, 103, 104, 105, 106] (by decide +kernel) (by decide +kernel)
set_option maxRecDepth 20000 in
theorem gX10_mark_X10_boardRefused : GoodIn wsX10_mark (wsV RX10 170 RX10 yX10_boardRefused wsX10_boardRefused) := goodIn_app (goodIn_of _ (by decide +kernel)) ggX10_mark_X10_boardRefused
set_option maxRecDepth 20000 in
theorem ggX10_mark_X0_isOf : GoodIn wsX10_mark wsX0_isOf := goodIn_r _ [25, 26, 27, 28, 29, 24, 30, 88, 89, 90, 91, 92, 93, 94, 95, 96, 97, 98, 99, 100, 101, 102, 103, 104, 105, 106] (by decide +kernel) (by decide +kernel)
set_option maxRecDepth 20000 in
theorem gX10_mark_X0_isOf : GoodIn wsX10_mark (wsV RX10 252 RX0 yX0_isOf wsX0_isOf) := goodIn_app (goodIn_of _ (by decide +kernel)) ggX10_mark_X0_isOf
set_option maxRecDepth 20000 in
theorem ggX10_mark_X10_found : GoodIn wsX10_mark wsX10_found := goodIn_r _ [18, 19, 20, 69, 70, 71, 72, 73, 74, 75, 76, 77, 78, 79, 80, 81, 82, 83, 84, 85, 86, 87] (by decide +kernel) (by decide +kernel)
set_option maxRecDepth 20000 in
theorem gX10_mark_X10_found : GoodIn wsX10_mark (wsV RX10 91 RX10 yX10_found wsX10_found) := goodIn_app (goodIn_of _ (by decide +kernel)) ggX10_mark_X10_found
set_option maxRecDepth 20000 in
theorem ggX10_mark_X0_hasTide : GoodIn wsX10_mark wsX0_hasTide := goodIn_r _ [34, 35, 27, 28, 29, 24, 30, 26, 36, 37, 38, 39, 40, 41, 88, 89, 90, 91, 92, 93, 94, 95, 96, 97, 98, 99, 100, 101, 102, 103, 104, 105, 106, 107, 108] (by decide +kernel) (by decide +kernel)
set_option maxRecDepth 20000 in
theorem gX10_mark_X0_hasTide : GoodIn wsX10_mark (wsV RX10 255 RX0 yX0_hasTide wsX0_hasTide) := goodIn_app (goodIn_of _ (by decide +kernel)) ggX10_mark_X0_hasTide
set_option maxRecDepth 20000 in
theorem ggX10_mark_X0_tideLevel : GoodIn wsX10_mark wsX0_tideLevel := goodIn_r _ [45, 46, 35, 47, 48, 49, 50, 51, 88, 89, 90, 91, 92, 93, 94, 95, 96, 97, 98, 99, 100, 101, 102, 103, 104, 105, 106, 107, 108] (by decide +kernel) (by decide +kernel)
set_option maxRecDepth 20000 in
theorem gX10_mark_X0_tideLevel : GoodIn wsX10_mark (wsV RX10 259 RX0 yX0_tideLevel wsX0_tideLevel) := goodIn_app (goodIn_of _ (by decide +kernel)) ggX10_mark_X0_tideLevel
set_option maxRecDepth 20000 in
theorem ggX10_mark_X0_allRests : GoodIn wsX10_mark wsX0_allRests := goodIn_r _ [55, 56, 57, 58, 59, 24, 60, 61, 62, 88, 89, 90, 91, 92, 93, 94, 95, 96, 97, 98, 99, 100, 101, 102, 103, 104, 105, 106, 109, 110, 111, 112, 113] (by decide +kernel) (by decide +kernel)
set_option maxRecDepth 20000 in
theorem gX10_mark_X0_allRests : GoodIn wsX10_mark (wsV RX10 263 RX0 yX0_allRests wsX0_allRests) := goodIn_app (goodIn_of _ (by decide +kernel)) ggX10_mark_X0_allRests
set_option maxRecDepth 20000 in
theorem ggX10_mark_X0_cells : GoodIn wsX10_mark wsX0_cells := goodIn_r _ [60, 61, 62, 88, 89, 90, 91, 92, 93, 94, 95, 96, 97, 98, 99, 100, 101, 102, 103, 104, 105, 106] (by decide +kernel) (by decide +kernel)
set_option maxRecDepth 20000 in
theorem gX10_mark_X0_cells : GoodIn wsX10_mark (wsV RX10 166 RX0 yX0_cells wsX0_cells) := goodIn_app (goodIn_of _ (by decide +kernel)) ggX10_mark_X0_cells
set_option maxRecDepth 20000 in
theorem ggX10_mark_X0_dryCells : GoodIn wsX10_mark wsX0_dryCells := goodIn_r _ [67, 68, 57, 58, 59, 24, 60, 61, 62, 88, 89, 90, 91, 92, 93, 94, 95, 96, 97, 98, 99, 100, 101, 102, 103, 104, 105, 106] (by decide +kernel) (by decide +kernel)
set_option maxRecDepth 20000 in
theorem gX10_mark_X0_dryCells : GoodIn wsX10_mark (wsV RX10 266 RX0 yX0_dryCells wsX0_dryCells) := goodIn_app (goodIn_of _ (by decide +kernel)) ggX10_mark_X0_dryCells
theorem dX10_mark_0 : decode cX10_mark 0 = .ok (.aload_n 0, 1) := by decide +kernel
theorem dX10_mark_1 : decode cX10_mark 1 = .ok (.iload_n 2, 1) := by decide +kernel
theorem dX10_mark_2 : decode cX10_mark 2 = .ok (.iconst 1, 1) := by decide +kernel
theorem dX10_mark_3 : decode cX10_mark 3 = .ok (.iconst 3, 1) := by decide +kernel
theorem dX10_mark_4 : decode cX10_mark 4 = .ok (.invokestatic 101, 3) := by decide +kernel
theorem dX10_mark_7 : decode cX10_mark 7 = .ok (.iload_n 1, 1) := by decide +kernel
theorem dX10_mark_8 : decode cX10_mark 8 = .ok (.invokevirtual 170, 3) := by decide +kernel
theorem dX10_mark_11 : decode cX10_mark 11 = .ok (.istore_n 3, 1) := by decide +kernel
theorem dX10_mark_12 : decode cX10_mark 12 = .ok (.iload_n 3, 1) := by decide +kernel
theorem dX10_mark_13 : decode cX10_mark 13 = .ok (.ifCond .eq 5, 3) := by decide +kernel
theorem dX10_mark_16 : decode cX10_mark 16 = .ok (.iload_n 3, 1) := by decide +kernel
theorem dX10_mark_17 : decode cX10_mark 17 = .ok (.ireturn, 1) := by decide +kernel
theorem dX10_mark_18 : decode cX10_mark 18 = .ok (.aload_n 0, 1) := by decide +kernel
theorem dX10_mark_19 : decode cX10_mark 19 = .ok (.getfield 30, 3) := by decide +kernel
theorem dX10_mark_22 : decode cX10_mark 22 = .ok (.iload_n 1, 1) := by decide +kernel
theorem dX10_mark_23 : decode cX10_mark 23 = .ok (.aaload, 1) := by decide +kernel
theorem dX10_mark_24 : decode cX10_mark 24 = .ok (.astore 4, 2) := by decide +kernel
theorem dX10_mark_26 : decode cX10_mark 26 = .ok (.aload 4, 2) := by decide +kernel
theorem dX10_mark_28 : decode cX10_mark 28 = .ok (.iload_n 2, 1) := by decide +kernel
theorem dX10_mark_29 : decode cX10_mark 29 = .ok (.invokevirtual 252, 3) := by decide +kernel
theorem dX10_mark_32 : decode cX10_mark 32 = .ok (.ifCond .ne 9, 3) := by decide +kernel
theorem dX10_mark_35 : decode cX10_mark 35 = .ok (.aload_n 0, 1) := by decide +kernel
theorem dX10_mark_36 : decode cX10_mark 36 = .ok (.iconst 3, 1) := by decide +kernel
theorem dX10_mark_37 : decode cX10_mark 37 = .ok (.invokevirtual 91, 3) := by decide +kernel
theorem dX10_mark_40 : decode cX10_mark 40 = .ok (.ireturn, 1) := by decide +kernel
theorem dX10_mark_41 : decode cX10_mark 41 = .ok (.iload_n 2, 1) := by decide +kernel
theorem dX10_mark_42 : decode cX10_mark 42 = .ok (.iconst 1, 1) := by decide +kernel
theorem dX10_mark_43 : decode cX10_mark 43 = .ok (.if_icmp .ne 18, 3) := by decide +kernel
theorem dX10_mark_46 : decode cX10_mark 46 = .ok (.aload 4, 2) := by decide +kernel
theorem dX10_mark_48 : decode cX10_mark 48 = .ok (.aload_n 0, 1) := by decide +kernel
theorem dX10_mark_49 : decode cX10_mark 49 = .ok (.getfield 14, 3) := by decide +kernel
theorem dX10_mark_52 : decode cX10_mark 52 = .ok (.invokevirtual 255, 3) := by decide +kernel
theorem dX10_mark_55 : decode cX10_mark 55 = .ok (.ifCond .ne 6, 3) := by decide +kernel
theorem dX10_mark_58 : decode cX10_mark 58 = .ok (.bipush (-9), 2) := by decide +kernel
theorem dX10_mark_60 : decode cX10_mark 60 = .ok (.ireturn, 1) := by decide +kernel
theorem dX10_mark_61 : decode cX10_mark 61 = .ok (.iload_n 2, 1) := by decide +kernel
theorem dX10_mark_62 : decode cX10_mark 62 = .ok (.iconst 1, 1) := by decide +kernel
theorem dX10_mark_63 : decode cX10_mark 63 = .ok (.if_icmp .ne 19, 3) := by decide +kernel
theorem dX10_mark_66 : decode cX10_mark 66 = .ok (.aload_n 0, 1) := by decide +kernel
theorem dX10_mark_67 : decode cX10_mark 67 = .ok (.aload 4, 2) := by decide +kernel
theorem dX10_mark_69 : decode cX10_mark 69 = .ok (.aload_n 0, 1) := by decide +kernel
theorem dX10_mark_70 : decode cX10_mark 70 = .ok (.getfield 14, 3) := by decide +kernel
theorem dX10_mark_73 : decode cX10_mark 73 = .ok (.invokevirtual 259, 3) := by decide +kernel
theorem dX10_mark_76 : decode cX10_mark 76 = .ok (.putfield 116, 3) := by decide +kernel
theorem dX10_mark_79 : decode cX10_mark 79 = .ok (.goto 35, 3) := by decide +kernel
theorem dX10_mark_82 : decode cX10_mark 82 = .ok (.iload_n 2, 1) := by decide +kernel
theorem dX10_mark_83 : decode cX10_mark 83 = .ok (.iconst 2, 1) := by decide +kernel
theorem dX10_mark_84 : decode cX10_mark 84 = .ok (.if_icmp .ne 15, 3) := by decide +kernel
theorem dX10_mark_87 : decode cX10_mark 87 = .ok (.aload_n 0, 1) := by decide +kernel
theorem dX10_mark_88 : decode cX10_mark 88 = .ok (.aload 4, 2) := by decide +kernel
theorem dX10_mark_90 : decode cX10_mark 90 = .ok (.invokevirtual 263, 3) := by decide +kernel
theorem dX10_mark_93 : decode cX10_mark 93 = .ok (.putfield 116, 3) := by decide +kernel
theorem dX10_mark_96 : decode cX10_mark 96 = .ok (.goto 18, 3) := by decide +kernel
theorem dX10_mark_99 : decode cX10_mark 99 = .ok (.aload_n 0, 1) := by decide +kernel
theorem dX10_mark_100 : decode cX10_mark 100 = .ok (.aload 4, 2) := by decide +kernel
theorem dX10_mark_102 : decode cX10_mark 102 = .ok (.invokevirtual 166, 3) := by decide +kernel
theorem dX10_mark_105 : decode cX10_mark 105 = .ok (.aload 4, 2) := by decide +kernel
theorem dX10_mark_107 : decode cX10_mark 107 = .ok (.invokevirtual 266, 3) := by decide +kernel
theorem dX10_mark_110 : decode cX10_mark 110 = .ok (.isub, 1) := by decide +kernel
theorem dX10_mark_111 : decode cX10_mark 111 = .ok (.putfield 116, 3) := by decide +kernel
theorem dX10_mark_114 : decode cX10_mark 114 = .ok (.iconst 1, 1) := by decide +kernel
theorem dX10_mark_115 : decode cX10_mark 115 = .ok (.ireturn, 1) := by decide +kernel
set_option maxRecDepth 20000 in
theorem ggX10_keep_X10_isBoard : GoodIn wsX10_keep wsX10_isBoard := goodIn_r _ [5] (by decide +kernel) (by decide +kernel)
set_option maxRecDepth 20000 in
theorem gX10_keep_X10_isBoard : GoodIn wsX10_keep (va_wsS RX10 157 yX10_isBoard wsX10_isBoard) := goodIn_app (goodIn_of _ (by decide +kernel)) ggX10_keep_X10_isBoard
set_option maxRecDepth 20000 in
theorem ggX10_keep_X10_boardRefused : GoodIn wsX10_keep wsX10_boardRefused := goodIn_r _ [9, 1, 2, 3, 4, 5, 10, 11, 12, 13, 14, 15, 83, 84, 85, 86, 87, 88, 89, 90, 91, 92, 93, 94, 95, 96, 97, 98, 99, 100, 101, 102, 103, 104, 105, 106, 107, 108, 109, 110, 111, 112, 113, 114, 115, 116, 117, 118, 119, 120] (by decide +kernel) (by decide +kernel)
set_option maxRecDepth 20000 in
theorem gX10_keep_X10_boardRefused : GoodIn wsX10_keep (wsV RX10 170 RX10 yX10_boardRefused wsX10_boardRefused) := goodIn_app (goodIn_of _ (by decide +kernel)) ggX10_keep_X10_boardRefused
set_option maxRecDepth 20000 in
theorem ggX10_keep_X10_liesIn : GoodIn wsX10_keep wsX10_liesIn := goodIn_r _ [19, 1, 2, 3, 4, 5, 83, 84, 85, 86, 87, 88, 89, 90, 91, 92, 93, 94, 95, 96, 97, 98, 99, 100, 101, 102, 103, 104, 105, 106, 107, 108, 109, 110, 111, 112, 113, 114, 115, 116, 117, 118, 119, 120, 121, 122, 123, 124, 125] (by decide +kernel) (by decide +kernel)
set_option maxRecDepth 20000 in
theorem gX10_keep_X10_liesIn : GoodIn wsX10_keep (wsV RX10 269 RX10 yX10_liesIn wsX10_liesIn) := goodIn_app (goodIn_of _ (by decide +kernel)) ggX10_keep_X10_liesIn
set_option maxRecDepth 20000 in
theorem ggX10_keep_X10_clear : GoodIn wsX10_keep wsX10_clear := goodIn_r _ [23, 1, 24, 25, 26, 4, 27, 28, 29, 30, 31, 32, 33, 2, 3, 5, 83, 84, 85, 86, 87, 88, 89, 90, 91, 92, 93, 94, 95, 96, 97, 98, 99, 100, 101, 102, 103, 104, 105, 106, 107, 108, 109, 110, 111, 112, 113, 114, 115, 116, 117, 118, 119, 120, 126, 127, 128, 129, 130, 131, 132, 133, 134, 121, 122, 123, 124, 125] (by decide +kernel) (by decide +kernel)
set_option maxRecDepth 20000 in
theorem gX10_keep_X10_clear : GoodIn wsX10_keep (wsV RX10 160 RX10 yX10_clear wsX10_clear) := goodIn_app (goodIn_of _ (by decide +kernel)) ggX10_keep_X10_clear
set_option maxRecDepth 20000 in
theorem ggX10_keep_X0_takeOver : GoodIn wsX10_keep wsX0_takeOver := goodIn_r _ [38, 39, 40, 41, 42, 43, 44, 45, 46, 47, 48, 49, 50, 51, 52, 53, 54, 55, 56, 57, 58, 59, 60, 61, 62, 63, 64, 65, 66, 67, 68, 69, 70, 71, 72, 73, 74, 75, 76, 77, 78, 102, 103, 104, 105, 106, 107, 108, 109, 110, 111, 112, 113, 114, 115, 116, 117, 118, 119, 120, 121, 122, 123, 124, 125, 135, 136, 137, 138, 139, 140, 141] (by decide +kernel) (by decide +kernel)
set_option maxRecDepth 20000 in
theorem gX10_keep_X0_takeOver : GoodIn wsX10_keep (wsV RX10 272 RX0 yX0_takeOver wsX0_takeOver) := goodIn_app (goodIn_of _ (by decide +kernel)) ggX10_keep_X0_takeOver
set_option maxRecDepth 20000 in
theorem ggX10_keep_X0_cells : GoodIn wsX10_keep wsX0_cells := goodIn_r _ [82, 41, 42, 102, 103, 104, 105, 106, 107, 108, 109, 110, 111, 112, 113, 114, 115, 116, 117, 118, 119, 120] (by decide +kernel) (by decide +kernel)
set_option maxRecDepth 20000 in
theorem gX10_keep_X0_cells : GoodIn wsX10_keep (wsV RX10 166 RX0 yX0_cells wsX0_cells) := goodIn_app (goodIn_of _ (by decide +kernel)) ggX10_keep_X0_cells
theorem dX10_keep_0 : decode cX10_keep 0 = .ok (.aload_n 0, 1) := by decide +kernel
theorem dX10_keep_1 : decode cX10_keep 1 = .ok (.iload_n 2, 1) := by decide +kernel
theorem dX10_keep_2 : decode cX10_keep 2 = .ok (.invokestatic 157, 3) := by decide +kernel
theorem dX10_keep_5 : decode cX10_keep 5 = .ok (.ifCond .eq 12, 3) := by decide +kernel
theorem dX10_keep_8 : decode cX10_keep 8 = .ok (.iload_n 2, 1) := by decide +kernel
theorem dX10_keep_9 : decode cX10_keep 9 = .ok (.iload_n 1, 1) := by decide +kernel
theorem dX10_keep_10 : decode cX10_keep 10 = .ok (.if_icmp .eq 7, 3) := by decide +kernel
theorem dX10_keep_13 : decode cX10_keep 13 = .ok (.iconst 1, 1) := by decide +kernel
theorem dX10_keep_14 : decode cX10_keep 14 = .ok (.goto 4, 3) := by decide +kernel
theorem dX10_keep_17 : decode cX10_keep 17 = .ok (.iconst 0, 1) := by decide +kernel
theorem dX10_keep_18 : decode cX10_keep 18 = .ok (.iload_n 1, 1) := by decide +kernel
theorem dX10_keep_19 : decode cX10_keep 19 = .ok (.invokevirtual 170, 3) := by decide +kernel
theorem dX10_keep_22 : decode cX10_keep 22 = .ok (.istore_n 3, 1) := by decide +kernel
theorem dX10_keep_23 : decode cX10_keep 23 = .ok (.iload_n 3, 1) := by decide +kernel
theorem dX10_keep_24 : decode cX10_keep 24 = .ok (.ifCond .eq 5, 3) := by decide +kernel
theorem dX10_keep_27 : decode cX10_keep 27 = .ok (.iload_n 3, 1) := by decide +kernel
theorem dX10_keep_28 : decode cX10_keep 28 = .ok (.ireturn, 1) := by decide +kernel
theorem dX10_keep_29 : decode cX10_keep 29 = .ok (.aload_n 0, 1) := by decide +kernel
theorem dX10_keep_30 : decode cX10_keep 30 = .ok (.iload_n 1, 1) := by decide +kernel
theorem dX10_keep_31 : decode cX10_keep 31 = .ok (.iload_n 2, 1) := by decide +kernel
theorem dX10_keep_32 : decode cX10_keep 32 = .ok (.invokevirtual 269, 3) := by decide +kernel
theorem dX10_keep_35 : decode cX10_keep 35 = .ok (.ifCond .eq 6, 3) := by decide +kernel
theorem dX10_keep_38 : decode cX10_keep 38 = .ok (.bipush (-4), 2) := by decide +kernel
theorem dX10_keep_40 : decode cX10_keep 40 = .ok (.ireturn, 1) := by decide +kernel
theorem dX10_keep_41 : decode cX10_keep 41 = .ok (.aload_n 0, 1) := by decide +kernel
theorem dX10_keep_42 : decode cX10_keep 42 = .ok (.iload_n 2, 1) := by decide +kernel
theorem dX10_keep_43 : decode cX10_keep 43 = .ok (.invokevirtual 160, 3) := by decide +kernel
theorem dX10_keep_46 : decode cX10_keep 46 = .ok (.aload_n 0, 1) := by decide +kernel
theorem dX10_keep_47 : decode cX10_keep 47 = .ok (.getfield 30, 3) := by decide +kernel
theorem dX10_keep_50 : decode cX10_keep 50 = .ok (.iload_n 2, 1) := by decide +kernel
theorem dX10_keep_51 : decode cX10_keep 51 = .ok (.aaload, 1) := by decide +kernel
theorem dX10_keep_52 : decode cX10_keep 52 = .ok (.aload_n 0, 1) := by decide +kernel
theorem dX10_keep_53 : decode cX10_keep 53 = .ok (.getfield 30, 3) := by decide +kernel
theorem dX10_keep_56 : decode cX10_keep 56 = .ok (.iload_n 1, 1) := by decide +kernel
theorem dX10_keep_57 : decode cX10_keep 57 = .ok (.aaload, 1) := by decide +kernel
theorem dX10_keep_58 : decode cX10_keep 58 = .ok (.invokevirtual 272, 3) := by decide +kernel
theorem dX10_keep_61 : decode cX10_keep 61 = .ok (.aload_n 0, 1) := by decide +kernel
theorem dX10_keep_62 : decode cX10_keep 62 = .ok (.getfield 30, 3) := by decide +kernel
theorem dX10_keep_65 : decode cX10_keep 65 = .ok (.iload_n 2, 1) := by decide +kernel
theorem dX10_keep_66 : decode cX10_keep 66 = .ok (.aaload, 1) := by decide +kernel
theorem dX10_keep_67 : decode cX10_keep 67 = .ok (.getfield 276, 3) := by decide +kernel
theorem dX10_keep_70 : decode cX10_keep 70 = .ok (.iconst 2, 1) := by decide +kernel
theorem dX10_keep_71 : decode cX10_keep 71 = .ok (.if_icmp .ne 13, 3) := by decide +kernel
theorem dX10_keep_74 : decode cX10_keep 74 = .ok (.aload_n 0, 1) := by decide +kernel
theorem dX10_keep_75 : decode cX10_keep 75 = .ok (.getfield 30, 3) := by decide +kernel
theorem dX10_keep_78 : decode cX10_keep 78 = .ok (.iload_n 2, 1) := by decide +kernel
theorem dX10_keep_79 : decode cX10_keep 79 = .ok (.aaload, 1) := by decide +kernel
theorem dX10_keep_80 : decode cX10_keep 80 = .ok (.iconst 0, 1) := by decide +kernel
theorem dX10_keep_81 : decode cX10_keep 81 = .ok (.putfield 276, 3) := by decide +kernel
theorem dX10_keep_84 : decode cX10_keep 84 = .ok (.aload_n 0, 1) := by decide +kernel
theorem dX10_keep_85 : decode cX10_keep 85 = .ok (.getfield 30, 3) := by decide +kernel
theorem dX10_keep_88 : decode cX10_keep 88 = .ok (.iload_n 2, 1) := by decide +kernel
theorem dX10_keep_89 : decode cX10_keep 89 = .ok (.aaload, 1) := by decide +kernel
theorem dX10_keep_90 : decode cX10_keep 90 = .ok (.invokevirtual 166, 3) := by decide +kernel
theorem dX10_keep_93 : decode cX10_keep 93 = .ok (.ireturn, 1) := by decide +kernel
set_option maxRecDepth 20000 in
theorem ggX10_mirror_X10_boardRefused : GoodIn wsX10_mirror wsX10_boardRefused := goodIn_r _ [8, 1, 9, 10, 7, 11, 12, 13, 14, 15, 16, 17, 64, 65, 66, 67, 68, 69, 70, 71, 72, 73, 74, 75, 76, 77, 78, 79, 80, 81, 82, 83, 84, 85, 86, 87, 88, 89, 90, 91, 92, 93, 94, 95, 96, 97, 98, 99, 100, 101] (by decide +kernel) (by decide +kernel)
set_option maxRecDepth 20000 in
theorem gX10_mirror_X10_boardRefused : GoodIn wsX10_mirror (wsV RX10 170 RX10 yX10_boardRefused wsX10_boardRefused) := goodIn_app (goodIn_of _ (by decide +kernel)) ggX10_mirror_X10_boardRefused
set_option maxRecDepth 20000 in
theorem ggX10_mirror_X10_found : GoodIn wsX10_mirror wsX10_found := goodIn_r _ [15, 16, 17, 64, 65, 66, 67, 68, 69, 70, 71, 72, 73, 74, 75, 76, 77, 78, 79, 80, 81, 82] (by decide +kernel) (by decide +kernel)
set_option maxRecDepth 20000 in
theorem gX10_mirror_X10_found : GoodIn wsX10_mirror (wsV RX10 91 RX10 yX10_found wsX10_found) := goodIn_app (goodIn_of _ (by decide +kernel)) ggX10_mirror_X10_found
set_option maxRecDepth 20000 in
theorem ggX10_mirror_X10_bearsNest : GoodIn wsX10_mirror wsX10_bearsNest := goodIn_r _ [21, 1, 64, 65, 66, 67, 68, 69, 70, 71, 72, 73, 74, 75, 76, 77, 78, 79, 80, 81, 82, 83, 84, 85, 86, 87, 88, 89, 90, 91, 92, 93, 94, 95, 96, 97, 98, 99, 100, 101, 111, 112, 113, 114, 115] (by decide +kernel) (by decide +kernel)
set_option maxRecDepth 20000 in
theorem gX10_mirror_X10_bearsNest : GoodIn wsX10_mirror (wsV RX10 279 RX10 yX10_bearsNest wsX10_bearsNest) := goodIn_app (goodIn_of _ (by decide +kernel)) ggX10_mirror_X10_bearsNest
set_option maxRecDepth 20000 in
theorem ggX10_mirror_X0_turn : GoodIn wsX10_mirror wsX0_turn := goodIn_r _ [26, 27, 28, 29, 30, 31, 25, 32, 33, 34, 35, 36, 37, 38, 39, 40, 41, 42, 43, 44, 45, 46, 47, 48, 49, 50, 51, 52, 53, 54, 55, 56, 57, 58, 59, 60, 61, 62, 83, 84, 85, 86, 87, 88, 89, 90, 91, 92, 93, 94, 95, 96, 97, 98, 99, 100, 101, 116, 117, 118, 119, 120, 121, 122] (by decide +kernel) (by decide +kernel)
set_option maxRecDepth 20000 in
theorem gX10_mirror_X0_turn : GoodIn wsX10_mirror (wsV RX10 282 RX0 yX0_turn wsX0_turn) := goodIn_app (goodIn_of _ (by decide +kernel)) ggX10_mirror_X0_turn
set_option maxRecDepth 20000 in
theorem ggX10_mirror_X0_opposite : GoodIn wsX10_mirror wsX0_opposite := goodIn_r _ [38, 33, 83, 84, 85, 86, 87, 88, 89, 90, 91, 92, 93, 94, 95, 96, 97, 98, 99, 100, 101] (by decide +kernel) (by decide +kernel)
set_option maxRecDepth 20000 in
theorem gX10_mirror_X0_opposite : GoodIn wsX10_mirror (wsV RX10 290 RX0 yX0_opposite wsX0_opposite) := goodIn_app (goodIn_of _ (by decide +kernel)) ggX10_mirror_X0_opposite
theorem dX10_mirror_0 : decode cX10_mirror 0 = .ok (.aload_n 0, 1) := by decide +kernel
theorem dX10_mirror_1 : decode cX10_mirror 1 = .ok (.iconst 1, 1) := by decide +kernel
theorem dX10_mirror_2 : decode cX10_mirror 2 = .ok (.iload_n 1, 1) := by decide +kernel
theorem dX10_mirror_3 : decode cX10_mirror 3 = .ok (.invokevirtual 170, 3) := by decide +kernel
theorem dX10_mirror_6 : decode cX10_mirror 6 = .ok (.istore_n 2, 1) := by decide +kernel
theorem dX10_mirror_7 : decode cX10_mirror 7 = .ok (.iload_n 2, 1) := by decide +kernel
theorem dX10_mirror_8 : decode cX10_mirror 8 = .ok (.ifCond .eq 5, 3) := by decide +kernel
theorem dX10_mirror_11 : decode cX10_mirror 11 = .ok (.iload_n 2, 1) := by decide +kernel
theorem dX10_mirror_12 : decode cX10_mirror 12 = .ok (.ireturn, 1) := by decide +kernel
theorem dX10_mirror_13 : decode cX10_mirror 13 = .ok (.aload_n 0, 1) := by decide +kernel
theorem dX10_mirror_14 : decode cX10_mirror 14 = .ok (.getfield 30, 3) := by decide +kernel
theorem dX10_mirror_17 : decode cX10_mirror 17 = .ok (.iload_n 1, 1) := by decide +kernel
theorem dX10_mirror_18 : decode cX10_mirror 18 = .ok (.aaload, 1) := by decide +kernel
theorem dX10_mirror_19 : decode cX10_mirror 19 = .ok (.astore_n 3, 1) := by decide +kernel
theorem dX10_mirror_20 : decode cX10_mirror 20 = .ok (.aload_n 3, 1) := by decide +kernel
theorem dX10_mirror_21 : decode cX10_mirror 21 = .ok (.getfield 276, 3) := by decide +kernel
theorem dX10_mirror_24 : decode cX10_mirror 24 = .ok (.iconst 2, 1) := by decide +kernel
theorem dX10_mirror_25 : decode cX10_mirror 25 = .ok (.if_icmp .ne 9, 3) := by decide +kernel
theorem dX10_mirror_28 : decode cX10_mirror 28 = .ok (.aload_n 0, 1) := by decide +kernel
theorem dX10_mirror_29 : decode cX10_mirror 29 = .ok (.iconst 3, 1) := by decide +kernel
theorem dX10_mirror_30 : decode cX10_mirror 30 = .ok (.invokevirtual 91, 3) := by decide +kernel
theorem dX10_mirror_33 : decode cX10_mirror 33 = .ok (.ireturn, 1) := by decide +kernel
theorem dX10_mirror_34 : decode cX10_mirror 34 = .ok (.aload_n 0, 1) := by decide +kernel
theorem dX10_mirror_35 : decode cX10_mirror 35 = .ok (.iload_n 1, 1) := by decide +kernel
theorem dX10_mirror_36 : decode cX10_mirror 36 = .ok (.invokevirtual 279, 3) := by decide +kernel
theorem dX10_mirror_39 : decode cX10_mirror 39 = .ok (.ifCond .eq 6, 3) := by decide +kernel
theorem dX10_mirror_42 : decode cX10_mirror 42 = .ok (.bipush (-4), 2) := by decide +kernel
theorem dX10_mirror_44 : decode cX10_mirror 44 = .ok (.ireturn, 1) := by decide +kernel
theorem dX10_mirror_45 : decode cX10_mirror 45 = .ok (.aload_n 3, 1) := by decide +kernel
theorem dX10_mirror_46 : decode cX10_mirror 46 = .ok (.invokevirtual 282, 3) := by decide +kernel
theorem dX10_mirror_49 : decode cX10_mirror 49 = .ok (.iconst 0, 1) := by decide +kernel
theorem dX10_mirror_50 : decode cX10_mirror 50 = .ok (.istore 4, 2) := by decide +kernel
theorem dX10_mirror_52 : decode cX10_mirror 52 = .ok (.iload 4, 2) := by decide +kernel
theorem dX10_mirror_54 : decode cX10_mirror 54 = .ok (.bipush 8, 2) := by decide +kernel
theorem dX10_mirror_56 : decode cX10_mirror 56 = .ok (.if_icmp .ge 47, 3) := by decide +kernel
theorem dX10_mirror_59 : decode cX10_mirror 59 = .ok (.aload_n 0, 1) := by decide +kernel
theorem dX10_mirror_60 : decode cX10_mirror 60 = .ok (.getfield 55, 3) := by decide +kernel
theorem dX10_mirror_63 : decode cX10_mirror 63 = .ok (.iload 4, 2) := by decide +kernel
theorem dX10_mirror_65 : decode cX10_mirror 65 = .ok (.aaload, 1) := by decide +kernel
theorem dX10_mirror_66 : decode cX10_mirror 66 = .ok (.getfield 285, 3) := by decide +kernel
theorem dX10_mirror_69 : decode cX10_mirror 69 = .ok (.iload_n 1, 1) := by decide +kernel
theorem dX10_mirror_70 : decode cX10_mirror 70 = .ok (.if_icmp .ne 27, 3) := by decide +kernel
theorem dX10_mirror_73 : decode cX10_mirror 73 = .ok (.aload_n 0, 1) := by decide +kernel
theorem dX10_mirror_74 : decode cX10_mirror 74 = .ok (.getfield 55, 3) := by decide +kernel
theorem dX10_mirror_77 : decode cX10_mirror 77 = .ok (.iload 4, 2) := by decide +kernel
theorem dX10_mirror_79 : decode cX10_mirror 79 = .ok (.aaload, 1) := by decide +kernel
theorem dX10_mirror_80 : decode cX10_mirror 80 = .ok (.aload_n 3, 1) := by decide +kernel
theorem dX10_mirror_81 : decode cX10_mirror 81 = .ok (.aload_n 0, 1) := by decide +kernel
theorem dX10_mirror_82 : decode cX10_mirror 82 = .ok (.getfield 55, 3) := by decide +kernel
theorem dX10_mirror_85 : decode cX10_mirror 85 = .ok (.iload 4, 2) := by decide +kernel
theorem dX10_mirror_87 : decode cX10_mirror 87 = .ok (.aaload, 1) := by decide +kernel
theorem dX10_mirror_88 : decode cX10_mirror 88 = .ok (.getfield 288, 3) := by decide +kernel
theorem dX10_mirror_91 : decode cX10_mirror 91 = .ok (.invokevirtual 290, 3) := by decide +kernel
theorem dX10_mirror_94 : decode cX10_mirror 94 = .ok (.putfield 288, 3) := by decide +kernel
theorem dX10_mirror_97 : decode cX10_mirror 97 = .ok (.iinc 4 1, 3) := by decide +kernel
theorem dX10_mirror_100 : decode cX10_mirror 100 = .ok (.goto (-48), 3) := by decide +kernel
theorem dX10_mirror_103 : decode cX10_mirror 103 = .ok (.iconst 0, 1) := by decide +kernel
theorem dX10_mirror_104 : decode cX10_mirror 104 = .ok (.istore 4, 2) := by decide +kernel
theorem dX10_mirror_106 : decode cX10_mirror 106 = .ok (.iload 4, 2) := by decide +kernel
theorem dX10_mirror_108 : decode cX10_mirror 108 = .ok (.bipush 8, 2) := by decide +kernel
theorem dX10_mirror_110 : decode cX10_mirror 110 = .ok (.if_icmp .ge 47, 3) := by decide +kernel
theorem dX10_mirror_113 : decode cX10_mirror 113 = .ok (.aload_n 0, 1) := by decide +kernel
theorem dX10_mirror_114 : decode cX10_mirror 114 = .ok (.getfield 61, 3) := by decide +kernel
theorem dX10_mirror_117 : decode cX10_mirror 117 = .ok (.iload 4, 2) := by decide +kernel
theorem dX10_mirror_119 : decode cX10_mirror 119 = .ok (.aaload, 1) := by decide +kernel
theorem dX10_mirror_120 : decode cX10_mirror 120 = .ok (.getfield 293, 3) := by decide +kernel
theorem dX10_mirror_123 : decode cX10_mirror 123 = .ok (.iload_n 1, 1) := by decide +kernel
theorem dX10_mirror_124 : decode cX10_mirror 124 = .ok (.if_icmp .ne 27, 3) := by decide +kernel
theorem dX10_mirror_127 : decode cX10_mirror 127 = .ok (.aload_n 0, 1) := by decide +kernel
theorem dX10_mirror_128 : decode cX10_mirror 128 = .ok (.getfield 61, 3) := by decide +kernel
theorem dX10_mirror_131 : decode cX10_mirror 131 = .ok (.iload 4, 2) := by decide +kernel
theorem dX10_mirror_133 : decode cX10_mirror 133 = .ok (.aaload, 1) := by decide +kernel
theorem dX10_mirror_134 : decode cX10_mirror 134 = .ok (.aload_n 3, 1) := by decide +kernel
theorem dX10_mirror_135 : decode cX10_mirror 135 = .ok (.aload_n 0, 1) := by decide +kernel
theorem dX10_mirror_136 : decode cX10_mirror 136 = .ok (.getfield 61, 3) := by decide +kernel
theorem dX10_mirror_139 : decode cX10_mirror 139 = .ok (.iload 4, 2) := by decide +kernel
theorem dX10_mirror_141 : decode cX10_mirror 141 = .ok (.aaload, 1) := by decide +kernel
theorem dX10_mirror_142 : decode cX10_mirror 142 = .ok (.getfield 294, 3) := by decide +kernel
theorem dX10_mirror_145 : decode cX10_mirror 145 = .ok (.invokevirtual 290, 3) := by decide +kernel
theorem dX10_mirror_148 : decode cX10_mirror 148 = .ok (.putfield 294, 3) := by decide +kernel
theorem dX10_mirror_151 : decode cX10_mirror 151 = .ok (.iinc 4 1, 3) := by decide +kernel
theorem dX10_mirror_154 : decode cX10_mirror 154 = .ok (.goto (-48), 3) := by decide +kernel
theorem dX10_mirror_157 : decode cX10_mirror 157 = .ok (.iconst 1, 1) := by decide +kernel
theorem dX10_mirror_158 : decode cX10_mirror 158 = .ok (.ireturn, 1) := by decide +kernel
set_option maxRecDepth 20000 in
theorem ggX10_stepWhole_X8_advance : GoodIn wsX10_stepWhole wsX8_advance := goodIn_r _ [10, 11, 12, 13, 14, 15, 16, 17, 18, 19, 9, 20, 21, 22, 23, 24, 25, 26, 27, 28, 29, 30, 31, 32, 33, 34, 35, 36, 37, 38, 39, 40, 41, 42, 43, 44, 45, 46, 47, 48, 49, 50, 51, 52, 53, 54, 55, 56, 57, 58, 59, 60, 61, 62, 63, 64, 65, 66, 67, 68, 69, 70, 71, 72, 73, 74, 75, 76, 77, 78, 79, 80, 81, 82, 83, 84, 85, 86, 87, 88, 89, 90, 91, 92, 93, 94, 95, 96, 97, 98, 99, 100, 101, 102, 103, 104, 105, 106, 107, 108, 109, 110, 111, 112, 113, 114, 115, 116, 117, 118, 119, 170, 171, 172, 173, 174, 175, 176, 177, 178, 179, 180, 181, 182, 183, 184, 185, 186, 187, 188, 189, 190, 191, 192, 193, 194, 195, 196, 197, 198, 199, 200, 201] (by decide +kernel) (by decide +kernel)
set_option maxRecDepth 20000 in
theorem gX10_stepWhole_X8_advance : GoodIn wsX10_stepWhole (wsV RX10 295 RX8 yX8_advance wsX8_advance) := goodIn_app (goodIn_of _ (by decide +kernel)) ggX10_stepWhole_X8_advance
set_option maxRecDepth 20000 in
theorem ggX10_stepWhole_X1_drift : GoodIn wsX10_stepWhole wsX1_drift := goodIn_r _ [124, 125, 126, 127, 29, 30, 24, 31, 26, 27, 174, 175, 176, 177, 178, 179, 180, 181, 182, 183, 184, 185, 186, 187, 188, 189, 190, 191, 192, 161, 162, 163] (by decide +kernel) (by decide +kernel)
set_option maxRecDepth 20000 in
theorem gX10_stepWhole_X1_drift : GoodIn wsX10_stepWhole (wsV RX10 299 RX1 yX1_drift wsX1_drift) := goodIn_app (goodIn_of _ (by decide +kernel)) ggX10_stepWhole_X1_drift
set_option maxRecDepth 20000 in
theorem ggX10_stepWhole_X0_level : GoodIn wsX10_stepWhole wsX0_level := goodIn_r _ [43, 44, 45, 174, 175, 176, 177, 178, 179, 180, 181, 182, 183, 184, 185, 186, 187, 188, 189, 190, 191, 192] (by decide +kernel) (by decide +kernel)
set_option maxRecDepth 20000 in
theorem gX10_stepWhole_X0_level : GoodIn wsX10_stepWhole (wsV RX10 187 RX0 yX0_level wsX0_level) := goodIn_app (goodIn_of _ (by decide +kernel)) ggX10_stepWhole_X0_level
set_option maxRecDepth 20000 in
theorem ggX10_stepWhole_X2_read : GoodIn wsX10_stepWhole wsX2_read := goodIn_r _ [133, 134, 135, 136, 137, 138, 139, 140, 132, 141, 164, 165, 166, 167, 168, 169] (by decide +kernel) (by decide +kernel)
set_option maxRecDepth 20000 in
theorem gX10_stepWhole_X2_read : GoodIn wsX10_stepWhole (wsV RX10 302 RX2 yX2_read wsX2_read) := goodIn_app (goodIn_of _ (by decide +kernel)) ggX10_stepWhole_X2_read
theorem dX10_stepWhole_0 : decode cX10_stepWhole 0 = .ok (.aload_n 0, 1) := by decide +kernel
theorem dX10_stepWhole_1 : decode cX10_stepWhole 1 = .ok (.getfield 30, 3) := by decide +kernel
theorem dX10_stepWhole_4 : decode cX10_stepWhole 4 = .ok (.iload_n 1, 1) := by decide +kernel
theorem dX10_stepWhole_5 : decode cX10_stepWhole 5 = .ok (.aaload, 1) := by decide +kernel
theorem dX10_stepWhole_6 : decode cX10_stepWhole 6 = .ok (.astore_n 2, 1) := by decide +kernel
theorem dX10_stepWhole_7 : decode cX10_stepWhole 7 = .ok (.aload_n 0, 1) := by decide +kernel
theorem dX10_stepWhole_8 : decode cX10_stepWhole 8 = .ok (.getfield 42, 3) := by decide +kernel
theorem dX10_stepWhole_11 : decode cX10_stepWhole 11 = .ok (.aload_n 2, 1) := by decide +kernel
theorem dX10_stepWhole_12 : decode cX10_stepWhole 12 = .ok (.aload_n 0, 1) := by decide +kernel
theorem dX10_stepWhole_13 : decode cX10_stepWhole 13 = .ok (.getfield 14, 3) := by decide +kernel
theorem dX10_stepWhole_16 : decode cX10_stepWhole 16 = .ok (.invokevirtual 295, 3) := by decide +kernel
theorem dX10_stepWhole_19 : decode cX10_stepWhole 19 = .ok (.ifCond .ne 5, 3) := by decide +kernel
theorem dX10_stepWhole_22 : decode cX10_stepWhole 22 = .ok (.iconst 0, 1) := by decide +kernel
theorem dX10_stepWhole_23 : decode cX10_stepWhole 23 = .ok (.ireturn, 1) := by decide +kernel
theorem dX10_stepWhole_24 : decode cX10_stepWhole 24 = .ok (.iconst 0, 1) := by decide +kernel
theorem dX10_stepWhole_25 : decode cX10_stepWhole 25 = .ok (.istore_n 3, 1) := by decide +kernel
theorem dX10_stepWhole_26 : decode cX10_stepWhole 26 = .ok (.iload_n 3, 1) := by decide +kernel
theorem dX10_stepWhole_27 : decode cX10_stepWhole 27 = .ok (.bipush 8, 2) := by decide +kernel
theorem dX10_stepWhole_29 : decode cX10_stepWhole 29 = .ok (.if_icmp .ge 32, 3) := by decide +kernel
theorem dX10_stepWhole_32 : decode cX10_stepWhole 32 = .ok (.aload_n 0, 1) := by decide +kernel
theorem dX10_stepWhole_33 : decode cX10_stepWhole 33 = .ok (.getfield 55, 3) := by decide +kernel
theorem dX10_stepWhole_36 : decode cX10_stepWhole 36 = .ok (.iload_n 3, 1) := by decide +kernel
theorem dX10_stepWhole_37 : decode cX10_stepWhole 37 = .ok (.aaload, 1) := by decide +kernel
theorem dX10_stepWhole_38 : decode cX10_stepWhole 38 = .ok (.getfield 285, 3) := by decide +kernel
theorem dX10_stepWhole_41 : decode cX10_stepWhole 41 = .ok (.iload_n 1, 1) := by decide +kernel
theorem dX10_stepWhole_42 : decode cX10_stepWhole 42 = .ok (.if_icmp .ne 13, 3) := by decide +kernel
theorem dX10_stepWhole_45 : decode cX10_stepWhole 45 = .ok (.aload_n 0, 1) := by decide +kernel
theorem dX10_stepWhole_46 : decode cX10_stepWhole 46 = .ok (.getfield 55, 3) := by decide +kernel
theorem dX10_stepWhole_49 : decode cX10_stepWhole 49 = .ok (.iload_n 3, 1) := by decide +kernel
theorem dX10_stepWhole_50 : decode cX10_stepWhole 50 = .ok (.aaload, 1) := by decide +kernel
theorem dX10_stepWhole_51 : decode cX10_stepWhole 51 = .ok (.aload_n 2, 1) := by decide +kernel
theorem dX10_stepWhole_52 : decode cX10_stepWhole 52 = .ok (.invokevirtual 299, 3) := by decide +kernel
theorem dX10_stepWhole_55 : decode cX10_stepWhole 55 = .ok (.iinc 3 1, 3) := by decide +kernel
theorem dX10_stepWhole_58 : decode cX10_stepWhole 58 = .ok (.goto (-32), 3) := by decide +kernel
theorem dX10_stepWhole_61 : decode cX10_stepWhole 61 = .ok (.iconst 0, 1) := by decide +kernel
theorem dX10_stepWhole_62 : decode cX10_stepWhole 62 = .ok (.istore_n 3, 1) := by decide +kernel
theorem dX10_stepWhole_63 : decode cX10_stepWhole 63 = .ok (.iload_n 3, 1) := by decide +kernel
theorem dX10_stepWhole_64 : decode cX10_stepWhole 64 = .ok (.bipush 8, 2) := by decide +kernel
theorem dX10_stepWhole_66 : decode cX10_stepWhole 66 = .ok (.if_icmp .ge 44, 3) := by decide +kernel
theorem dX10_stepWhole_69 : decode cX10_stepWhole 69 = .ok (.aload_n 0, 1) := by decide +kernel
theorem dX10_stepWhole_70 : decode cX10_stepWhole 70 = .ok (.getfield 61, 3) := by decide +kernel
theorem dX10_stepWhole_73 : decode cX10_stepWhole 73 = .ok (.iload_n 3, 1) := by decide +kernel
theorem dX10_stepWhole_74 : decode cX10_stepWhole 74 = .ok (.aaload, 1) := by decide +kernel
theorem dX10_stepWhole_75 : decode cX10_stepWhole 75 = .ok (.getfield 293, 3) := by decide +kernel
theorem dX10_stepWhole_78 : decode cX10_stepWhole 78 = .ok (.iload_n 1, 1) := by decide +kernel
theorem dX10_stepWhole_79 : decode cX10_stepWhole 79 = .ok (.if_icmp .ne 25, 3) := by decide +kernel
theorem dX10_stepWhole_82 : decode cX10_stepWhole 82 = .ok (.aload_n 0, 1) := by decide +kernel
theorem dX10_stepWhole_83 : decode cX10_stepWhole 83 = .ok (.getfield 61, 3) := by decide +kernel
theorem dX10_stepWhole_86 : decode cX10_stepWhole 86 = .ok (.iload_n 3, 1) := by decide +kernel
theorem dX10_stepWhole_87 : decode cX10_stepWhole 87 = .ok (.aaload, 1) := by decide +kernel
theorem dX10_stepWhole_88 : decode cX10_stepWhole 88 = .ok (.aload_n 2, 1) := by decide +kernel
theorem dX10_stepWhole_89 : decode cX10_stepWhole 89 = .ok (.aload_n 0, 1) := by decide +kernel
theorem dX10_stepWhole_90 : decode cX10_stepWhole 90 = .ok (.getfield 61, 3) := by decide +kernel
theorem dX10_stepWhole_93 : decode cX10_stepWhole 93 = .ok (.iload_n 3, 1) := by decide +kernel
theorem dX10_stepWhole_94 : decode cX10_stepWhole 94 = .ok (.aaload, 1) := by decide +kernel
theorem dX10_stepWhole_95 : decode cX10_stepWhole 95 = .ok (.getfield 294, 3) := by decide +kernel
theorem dX10_stepWhole_98 : decode cX10_stepWhole 98 = .ok (.invokevirtual 187, 3) := by decide +kernel
theorem dX10_stepWhole_101 : decode cX10_stepWhole 101 = .ok (.invokevirtual 302, 3) := by decide +kernel
theorem dX10_stepWhole_104 : decode cX10_stepWhole 104 = .ok (.iinc 3 1, 3) := by decide +kernel
theorem dX10_stepWhole_107 : decode cX10_stepWhole 107 = .ok (.goto (-44), 3) := by decide +kernel
theorem dX10_stepWhole_110 : decode cX10_stepWhole 110 = .ok (.iconst 1, 1) := by decide +kernel
theorem dX10_stepWhole_111 : decode cX10_stepWhole 111 = .ok (.ireturn, 1) := by decide +kernel
theorem dX10_bearsNest_0 : decode cX10_bearsNest 0 = .ok (.iconst 0, 1) := by decide +kernel
theorem dX10_bearsNest_1 : decode cX10_bearsNest 1 = .ok (.istore_n 2, 1) := by decide +kernel
theorem dX10_bearsNest_2 : decode cX10_bearsNest 2 = .ok (.iload_n 2, 1) := by decide +kernel
theorem dX10_bearsNest_3 : decode cX10_bearsNest 3 = .ok (.bipush 6, 2) := by decide +kernel
theorem dX10_bearsNest_5 : decode cX10_bearsNest 5 = .ok (.if_icmp .ge 52, 3) := by decide +kernel
theorem dX10_bearsNest_8 : decode cX10_bearsNest 8 = .ok (.aload_n 0, 1) := by decide +kernel
theorem dX10_bearsNest_9 : decode cX10_bearsNest 9 = .ok (.getfield 30, 3) := by decide +kernel
theorem dX10_bearsNest_12 : decode cX10_bearsNest 12 = .ok (.iload_n 2, 1) := by decide +kernel
theorem dX10_bearsNest_13 : decode cX10_bearsNest 13 = .ok (.aaload, 1) := by decide +kernel
theorem dX10_bearsNest_14 : decode cX10_bearsNest 14 = .ok (.getfield 305, 3) := by decide +kernel
theorem dX10_bearsNest_17 : decode cX10_bearsNest 17 = .ok (.ifCond .eq 34, 3) := by decide +kernel
theorem dX10_bearsNest_20 : decode cX10_bearsNest 20 = .ok (.aload_n 0, 1) := by decide +kernel
theorem dX10_bearsNest_21 : decode cX10_bearsNest 21 = .ok (.getfield 30, 3) := by decide +kernel
theorem dX10_bearsNest_24 : decode cX10_bearsNest 24 = .ok (.iload_n 2, 1) := by decide +kernel
theorem dX10_bearsNest_25 : decode cX10_bearsNest 25 = .ok (.aaload, 1) := by decide +kernel
theorem dX10_bearsNest_26 : decode cX10_bearsNest 26 = .ok (.getfield 276, 3) := by decide +kernel
theorem dX10_bearsNest_29 : decode cX10_bearsNest 29 = .ok (.iconst 2, 1) := by decide +kernel
theorem dX10_bearsNest_30 : decode cX10_bearsNest 30 = .ok (.if_icmp .ne 21, 3) := by decide +kernel
theorem dX10_bearsNest_33 : decode cX10_bearsNest 33 = .ok (.aload_n 0, 1) := by decide +kernel
theorem dX10_bearsNest_34 : decode cX10_bearsNest 34 = .ok (.getfield 30, 3) := by decide +kernel
theorem dX10_bearsNest_37 : decode cX10_bearsNest 37 = .ok (.iload_n 2, 1) := by decide +kernel
theorem dX10_bearsNest_38 : decode cX10_bearsNest 38 = .ok (.aaload, 1) := by decide +kernel
theorem dX10_bearsNest_39 : decode cX10_bearsNest 39 = .ok (.getfield 309, 3) := by decide +kernel
theorem dX10_bearsNest_42 : decode cX10_bearsNest 42 = .ok (.getfield 313, 3) := by decide +kernel
theorem dX10_bearsNest_45 : decode cX10_bearsNest 45 = .ok (.iload_n 1, 1) := by decide +kernel
theorem dX10_bearsNest_46 : decode cX10_bearsNest 46 = .ok (.if_icmp .ne 5, 3) := by decide +kernel
theorem dX10_bearsNest_49 : decode cX10_bearsNest 49 = .ok (.iconst 1, 1) := by decide +kernel
theorem dX10_bearsNest_50 : decode cX10_bearsNest 50 = .ok (.ireturn, 1) := by decide +kernel
theorem dX10_bearsNest_51 : decode cX10_bearsNest 51 = .ok (.iinc 2 1, 3) := by decide +kernel
theorem dX10_bearsNest_54 : decode cX10_bearsNest 54 = .ok (.goto (-52), 3) := by decide +kernel
theorem dX10_bearsNest_57 : decode cX10_bearsNest 57 = .ok (.iconst 0, 1) := by decide +kernel
theorem dX10_bearsNest_58 : decode cX10_bearsNest 58 = .ok (.ireturn, 1) := by decide +kernel
set_option maxRecDepth 20000 in
theorem ggX10_liesIn_X10_isBoard : GoodIn wsX10_liesIn wsX10_isBoard := goodIn_r _ [5] (by decide +kernel) (by decide +kernel)
set_option maxRecDepth 20000 in
theorem gX10_liesIn_X10_isBoard : GoodIn wsX10_liesIn (va_wsS RX10 157 yX10_isBoard wsX10_isBoard) := goodIn_app (goodIn_of _ (by decide +kernel)) ggX10_liesIn_X10_isBoard
theorem dX10_liesIn_0 : decode cX10_liesIn 0 = .ok (.iload_n 1, 1) := by decide +kernel
theorem dX10_liesIn_1 : decode cX10_liesIn 1 = .ok (.istore_n 3, 1) := by decide +kernel
theorem dX10_liesIn_2 : decode cX10_liesIn 2 = .ok (.iconst 0, 1) := by decide +kernel
theorem dX10_liesIn_3 : decode cX10_liesIn 3 = .ok (.istore 4, 2) := by decide +kernel
theorem dX10_liesIn_5 : decode cX10_liesIn 5 = .ok (.iload 4, 2) := by decide +kernel
theorem dX10_liesIn_7 : decode cX10_liesIn 7 = .ok (.bipush 6, 2) := by decide +kernel
theorem dX10_liesIn_9 : decode cX10_liesIn 9 = .ok (.if_icmp .ge 74, 3) := by decide +kernel
theorem dX10_liesIn_12 : decode cX10_liesIn 12 = .ok (.aload_n 0, 1) := by decide +kernel
theorem dX10_liesIn_13 : decode cX10_liesIn 13 = .ok (.getfield 30, 3) := by decide +kernel
theorem dX10_liesIn_16 : decode cX10_liesIn 16 = .ok (.iload_n 3, 1) := by decide +kernel
theorem dX10_liesIn_17 : decode cX10_liesIn 17 = .ok (.aaload, 1) := by decide +kernel
theorem dX10_liesIn_18 : decode cX10_liesIn 18 = .ok (.getfield 305, 3) := by decide +kernel
theorem dX10_liesIn_21 : decode cX10_liesIn 21 = .ok (.ifCond .eq 34, 3) := by decide +kernel
theorem dX10_liesIn_24 : decode cX10_liesIn 24 = .ok (.aload_n 0, 1) := by decide +kernel
theorem dX10_liesIn_25 : decode cX10_liesIn 25 = .ok (.getfield 30, 3) := by decide +kernel
theorem dX10_liesIn_28 : decode cX10_liesIn 28 = .ok (.iload_n 3, 1) := by decide +kernel
theorem dX10_liesIn_29 : decode cX10_liesIn 29 = .ok (.aaload, 1) := by decide +kernel
theorem dX10_liesIn_30 : decode cX10_liesIn 30 = .ok (.getfield 276, 3) := by decide +kernel
theorem dX10_liesIn_33 : decode cX10_liesIn 33 = .ok (.iconst 2, 1) := by decide +kernel
theorem dX10_liesIn_34 : decode cX10_liesIn 34 = .ok (.if_icmp .ne 21, 3) := by decide +kernel
theorem dX10_liesIn_37 : decode cX10_liesIn 37 = .ok (.aload_n 0, 1) := by decide +kernel
theorem dX10_liesIn_38 : decode cX10_liesIn 38 = .ok (.getfield 30, 3) := by decide +kernel
theorem dX10_liesIn_41 : decode cX10_liesIn 41 = .ok (.iload_n 3, 1) := by decide +kernel
theorem dX10_liesIn_42 : decode cX10_liesIn 42 = .ok (.aaload, 1) := by decide +kernel
theorem dX10_liesIn_43 : decode cX10_liesIn 43 = .ok (.getfield 309, 3) := by decide +kernel
theorem dX10_liesIn_46 : decode cX10_liesIn 46 = .ok (.getfield 313, 3) := by decide +kernel
theorem dX10_liesIn_49 : decode cX10_liesIn 49 = .ok (.invokestatic 157, 3) := by decide +kernel
theorem dX10_liesIn_52 : decode cX10_liesIn 52 = .ok (.ifCond .ne 5, 3) := by decide +kernel
theorem dX10_liesIn_55 : decode cX10_liesIn 55 = .ok (.iconst 0, 1) := by decide +kernel
theorem dX10_liesIn_56 : decode cX10_liesIn 56 = .ok (.ireturn, 1) := by decide +kernel
theorem dX10_liesIn_57 : decode cX10_liesIn 57 = .ok (.aload_n 0, 1) := by decide +kernel
theorem dX10_liesIn_58 : decode cX10_liesIn 58 = .ok (.getfield 30, 3) := by decide +kernel
theorem dX10_liesIn_61 : decode cX10_liesIn 61 = .ok (.iload_n 3, 1) := by decide +kernel
theorem dX10_liesIn_62 : decode cX10_liesIn 62 = .ok (.aaload, 1) := by decide +kernel
theorem dX10_liesIn_63 : decode cX10_liesIn 63 = .ok (.getfield 309, 3) := by decide +kernel
theorem dX10_liesIn_66 : decode cX10_liesIn 66 = .ok (.getfield 313, 3) := by decide +kernel
theorem dX10_liesIn_69 : decode cX10_liesIn 69 = .ok (.istore_n 3, 1) := by decide +kernel
theorem dX10_liesIn_70 : decode cX10_liesIn 70 = .ok (.iload_n 3, 1) := by decide +kernel
theorem dX10_liesIn_71 : decode cX10_liesIn 71 = .ok (.iload_n 2, 1) := by decide +kernel
theorem dX10_liesIn_72 : decode cX10_liesIn 72 = .ok (.if_icmp .ne 5, 3) := by decide +kernel
theorem dX10_liesIn_75 : decode cX10_liesIn 75 = .ok (.iconst 1, 1) := by decide +kernel
theorem dX10_liesIn_76 : decode cX10_liesIn 76 = .ok (.ireturn, 1) := by decide +kernel
theorem dX10_liesIn_77 : decode cX10_liesIn 77 = .ok (.iinc 4 1, 3) := by decide +kernel
theorem dX10_liesIn_80 : decode cX10_liesIn 80 = .ok (.goto (-75), 3) := by decide +kernel
theorem dX10_liesIn_83 : decode cX10_liesIn 83 = .ok (.iconst 0, 1) := by decide +kernel
theorem dX10_liesIn_84 : decode cX10_liesIn 84 = .ok (.ireturn, 1) := by decide +kernel
set_option maxRecDepth 20000 in
theorem ggX10_clear_X10_removeBoard : GoodIn wsX10_clear wsX10_removeBoard := goodIn_r _ [6, 1, 7, 8, 16, 17, 18, 19, 20, 21, 22, 23, 24, 25, 26, 27, 28, 29, 30, 31, 32, 33, 34, 35, 36, 37, 38, 39, 40, 41, 42, 43, 44, 45, 46, 47, 48, 49, 50, 51, 52, 53, 54, 55, 56, 57, 58, 59, 60, 61, 62] (by decide +kernel) (by decide +kernel)
set_option maxRecDepth 20000 in
theorem gX10_clear_X10_removeBoard : GoodIn wsX10_clear (wsV RX10 318 RX10 yX10_removeBoard wsX10_removeBoard) := goodIn_app (goodIn_of _ (by decide +kernel)) ggX10_clear_X10_removeBoard
set_option maxRecDepth 20000 in
theorem ggX10_clear_X10_hasGround : GoodIn wsX10_clear wsX10_hasGround := goodIn_r _ [12, 1, 13, 14, 5, 15, 16, 17, 18, 19, 20, 21, 22, 23, 24, 25, 26, 27, 28, 29, 30, 31, 32, 33, 34, 35, 36, 37, 38, 39, 40, 41, 42, 43, 44, 45, 46, 47, 48, 49, 50, 51, 52, 53, 63, 64, 65, 66, 67] (by decide +kernel) (by decide +kernel)
set_option maxRecDepth 20000 in
theorem gX10_clear_X10_hasGround : GoodIn wsX10_clear (wsV RX10 321 RX10 yX10_hasGround wsX10_hasGround) := goodIn_app (goodIn_of _ (by decide +kernel)) ggX10_clear_X10_hasGround
theorem dX10_clear_0 : decode cX10_clear 0 = .ok (.aload_n 0, 1) := by decide +kernel
theorem dX10_clear_1 : decode cX10_clear 1 = .ok (.iload_n 1, 1) := by decide +kernel
theorem dX10_clear_2 : decode cX10_clear 2 = .ok (.invokevirtual 318, 3) := by decide +kernel
theorem dX10_clear_5 : decode cX10_clear 5 = .ok (.iconst 0, 1) := by decide +kernel
theorem dX10_clear_6 : decode cX10_clear 6 = .ok (.istore_n 2, 1) := by decide +kernel
theorem dX10_clear_7 : decode cX10_clear 7 = .ok (.iload_n 2, 1) := by decide +kernel
theorem dX10_clear_8 : decode cX10_clear 8 = .ok (.bipush 6, 2) := by decide +kernel
theorem dX10_clear_10 : decode cX10_clear 10 = .ok (.if_icmp .ge 61, 3) := by decide +kernel
theorem dX10_clear_13 : decode cX10_clear 13 = .ok (.iconst 0, 1) := by decide +kernel
theorem dX10_clear_14 : decode cX10_clear 14 = .ok (.istore_n 3, 1) := by decide +kernel
theorem dX10_clear_15 : decode cX10_clear 15 = .ok (.iload_n 3, 1) := by decide +kernel
theorem dX10_clear_16 : decode cX10_clear 16 = .ok (.bipush 6, 2) := by decide +kernel
theorem dX10_clear_18 : decode cX10_clear 18 = .ok (.if_icmp .ge 47, 3) := by decide +kernel
theorem dX10_clear_21 : decode cX10_clear 21 = .ok (.aload_n 0, 1) := by decide +kernel
theorem dX10_clear_22 : decode cX10_clear 22 = .ok (.getfield 30, 3) := by decide +kernel
theorem dX10_clear_25 : decode cX10_clear 25 = .ok (.iload_n 3, 1) := by decide +kernel
theorem dX10_clear_26 : decode cX10_clear 26 = .ok (.aaload, 1) := by decide +kernel
theorem dX10_clear_27 : decode cX10_clear 27 = .ok (.getfield 305, 3) := by decide +kernel
theorem dX10_clear_30 : decode cX10_clear 30 = .ok (.ifCond .eq 29, 3) := by decide +kernel
theorem dX10_clear_33 : decode cX10_clear 33 = .ok (.aload_n 0, 1) := by decide +kernel
theorem dX10_clear_34 : decode cX10_clear 34 = .ok (.getfield 30, 3) := by decide +kernel
theorem dX10_clear_37 : decode cX10_clear 37 = .ok (.iload_n 3, 1) := by decide +kernel
theorem dX10_clear_38 : decode cX10_clear 38 = .ok (.aaload, 1) := by decide +kernel
theorem dX10_clear_39 : decode cX10_clear 39 = .ok (.getfield 276, 3) := by decide +kernel
theorem dX10_clear_42 : decode cX10_clear 42 = .ok (.iconst 2, 1) := by decide +kernel
theorem dX10_clear_43 : decode cX10_clear 43 = .ok (.if_icmp .ne 16, 3) := by decide +kernel
theorem dX10_clear_46 : decode cX10_clear 46 = .ok (.aload_n 0, 1) := by decide +kernel
theorem dX10_clear_47 : decode cX10_clear 47 = .ok (.iload_n 3, 1) := by decide +kernel
theorem dX10_clear_48 : decode cX10_clear 48 = .ok (.invokevirtual 321, 3) := by decide +kernel
theorem dX10_clear_51 : decode cX10_clear 51 = .ok (.ifCond .ne 8, 3) := by decide +kernel
theorem dX10_clear_54 : decode cX10_clear 54 = .ok (.aload_n 0, 1) := by decide +kernel
theorem dX10_clear_55 : decode cX10_clear 55 = .ok (.iload_n 3, 1) := by decide +kernel
theorem dX10_clear_56 : decode cX10_clear 56 = .ok (.invokevirtual 318, 3) := by decide +kernel
theorem dX10_clear_59 : decode cX10_clear 59 = .ok (.iinc 3 1, 3) := by decide +kernel
theorem dX10_clear_62 : decode cX10_clear 62 = .ok (.goto (-47), 3) := by decide +kernel
theorem dX10_clear_65 : decode cX10_clear 65 = .ok (.iinc 2 1, 3) := by decide +kernel
theorem dX10_clear_68 : decode cX10_clear 68 = .ok (.goto (-61), 3) := by decide +kernel
theorem dX10_clear_71 : decode cX10_clear 71 = .ok (.return_, 1) := by decide +kernel
set_option maxRecDepth 20000 in
theorem ggX10_hasGround_X10_isBoard : GoodIn wsX10_hasGround wsX10_isBoard := goodIn_r _ [5] (by decide +kernel) (by decide +kernel)
set_option maxRecDepth 20000 in
theorem gX10_hasGround_X10_isBoard : GoodIn wsX10_hasGround (va_wsS RX10 157 yX10_isBoard wsX10_isBoard) := goodIn_app (goodIn_of _ (by decide +kernel)) ggX10_hasGround_X10_isBoard
theorem dX10_hasGround_0 : decode cX10_hasGround 0 = .ok (.aload_n 0, 1) := by decide +kernel
theorem dX10_hasGround_1 : decode cX10_hasGround 1 = .ok (.getfield 30, 3) := by decide +kernel
theorem dX10_hasGround_4 : decode cX10_hasGround 4 = .ok (.iload_n 1, 1) := by decide +kernel
theorem dX10_hasGround_5 : decode cX10_hasGround 5 = .ok (.aaload, 1) := by decide +kernel
theorem dX10_hasGround_6 : decode cX10_hasGround 6 = .ok (.getfield 309, 3) := by decide +kernel
theorem dX10_hasGround_9 : decode cX10_hasGround 9 = .ok (.getfield 313, 3) := by decide +kernel
theorem dX10_hasGround_12 : decode cX10_hasGround 12 = .ok (.istore_n 2, 1) := by decide +kernel
theorem dX10_hasGround_13 : decode cX10_hasGround 13 = .ok (.iload_n 2, 1) := by decide +kernel
theorem dX10_hasGround_14 : decode cX10_hasGround 14 = .ok (.invokestatic 157, 3) := by decide +kernel
theorem dX10_hasGround_17 : decode cX10_hasGround 17 = .ok (.ifCond .eq 19, 3) := by decide +kernel
theorem dX10_hasGround_20 : decode cX10_hasGround 20 = .ok (.aload_n 0, 1) := by decide +kernel
theorem dX10_hasGround_21 : decode cX10_hasGround 21 = .ok (.getfield 30, 3) := by decide +kernel
theorem dX10_hasGround_24 : decode cX10_hasGround 24 = .ok (.iload_n 2, 1) := by decide +kernel
theorem dX10_hasGround_25 : decode cX10_hasGround 25 = .ok (.aaload, 1) := by decide +kernel
theorem dX10_hasGround_26 : decode cX10_hasGround 26 = .ok (.getfield 305, 3) := by decide +kernel
theorem dX10_hasGround_29 : decode cX10_hasGround 29 = .ok (.ifCond .eq 7, 3) := by decide +kernel
theorem dX10_hasGround_32 : decode cX10_hasGround 32 = .ok (.iconst 1, 1) := by decide +kernel
theorem dX10_hasGround_33 : decode cX10_hasGround 33 = .ok (.goto 4, 3) := by decide +kernel
theorem dX10_hasGround_36 : decode cX10_hasGround 36 = .ok (.iconst 0, 1) := by decide +kernel
theorem dX10_hasGround_37 : decode cX10_hasGround 37 = .ok (.ireturn, 1) := by decide +kernel
theorem dX10_removeBoard_0 : decode cX10_removeBoard 0 = .ok (.aload_n 0, 1) := by decide +kernel
theorem dX10_removeBoard_1 : decode cX10_removeBoard 1 = .ok (.getfield 30, 3) := by decide +kernel
theorem dX10_removeBoard_4 : decode cX10_removeBoard 4 = .ok (.iload_n 1, 1) := by decide +kernel
theorem dX10_removeBoard_5 : decode cX10_removeBoard 5 = .ok (.aaload, 1) := by decide +kernel
theorem dX10_removeBoard_6 : decode cX10_removeBoard 6 = .ok (.iconst 0, 1) := by decide +kernel
theorem dX10_removeBoard_7 : decode cX10_removeBoard 7 = .ok (.putfield 305, 3) := by decide +kernel
theorem dX10_removeBoard_10 : decode cX10_removeBoard 10 = .ok (.iconst 0, 1) := by decide +kernel
theorem dX10_removeBoard_11 : decode cX10_removeBoard 11 = .ok (.istore_n 2, 1) := by decide +kernel
theorem dX10_removeBoard_12 : decode cX10_removeBoard 12 = .ok (.iload_n 2, 1) := by decide +kernel
theorem dX10_removeBoard_13 : decode cX10_removeBoard 13 = .ok (.bipush 8, 2) := by decide +kernel
theorem dX10_removeBoard_15 : decode cX10_removeBoard 15 = .ok (.if_icmp .ge 33, 3) := by decide +kernel
theorem dX10_removeBoard_18 : decode cX10_removeBoard 18 = .ok (.aload_n 0, 1) := by decide +kernel
theorem dX10_removeBoard_19 : decode cX10_removeBoard 19 = .ok (.getfield 55, 3) := by decide +kernel
theorem dX10_removeBoard_22 : decode cX10_removeBoard 22 = .ok (.iload_n 2, 1) := by decide +kernel
theorem dX10_removeBoard_23 : decode cX10_removeBoard 23 = .ok (.aaload, 1) := by decide +kernel
theorem dX10_removeBoard_24 : decode cX10_removeBoard 24 = .ok (.getfield 285, 3) := by decide +kernel
theorem dX10_removeBoard_27 : decode cX10_removeBoard 27 = .ok (.iload_n 1, 1) := by decide +kernel
theorem dX10_removeBoard_28 : decode cX10_removeBoard 28 = .ok (.if_icmp .ne 14, 3) := by decide +kernel
theorem dX10_removeBoard_31 : decode cX10_removeBoard 31 = .ok (.aload_n 0, 1) := by decide +kernel
theorem dX10_removeBoard_32 : decode cX10_removeBoard 32 = .ok (.getfield 55, 3) := by decide +kernel
theorem dX10_removeBoard_35 : decode cX10_removeBoard 35 = .ok (.iload_n 2, 1) := by decide +kernel
theorem dX10_removeBoard_36 : decode cX10_removeBoard 36 = .ok (.aaload, 1) := by decide +kernel
theorem dX10_removeBoard_37 : decode cX10_removeBoard 37 = .ok (.bipush (-9), 2) := by decide +kernel
theorem dX10_removeBoard_39 : decode cX10_removeBoard 39 = .ok (.putfield 285, 3) := by decide +kernel
theorem dX10_removeBoard_42 : decode cX10_removeBoard 42 = .ok (.iinc 2 1, 3) := by decide +kernel
theorem dX10_removeBoard_45 : decode cX10_removeBoard 45 = .ok (.goto (-33), 3) := by decide +kernel
theorem dX10_removeBoard_48 : decode cX10_removeBoard 48 = .ok (.iconst 0, 1) := by decide +kernel
theorem dX10_removeBoard_49 : decode cX10_removeBoard 49 = .ok (.istore_n 2, 1) := by decide +kernel
theorem dX10_removeBoard_50 : decode cX10_removeBoard 50 = .ok (.iload_n 2, 1) := by decide +kernel
theorem dX10_removeBoard_51 : decode cX10_removeBoard 51 = .ok (.bipush 8, 2) := by decide +kernel
theorem dX10_removeBoard_53 : decode cX10_removeBoard 53 = .ok (.if_icmp .ge 33, 3) := by decide +kernel
theorem dX10_removeBoard_56 : decode cX10_removeBoard 56 = .ok (.aload_n 0, 1) := by decide +kernel
theorem dX10_removeBoard_57 : decode cX10_removeBoard 57 = .ok (.getfield 61, 3) := by decide +kernel
theorem dX10_removeBoard_60 : decode cX10_removeBoard 60 = .ok (.iload_n 2, 1) := by decide +kernel
theorem dX10_removeBoard_61 : decode cX10_removeBoard 61 = .ok (.aaload, 1) := by decide +kernel
theorem dX10_removeBoard_62 : decode cX10_removeBoard 62 = .ok (.getfield 293, 3) := by decide +kernel
theorem dX10_removeBoard_65 : decode cX10_removeBoard 65 = .ok (.iload_n 1, 1) := by decide +kernel
theorem dX10_removeBoard_66 : decode cX10_removeBoard 66 = .ok (.if_icmp .ne 14, 3) := by decide +kernel
theorem dX10_removeBoard_69 : decode cX10_removeBoard 69 = .ok (.aload_n 0, 1) := by decide +kernel
theorem dX10_removeBoard_70 : decode cX10_removeBoard 70 = .ok (.getfield 61, 3) := by decide +kernel
theorem dX10_removeBoard_73 : decode cX10_removeBoard 73 = .ok (.iload_n 2, 1) := by decide +kernel
theorem dX10_removeBoard_74 : decode cX10_removeBoard 74 = .ok (.aaload, 1) := by decide +kernel
theorem dX10_removeBoard_75 : decode cX10_removeBoard 75 = .ok (.bipush (-9), 2) := by decide +kernel
theorem dX10_removeBoard_77 : decode cX10_removeBoard 77 = .ok (.putfield 293, 3) := by decide +kernel
theorem dX10_removeBoard_80 : decode cX10_removeBoard 80 = .ok (.iinc 2 1, 3) := by decide +kernel
theorem dX10_removeBoard_83 : decode cX10_removeBoard 83 = .ok (.goto (-33), 3) := by decide +kernel
theorem dX10_removeBoard_86 : decode cX10_removeBoard 86 = .ok (.return_, 1) := by decide +kernel
set_option maxRecDepth 20000 in
theorem ggX10_boat_X10_within : GoodIn wsX10_boat wsX10_within := goodIn_r _ [5] (by decide +kernel) (by decide +kernel)
set_option maxRecDepth 20000 in
theorem gX10_boat_X10_within : GoodIn wsX10_boat (va_wsS RX10 101 yX10_within wsX10_within) := goodIn_app (goodIn_of _ (by decide +kernel)) ggX10_boat_X10_within
set_option maxRecDepth 20000 in
theorem ggX10_boat_X10_cellRefused : GoodIn wsX10_boat wsX10_cellRefused := goodIn_r _ [9, 10, 11, 12, 13, 4, 14, 15, 16, 17, 18, 19, 20, 21, 22, 23, 24, 25, 26, 27, 28, 29, 30, 31, 32, 33, 34, 35, 36, 37, 38, 39, 40, 41, 42, 43, 44, 45, 46, 47, 48, 49, 53, 54, 55, 56, 57, 58, 59, 60, 61, 62, 63, 64, 65, 66, 67, 68, 69, 70, 71] (by decide +kernel) (by decide +kernel)
set_option maxRecDepth 20000 in
theorem gX10_boat_X10_cellRefused : GoodIn wsX10_boat (wsV RX10 174 RX10 yX10_cellRefused wsX10_cellRefused) := goodIn_app (goodIn_of _ (by decide +kernel)) ggX10_boat_X10_cellRefused
theorem dX10_boat_0 : decode cX10_boat 0 = .ok (.aload_n 0, 1) := by decide +kernel
theorem dX10_boat_1 : decode cX10_boat 1 = .ok (.iload_n 1, 1) := by decide +kernel
theorem dX10_boat_2 : decode cX10_boat 2 = .ok (.iconst 0, 1) := by decide +kernel
theorem dX10_boat_3 : decode cX10_boat 3 = .ok (.bipush 7, 2) := by decide +kernel
theorem dX10_boat_5 : decode cX10_boat 5 = .ok (.invokestatic 101, 3) := by decide +kernel
theorem dX10_boat_8 : decode cX10_boat 8 = .ok (.ifCond .eq 19, 3) := by decide +kernel
theorem dX10_boat_11 : decode cX10_boat 11 = .ok (.iload 4, 2) := by decide +kernel
theorem dX10_boat_13 : decode cX10_boat 13 = .ok (.iconst 1, 1) := by decide +kernel
theorem dX10_boat_14 : decode cX10_boat 14 = .ok (.sipush 1000, 3) := by decide +kernel
theorem dX10_boat_17 : decode cX10_boat 17 = .ok (.invokestatic 101, 3) := by decide +kernel
theorem dX10_boat_20 : decode cX10_boat 20 = .ok (.ifCond .eq 7, 3) := by decide +kernel
theorem dX10_boat_23 : decode cX10_boat 23 = .ok (.iconst 1, 1) := by decide +kernel
theorem dX10_boat_24 : decode cX10_boat 24 = .ok (.goto 4, 3) := by decide +kernel
theorem dX10_boat_27 : decode cX10_boat 27 = .ok (.iconst 0, 1) := by decide +kernel
theorem dX10_boat_28 : decode cX10_boat 28 = .ok (.iload_n 2, 1) := by decide +kernel
theorem dX10_boat_29 : decode cX10_boat 29 = .ok (.iload_n 3, 1) := by decide +kernel
theorem dX10_boat_30 : decode cX10_boat 30 = .ok (.invokevirtual 174, 3) := by decide +kernel
theorem dX10_boat_33 : decode cX10_boat 33 = .ok (.istore 5, 2) := by decide +kernel
theorem dX10_boat_35 : decode cX10_boat 35 = .ok (.iload 5, 2) := by decide +kernel
theorem dX10_boat_37 : decode cX10_boat 37 = .ok (.ifCond .eq 6, 3) := by decide +kernel
theorem dX10_boat_40 : decode cX10_boat 40 = .ok (.iload 5, 2) := by decide +kernel
theorem dX10_boat_42 : decode cX10_boat 42 = .ok (.ireturn, 1) := by decide +kernel
theorem dX10_boat_43 : decode cX10_boat 43 = .ok (.aload_n 0, 1) := by decide +kernel
theorem dX10_boat_44 : decode cX10_boat 44 = .ok (.getfield 55, 3) := by decide +kernel
theorem dX10_boat_47 : decode cX10_boat 47 = .ok (.iload_n 1, 1) := by decide +kernel
theorem dX10_boat_48 : decode cX10_boat 48 = .ok (.aaload, 1) := by decide +kernel
theorem dX10_boat_49 : decode cX10_boat 49 = .ok (.getfield 285, 3) := by decide +kernel
theorem dX10_boat_52 : decode cX10_boat 52 = .ok (.bipush (-9), 2) := by decide +kernel
theorem dX10_boat_54 : decode cX10_boat 54 = .ok (.if_icmp .ne 7, 3) := by decide +kernel
theorem dX10_boat_57 : decode cX10_boat 57 = .ok (.iconst 0, 1) := by decide +kernel
theorem dX10_boat_58 : decode cX10_boat 58 = .ok (.goto 4, 3) := by decide +kernel
theorem dX10_boat_61 : decode cX10_boat 61 = .ok (.iconst 1, 1) := by decide +kernel
theorem dX10_boat_62 : decode cX10_boat 62 = .ok (.istore 6, 2) := by decide +kernel
theorem dX10_boat_64 : decode cX10_boat 64 = .ok (.aload_n 0, 1) := by decide +kernel
theorem dX10_boat_65 : decode cX10_boat 65 = .ok (.getfield 55, 3) := by decide +kernel
theorem dX10_boat_68 : decode cX10_boat 68 = .ok (.iload_n 1, 1) := by decide +kernel
theorem dX10_boat_69 : decode cX10_boat 69 = .ok (.aaload, 1) := by decide +kernel
theorem dX10_boat_70 : decode cX10_boat 70 = .ok (.iload_n 2, 1) := by decide +kernel
theorem dX10_boat_71 : decode cX10_boat 71 = .ok (.putfield 285, 3) := by decide +kernel
theorem dX10_boat_74 : decode cX10_boat 74 = .ok (.aload_n 0, 1) := by decide +kernel
theorem dX10_boat_75 : decode cX10_boat 75 = .ok (.getfield 55, 3) := by decide +kernel
theorem dX10_boat_78 : decode cX10_boat 78 = .ok (.iload_n 1, 1) := by decide +kernel
theorem dX10_boat_79 : decode cX10_boat 79 = .ok (.aaload, 1) := by decide +kernel
theorem dX10_boat_80 : decode cX10_boat 80 = .ok (.iload_n 3, 1) := by decide +kernel
theorem dX10_boat_81 : decode cX10_boat 81 = .ok (.putfield 288, 3) := by decide +kernel
theorem dX10_boat_84 : decode cX10_boat 84 = .ok (.aload_n 0, 1) := by decide +kernel
theorem dX10_boat_85 : decode cX10_boat 85 = .ok (.getfield 55, 3) := by decide +kernel
theorem dX10_boat_88 : decode cX10_boat 88 = .ok (.iload_n 1, 1) := by decide +kernel
theorem dX10_boat_89 : decode cX10_boat 89 = .ok (.aaload, 1) := by decide +kernel
theorem dX10_boat_90 : decode cX10_boat 90 = .ok (.iload 4, 2) := by decide +kernel
theorem dX10_boat_92 : decode cX10_boat 92 = .ok (.putfield 324, 3) := by decide +kernel
theorem dX10_boat_95 : decode cX10_boat 95 = .ok (.iload 6, 2) := by decide +kernel
theorem dX10_boat_97 : decode cX10_boat 97 = .ok (.ireturn, 1) := by decide +kernel
set_option maxRecDepth 20000 in
theorem ggX10_where_X10_within : GoodIn wsX10_where wsX10_within := goodIn_r _ [5] (by decide +kernel) (by decide +kernel)
set_option maxRecDepth 20000 in
theorem gX10_where_X10_within : GoodIn wsX10_where (va_wsS RX10 101 yX10_within wsX10_within) := goodIn_app (goodIn_of _ (by decide +kernel)) ggX10_where_X10_within
theorem dX10_where_0 : decode cX10_where 0 = .ok (.iload_n 1, 1) := by decide +kernel
theorem dX10_where_1 : decode cX10_where 1 = .ok (.iconst 0, 1) := by decide +kernel
theorem dX10_where_2 : decode cX10_where 2 = .ok (.bipush 7, 2) := by decide +kernel
theorem dX10_where_4 : decode cX10_where 4 = .ok (.invokestatic 101, 3) := by decide +kernel
theorem dX10_where_7 : decode cX10_where 7 = .ok (.ifCond .ne 5, 3) := by decide +kernel
theorem dX10_where_10 : decode cX10_where 10 = .ok (.iconst (-1), 1) := by decide +kernel
theorem dX10_where_11 : decode cX10_where 11 = .ok (.ireturn, 1) := by decide +kernel
theorem dX10_where_12 : decode cX10_where 12 = .ok (.aload_n 0, 1) := by decide +kernel
theorem dX10_where_13 : decode cX10_where 13 = .ok (.getfield 55, 3) := by decide +kernel
theorem dX10_where_16 : decode cX10_where 16 = .ok (.iload_n 1, 1) := by decide +kernel
theorem dX10_where_17 : decode cX10_where 17 = .ok (.aaload, 1) := by decide +kernel
theorem dX10_where_18 : decode cX10_where 18 = .ok (.getfield 285, 3) := by decide +kernel
theorem dX10_where_21 : decode cX10_where 21 = .ok (.bipush (-9), 2) := by decide +kernel
theorem dX10_where_23 : decode cX10_where 23 = .ok (.if_icmp .ne 8, 3) := by decide +kernel
theorem dX10_where_26 : decode cX10_where 26 = .ok (.bipush (-9), 2) := by decide +kernel
theorem dX10_where_28 : decode cX10_where 28 = .ok (.goto 12, 3) := by decide +kernel
theorem dX10_where_31 : decode cX10_where 31 = .ok (.aload_n 0, 1) := by decide +kernel
theorem dX10_where_32 : decode cX10_where 32 = .ok (.getfield 55, 3) := by decide +kernel
theorem dX10_where_35 : decode cX10_where 35 = .ok (.iload_n 1, 1) := by decide +kernel
theorem dX10_where_36 : decode cX10_where 36 = .ok (.aaload, 1) := by decide +kernel
theorem dX10_where_37 : decode cX10_where 37 = .ok (.getfield 288, 3) := by decide +kernel
theorem dX10_where_40 : decode cX10_where 40 = .ok (.ireturn, 1) := by decide +kernel
set_option maxRecDepth 20000 in
theorem ggX10_gauge_X10_isGauge : GoodIn wsX10_gauge wsX10_isGauge := goodIn_r _ [5] (by decide +kernel) (by decide +kernel)
set_option maxRecDepth 20000 in
theorem gX10_gauge_X10_isGauge : GoodIn wsX10_gauge (va_wsS RX10 327 yX10_isGauge wsX10_isGauge) := goodIn_app (goodIn_of _ (by decide +kernel)) ggX10_gauge_X10_isGauge
set_option maxRecDepth 20000 in
theorem ggX10_gauge_X10_cellRefused : GoodIn wsX10_gauge wsX10_cellRefused := goodIn_r _ [9, 10, 11, 12, 13, 4, 14, 15, 16, 17, 18, 19, 20, 21, 22, 23, 24, 25, 26, 27, 28, 29, 30, 40, 41, 42, 43, 44, 45, 46, 47, 48, 49, 50, 51, 52, 53, 54, 55, 56, 57, 58, 65, 66, 67, 68, 69, 70, 71, 72, 73, 74, 75, 76, 77, 78, 79, 80, 81, 82, 83] (by decide +kernel) (by decide +kernel)
set_option maxRecDepth 20000 in
theorem gX10_gauge_X10_cellRefused : GoodIn wsX10_gauge (wsV RX10 174 RX10 yX10_cellRefused wsX10_cellRefused) := goodIn_app (goodIn_of _ (by decide +kernel)) ggX10_gauge_X10_cellRefused
set_option maxRecDepth 20000 in
theorem ggX10_gauge_X2_place : GoodIn wsX10_gauge wsX2_place := goodIn_r _ [35, 36, 37, 38, 39, 59, 60, 61, 62, 63, 64] (by decide +kernel) (by decide +kernel)
set_option maxRecDepth 20000 in
theorem gX10_gauge_X2_place : GoodIn wsX10_gauge (wsV RX10 330 RX2 yX2_place wsX2_place) := goodIn_app (goodIn_of _ (by decide +kernel)) ggX10_gauge_X2_place
theorem dX10_gauge_0 : decode cX10_gauge 0 = .ok (.aload_n 0, 1) := by decide +kernel
theorem dX10_gauge_1 : decode cX10_gauge 1 = .ok (.iload_n 1, 1) := by decide +kernel
theorem dX10_gauge_2 : decode cX10_gauge 2 = .ok (.invokestatic 327, 3) := by decide +kernel
theorem dX10_gauge_5 : decode cX10_gauge 5 = .ok (.iload_n 2, 1) := by decide +kernel
theorem dX10_gauge_6 : decode cX10_gauge 6 = .ok (.iload_n 3, 1) := by decide +kernel
theorem dX10_gauge_7 : decode cX10_gauge 7 = .ok (.invokevirtual 174, 3) := by decide +kernel
theorem dX10_gauge_10 : decode cX10_gauge 10 = .ok (.istore 4, 2) := by decide +kernel
theorem dX10_gauge_12 : decode cX10_gauge 12 = .ok (.iload 4, 2) := by decide +kernel
theorem dX10_gauge_14 : decode cX10_gauge 14 = .ok (.ifCond .eq 6, 3) := by decide +kernel
theorem dX10_gauge_17 : decode cX10_gauge 17 = .ok (.iload 4, 2) := by decide +kernel
theorem dX10_gauge_19 : decode cX10_gauge 19 = .ok (.ireturn, 1) := by decide +kernel
theorem dX10_gauge_20 : decode cX10_gauge 20 = .ok (.aload_n 0, 1) := by decide +kernel
theorem dX10_gauge_21 : decode cX10_gauge 21 = .ok (.getfield 61, 3) := by decide +kernel
theorem dX10_gauge_24 : decode cX10_gauge 24 = .ok (.iload_n 1, 1) := by decide +kernel
theorem dX10_gauge_25 : decode cX10_gauge 25 = .ok (.aaload, 1) := by decide +kernel
theorem dX10_gauge_26 : decode cX10_gauge 26 = .ok (.getfield 293, 3) := by decide +kernel
theorem dX10_gauge_29 : decode cX10_gauge 29 = .ok (.bipush (-9), 2) := by decide +kernel
theorem dX10_gauge_31 : decode cX10_gauge 31 = .ok (.if_icmp .ne 7, 3) := by decide +kernel
theorem dX10_gauge_34 : decode cX10_gauge 34 = .ok (.iconst 0, 1) := by decide +kernel
theorem dX10_gauge_35 : decode cX10_gauge 35 = .ok (.goto 4, 3) := by decide +kernel
theorem dX10_gauge_38 : decode cX10_gauge 38 = .ok (.iconst 1, 1) := by decide +kernel
theorem dX10_gauge_39 : decode cX10_gauge 39 = .ok (.istore 5, 2) := by decide +kernel
theorem dX10_gauge_41 : decode cX10_gauge 41 = .ok (.aload_n 0, 1) := by decide +kernel
theorem dX10_gauge_42 : decode cX10_gauge 42 = .ok (.getfield 61, 3) := by decide +kernel
theorem dX10_gauge_45 : decode cX10_gauge 45 = .ok (.iload_n 1, 1) := by decide +kernel
theorem dX10_gauge_46 : decode cX10_gauge 46 = .ok (.aaload, 1) := by decide +kernel
theorem dX10_gauge_47 : decode cX10_gauge 47 = .ok (.iload_n 2, 1) := by decide +kernel
theorem dX10_gauge_48 : decode cX10_gauge 48 = .ok (.iload_n 3, 1) := by decide +kernel
theorem dX10_gauge_49 : decode cX10_gauge 49 = .ok (.invokevirtual 330, 3) := by decide +kernel
theorem dX10_gauge_52 : decode cX10_gauge 52 = .ok (.iload 5, 2) := by decide +kernel
theorem dX10_gauge_54 : decode cX10_gauge 54 = .ok (.ireturn, 1) := by decide +kernel
set_option maxRecDepth 20000 in
theorem ggX10_reading_X10_isGauge : GoodIn wsX10_reading wsX10_isGauge := goodIn_r _ [6] (by decide +kernel) (by decide +kernel)
set_option maxRecDepth 20000 in
theorem gX10_reading_X10_isGauge : GoodIn wsX10_reading (va_wsS RX10 327 yX10_isGauge wsX10_isGauge) := goodIn_app (goodIn_of _ (by decide +kernel)) ggX10_reading_X10_isGauge
set_option maxRecDepth 20000 in
theorem ggX10_reading_X2_placeOf : GoodIn wsX10_reading wsX2_placeOf := goodIn_r _ [11, 12, 13, 14, 15, 16, 17, 10, 18, 19, 39, 40, 41, 42, 43, 44] (by decide +kernel) (by decide +kernel)
set_option maxRecDepth 20000 in
theorem gX10_reading_X2_placeOf : GoodIn wsX10_reading (wsV RX10 333 RX2 yX2_placeOf wsX2_placeOf) := goodIn_app (goodIn_of _ (by decide +kernel)) ggX10_reading_X2_placeOf
theorem dX10_reading_0 : decode cX10_reading 0 = .ok (.iload_n 1, 1) := by decide +kernel
theorem dX10_reading_1 : decode cX10_reading 1 = .ok (.invokestatic 327, 3) := by decide +kernel
theorem dX10_reading_4 : decode cX10_reading 4 = .ok (.ifCond .ne 5, 3) := by decide +kernel
theorem dX10_reading_7 : decode cX10_reading 7 = .ok (.iconst (-1), 1) := by decide +kernel
theorem dX10_reading_8 : decode cX10_reading 8 = .ok (.ireturn, 1) := by decide +kernel
theorem dX10_reading_9 : decode cX10_reading 9 = .ok (.aload_n 0, 1) := by decide +kernel
theorem dX10_reading_10 : decode cX10_reading 10 = .ok (.getfield 61, 3) := by decide +kernel
theorem dX10_reading_13 : decode cX10_reading 13 = .ok (.iload_n 1, 1) := by decide +kernel
theorem dX10_reading_14 : decode cX10_reading 14 = .ok (.aaload, 1) := by decide +kernel
theorem dX10_reading_15 : decode cX10_reading 15 = .ok (.iload_n 2, 1) := by decide +kernel
theorem dX10_reading_16 : decode cX10_reading 16 = .ok (.invokevirtual 333, 3) := by decide +kernel
theorem dX10_reading_19 : decode cX10_reading 19 = .ok (.istore_n 3, 1) := by decide +kernel
theorem dX10_reading_20 : decode cX10_reading 20 = .ok (.iload_n 3, 1) := by decide +kernel
theorem dX10_reading_21 : decode cX10_reading 21 = .ok (.ifCond .ge 6, 3) := by decide +kernel
theorem dX10_reading_24 : decode cX10_reading 24 = .ok (.bipush (-9), 2) := by decide +kernel
theorem dX10_reading_26 : decode cX10_reading 26 = .ok (.ireturn, 1) := by decide +kernel
theorem dX10_reading_27 : decode cX10_reading 27 = .ok (.aload_n 0, 1) := by decide +kernel
theorem dX10_reading_28 : decode cX10_reading 28 = .ok (.aload_n 0, 1) := by decide +kernel
theorem dX10_reading_29 : decode cX10_reading 29 = .ok (.getfield 61, 3) := by decide +kernel
theorem dX10_reading_32 : decode cX10_reading 32 = .ok (.iload_n 1, 1) := by decide +kernel
theorem dX10_reading_33 : decode cX10_reading 33 = .ok (.aaload, 1) := by decide +kernel
theorem dX10_reading_34 : decode cX10_reading 34 = .ok (.getfield 336, 3) := by decide +kernel
theorem dX10_reading_37 : decode cX10_reading 37 = .ok (.iload_n 3, 1) := by decide +kernel
theorem dX10_reading_38 : decode cX10_reading 38 = .ok (.iaload, 1) := by decide +kernel
theorem dX10_reading_39 : decode cX10_reading 39 = .ok (.putfield 116, 3) := by decide +kernel
theorem dX10_reading_42 : decode cX10_reading 42 = .ok (.iconst 1, 1) := by decide +kernel
theorem dX10_reading_43 : decode cX10_reading 43 = .ok (.ireturn, 1) := by decide +kernel
set_option maxRecDepth 20000 in
theorem ggX10_lose_X10_isGauge : GoodIn wsX10_lose wsX10_isGauge := goodIn_r _ [5] (by decide +kernel) (by decide +kernel)
set_option maxRecDepth 20000 in
theorem gX10_lose_X10_isGauge : GoodIn wsX10_lose (va_wsS RX10 327 yX10_isGauge wsX10_isGauge) := goodIn_app (goodIn_of _ (by decide +kernel)) ggX10_lose_X10_isGauge
set_option maxRecDepth 20000 in
theorem ggX10_lose_X2_placeOf : GoodIn wsX10_lose wsX2_placeOf := goodIn_r _ [10, 11, 12, 13, 14, 15, 16, 9, 17, 18, 38, 39, 40, 41, 42, 43] (by decide +kernel) (by decide +kernel)
set_option maxRecDepth 20000 in
theorem gX10_lose_X2_placeOf : GoodIn wsX10_lose (wsV RX10 333 RX2 yX2_placeOf wsX2_placeOf) := goodIn_app (goodIn_of _ (by decide +kernel)) ggX10_lose_X2_placeOf
theorem dX10_lose_0 : decode cX10_lose 0 = .ok (.iload_n 1, 1) := by decide +kernel
theorem dX10_lose_1 : decode cX10_lose 1 = .ok (.invokestatic 327, 3) := by decide +kernel
theorem dX10_lose_4 : decode cX10_lose 4 = .ok (.ifCond .ne 5, 3) := by decide +kernel
theorem dX10_lose_7 : decode cX10_lose 7 = .ok (.iconst (-1), 1) := by decide +kernel
theorem dX10_lose_8 : decode cX10_lose 8 = .ok (.ireturn, 1) := by decide +kernel
theorem dX10_lose_9 : decode cX10_lose 9 = .ok (.aload_n 0, 1) := by decide +kernel
theorem dX10_lose_10 : decode cX10_lose 10 = .ok (.getfield 61, 3) := by decide +kernel
theorem dX10_lose_13 : decode cX10_lose 13 = .ok (.iload_n 1, 1) := by decide +kernel
theorem dX10_lose_14 : decode cX10_lose 14 = .ok (.aaload, 1) := by decide +kernel
theorem dX10_lose_15 : decode cX10_lose 15 = .ok (.iload_n 2, 1) := by decide +kernel
theorem dX10_lose_16 : decode cX10_lose 16 = .ok (.invokevirtual 333, 3) := by decide +kernel
theorem dX10_lose_19 : decode cX10_lose 19 = .ok (.istore_n 3, 1) := by decide +kernel
theorem dX10_lose_20 : decode cX10_lose 20 = .ok (.iload_n 3, 1) := by decide +kernel
theorem dX10_lose_21 : decode cX10_lose 21 = .ok (.ifCond .ge 6, 3) := by decide +kernel
theorem dX10_lose_24 : decode cX10_lose 24 = .ok (.bipush (-4), 2) := by decide +kernel
theorem dX10_lose_26 : decode cX10_lose 26 = .ok (.ireturn, 1) := by decide +kernel
theorem dX10_lose_27 : decode cX10_lose 27 = .ok (.aload_n 0, 1) := by decide +kernel
theorem dX10_lose_28 : decode cX10_lose 28 = .ok (.getfield 61, 3) := by decide +kernel
theorem dX10_lose_31 : decode cX10_lose 31 = .ok (.iload_n 1, 1) := by decide +kernel
theorem dX10_lose_32 : decode cX10_lose 32 = .ok (.aaload, 1) := by decide +kernel
theorem dX10_lose_33 : decode cX10_lose 33 = .ok (.getfield 339, 3) := by decide +kernel
theorem dX10_lose_36 : decode cX10_lose 36 = .ok (.iload_n 3, 1) := by decide +kernel
theorem dX10_lose_37 : decode cX10_lose 37 = .ok (.iconst 1, 1) := by decide +kernel
theorem dX10_lose_38 : decode cX10_lose 38 = .ok (.bastore, 1) := by decide +kernel
theorem dX10_lose_39 : decode cX10_lose 39 = .ok (.iconst 1, 1) := by decide +kernel
theorem dX10_lose_40 : decode cX10_lose 40 = .ok (.ireturn, 1) := by decide +kernel
set_option maxRecDepth 20000 in
theorem ggX10_tone_X10_within : GoodIn wsX10_tone wsX10_within := goodIn_r _ [6] (by decide +kernel) (by decide +kernel)
set_option maxRecDepth 20000 in
theorem gX10_tone_X10_within : GoodIn wsX10_tone (va_wsS RX10 101 yX10_within wsX10_within) := goodIn_app (goodIn_of _ (by decide +kernel)) ggX10_tone_X10_within
set_option maxRecDepth 20000 in
theorem ggX10_tone_X10_toneRefused : GoodIn wsX10_tone wsX10_toneRefused := goodIn_r _ [10, 2, 11, 12, 5, 13, 14, 15, 16, 17, 18, 19, 20, 21, 22, 23, 24, 25, 26, 27, 28, 29, 30, 31, 44, 45, 46, 47, 48, 49, 50, 51, 52, 53, 54, 55, 56, 57, 58, 59, 60, 61, 62, 63, 64, 65, 66, 67, 68] (by decide +kernel) (by decide +kernel)
set_option maxRecDepth 20000 in
theorem gX10_tone_X10_toneRefused : GoodIn wsX10_tone (wsV RX10 342 RX10 yX10_toneRefused wsX10_toneRefused) := goodIn_app (goodIn_of _ (by decide +kernel)) ggX10_tone_X10_toneRefused
set_option maxRecDepth 20000 in
theorem ggX10_tone_X9_hear : GoodIn wsX10_tone wsX9_hear := goodIn_r _ [36, 37, 38, 39, 40, 22, 23, 17, 24, 25, 41, 42, 35, 43, 69, 70, 71, 63, 64, 65, 66, 67, 68] (by decide +kernel) (by decide +kernel)
set_option maxRecDepth 20000 in
theorem gX10_tone_X9_hear : GoodIn wsX10_tone (wsV RX10 345 RX9 yX9_hear wsX9_hear) := goodIn_app (goodIn_of _ (by decide +kernel)) ggX10_tone_X9_hear
theorem dX10_tone_0 : decode cX10_tone 0 = .ok (.aload_n 0, 1) := by decide +kernel
theorem dX10_tone_1 : decode cX10_tone 1 = .ok (.iload_n 2, 1) := by decide +kernel
theorem dX10_tone_2 : decode cX10_tone 2 = .ok (.iconst 4, 1) := by decide +kernel
theorem dX10_tone_3 : decode cX10_tone 3 = .ok (.bipush 48, 2) := by decide +kernel
theorem dX10_tone_5 : decode cX10_tone 5 = .ok (.invokestatic 101, 3) := by decide +kernel
theorem dX10_tone_8 : decode cX10_tone 8 = .ok (.ifCond .eq 13, 3) := by decide +kernel
theorem dX10_tone_11 : decode cX10_tone 11 = .ok (.iload_n 2, 1) := by decide +kernel
theorem dX10_tone_12 : decode cX10_tone 12 = .ok (.iconst 4, 1) := by decide +kernel
theorem dX10_tone_13 : decode cX10_tone 13 = .ok (.irem, 1) := by decide +kernel
theorem dX10_tone_14 : decode cX10_tone 14 = .ok (.ifCond .ne 7, 3) := by decide +kernel
theorem dX10_tone_17 : decode cX10_tone 17 = .ok (.iconst 1, 1) := by decide +kernel
theorem dX10_tone_18 : decode cX10_tone 18 = .ok (.goto 4, 3) := by decide +kernel
theorem dX10_tone_21 : decode cX10_tone 21 = .ok (.iconst 0, 1) := by decide +kernel
theorem dX10_tone_22 : decode cX10_tone 22 = .ok (.iload_n 1, 1) := by decide +kernel
theorem dX10_tone_23 : decode cX10_tone 23 = .ok (.invokevirtual 342, 3) := by decide +kernel
theorem dX10_tone_26 : decode cX10_tone 26 = .ok (.istore_n 3, 1) := by decide +kernel
theorem dX10_tone_27 : decode cX10_tone 27 = .ok (.iload_n 3, 1) := by decide +kernel
theorem dX10_tone_28 : decode cX10_tone 28 = .ok (.ifCond .eq 5, 3) := by decide +kernel
theorem dX10_tone_31 : decode cX10_tone 31 = .ok (.iload_n 3, 1) := by decide +kernel
theorem dX10_tone_32 : decode cX10_tone 32 = .ok (.ireturn, 1) := by decide +kernel
theorem dX10_tone_33 : decode cX10_tone 33 = .ok (.aload_n 0, 1) := by decide +kernel
theorem dX10_tone_34 : decode cX10_tone 34 = .ok (.getfield 68, 3) := by decide +kernel
theorem dX10_tone_37 : decode cX10_tone 37 = .ok (.aload_n 0, 1) := by decide +kernel
theorem dX10_tone_38 : decode cX10_tone 38 = .ok (.getfield 61, 3) := by decide +kernel
theorem dX10_tone_41 : decode cX10_tone 41 = .ok (.iload_n 1, 1) := by decide +kernel
theorem dX10_tone_42 : decode cX10_tone 42 = .ok (.aaload, 1) := by decide +kernel
theorem dX10_tone_43 : decode cX10_tone 43 = .ok (.iload_n 2, 1) := by decide +kernel
theorem dX10_tone_44 : decode cX10_tone 44 = .ok (.invokevirtual 345, 3) := by decide +kernel
theorem dX10_tone_47 : decode cX10_tone 47 = .ok (.iconst 1, 1) := by decide +kernel
theorem dX10_tone_48 : decode cX10_tone 48 = .ok (.ireturn, 1) := by decide +kernel
set_option maxRecDepth 20000 in
theorem ggX10_theTone_X10_toneRefused : GoodIn wsX10_theTone wsX10_toneRefused := goodIn_r _ [8, 3, 9, 10, 7, 11, 12, 13, 14, 15, 16, 17, 18, 19, 20, 21, 22, 23, 24, 25, 26, 27, 28, 29, 46, 47, 48, 49, 50, 51, 52, 53, 54, 55, 56, 57, 58, 59, 60, 61, 62, 63, 64, 65, 66, 67, 68, 69, 70] (by decide +kernel) (by decide +kernel)
set_option maxRecDepth 20000 in
theorem gX10_theTone_X10_toneRefused : GoodIn wsX10_theTone (wsV RX10 342 RX10 yX10_toneRefused wsX10_toneRefused) := goodIn_app (goodIn_of _ (by decide +kernel)) ggX10_theTone_X10_toneRefused
set_option maxRecDepth 20000 in
theorem ggX10_theTone_X9_hear : GoodIn wsX10_theTone wsX9_hear := goodIn_r _ [34, 35, 36, 37, 38, 20, 21, 15, 22, 23, 39, 40, 33, 41, 71, 72, 73, 65, 66, 67, 68, 69, 70] (by decide +kernel) (by decide +kernel)
set_option maxRecDepth 20000 in
theorem gX10_theTone_X9_hear : GoodIn wsX10_theTone (wsV RX10 345 RX9 yX9_hear wsX9_hear) := goodIn_app (goodIn_of _ (by decide +kernel)) ggX10_theTone_X9_hear
set_option maxRecDepth 20000 in
theorem ggX10_theTone_X9_power : GoodIn wsX10_theTone wsX9_power := goodIn_r _ [45, 35, 36, 71, 72, 73] (by decide +kernel) (by decide +kernel)
set_option maxRecDepth 20000 in
theorem gX10_theTone_X9_power : GoodIn wsX10_theTone (wsV RX10 351 RX9 yX9_power wsX9_power) := goodIn_app (goodIn_of _ (by decide +kernel)) ggX10_theTone_X9_power
theorem dX10_theTone_0 : decode cX10_theTone 0 = .ok (.aload_n 0, 1) := by decide +kernel
theorem dX10_theTone_1 : decode cX10_theTone 1 = .ok (.iconst 1, 1) := by decide +kernel
theorem dX10_theTone_2 : decode cX10_theTone 2 = .ok (.iload_n 1, 1) := by decide +kernel
theorem dX10_theTone_3 : decode cX10_theTone 3 = .ok (.invokevirtual 342, 3) := by decide +kernel
theorem dX10_theTone_6 : decode cX10_theTone 6 = .ok (.istore_n 2, 1) := by decide +kernel
theorem dX10_theTone_7 : decode cX10_theTone 7 = .ok (.iload_n 2, 1) := by decide +kernel
theorem dX10_theTone_8 : decode cX10_theTone 8 = .ok (.ifCond .eq 5, 3) := by decide +kernel
theorem dX10_theTone_11 : decode cX10_theTone 11 = .ok (.iload_n 2, 1) := by decide +kernel
theorem dX10_theTone_12 : decode cX10_theTone 12 = .ok (.ireturn, 1) := by decide +kernel
theorem dX10_theTone_13 : decode cX10_theTone 13 = .ok (.iconst 4, 1) := by decide +kernel
theorem dX10_theTone_14 : decode cX10_theTone 14 = .ok (.istore_n 3, 1) := by decide +kernel
theorem dX10_theTone_15 : decode cX10_theTone 15 = .ok (.ldc2_w 349, 3) := by decide +kernel
theorem dX10_theTone_18 : decode cX10_theTone 18 = .ok (.lstore 4, 2) := by decide +kernel
theorem dX10_theTone_20 : decode cX10_theTone 20 = .ok (.iconst 4, 1) := by decide +kernel
theorem dX10_theTone_21 : decode cX10_theTone 21 = .ok (.istore 6, 2) := by decide +kernel
theorem dX10_theTone_23 : decode cX10_theTone 23 = .ok (.iload 6, 2) := by decide +kernel
theorem dX10_theTone_25 : decode cX10_theTone 25 = .ok (.bipush 48, 2) := by decide +kernel
theorem dX10_theTone_27 : decode cX10_theTone 27 = .ok (.if_icmp .gt 49, 3) := by decide +kernel
theorem dX10_theTone_30 : decode cX10_theTone 30 = .ok (.aload_n 0, 1) := by decide +kernel
theorem dX10_theTone_31 : decode cX10_theTone 31 = .ok (.getfield 72, 3) := by decide +kernel
theorem dX10_theTone_34 : decode cX10_theTone 34 = .ok (.aload_n 0, 1) := by decide +kernel
theorem dX10_theTone_35 : decode cX10_theTone 35 = .ok (.getfield 61, 3) := by decide +kernel
theorem dX10_theTone_38 : decode cX10_theTone 38 = .ok (.iload_n 1, 1) := by decide +kernel
theorem dX10_theTone_39 : decode cX10_theTone 39 = .ok (.aaload, 1) := by decide +kernel
theorem dX10_theTone_40 : decode cX10_theTone 40 = .ok (.iload 6, 2) := by decide +kernel
theorem dX10_theTone_42 : decode cX10_theTone 42 = .ok (.invokevirtual 345, 3) := by decide +kernel
theorem dX10_theTone_45 : decode cX10_theTone 45 = .ok (.aload_n 0, 1) := by decide +kernel
theorem dX10_theTone_46 : decode cX10_theTone 46 = .ok (.getfield 72, 3) := by decide +kernel
theorem dX10_theTone_49 : decode cX10_theTone 49 = .ok (.invokevirtual 351, 3) := by decide +kernel
theorem dX10_theTone_52 : decode cX10_theTone 52 = .ok (.lload 4, 2) := by decide +kernel
theorem dX10_theTone_54 : decode cX10_theTone 54 = .ok (.lcmp, 1) := by decide +kernel
theorem dX10_theTone_55 : decode cX10_theTone 55 = .ok (.ifCond .le 15, 3) := by decide +kernel
theorem dX10_theTone_58 : decode cX10_theTone 58 = .ok (.aload_n 0, 1) := by decide +kernel
theorem dX10_theTone_59 : decode cX10_theTone 59 = .ok (.getfield 72, 3) := by decide +kernel
theorem dX10_theTone_62 : decode cX10_theTone 62 = .ok (.invokevirtual 351, 3) := by decide +kernel
theorem dX10_theTone_65 : decode cX10_theTone 65 = .ok (.lstore 4, 2) := by decide +kernel
theorem dX10_theTone_67 : decode cX10_theTone 67 = .ok (.iload 6, 2) := by decide +kernel
theorem dX10_theTone_69 : decode cX10_theTone 69 = .ok (.istore_n 3, 1) := by decide +kernel
theorem dX10_theTone_70 : decode cX10_theTone 70 = .ok (.iinc 6 4, 3) := by decide +kernel
theorem dX10_theTone_73 : decode cX10_theTone 73 = .ok (.goto (-50), 3) := by decide +kernel
theorem dX10_theTone_76 : decode cX10_theTone 76 = .ok (.iload_n 3, 1) := by decide +kernel
theorem dX10_theTone_77 : decode cX10_theTone 77 = .ok (.ireturn, 1) := by decide +kernel
theorem dX10_part_0 : decode cX10_part 0 = .ok (.aload_n 0, 1) := by decide +kernel
theorem dX10_part_1 : decode cX10_part 1 = .ok (.getfield 68, 3) := by decide +kernel
theorem dX10_part_4 : decode cX10_part 4 = .ok (.getfield 355, 3) := by decide +kernel
theorem dX10_part_7 : decode cX10_part 7 = .ok (.ifCond .ne 6, 3) := by decide +kernel
theorem dX10_part_10 : decode cX10_part 10 = .ok (.bipush (-4), 2) := by decide +kernel
theorem dX10_part_12 : decode cX10_part 12 = .ok (.ireturn, 1) := by decide +kernel
theorem dX10_part_13 : decode cX10_part 13 = .ok (.aload_n 0, 1) := by decide +kernel
theorem dX10_part_14 : decode cX10_part 14 = .ok (.iload_n 1, 1) := by decide +kernel
theorem dX10_part_15 : decode cX10_part 15 = .ok (.ifCond .eq 13, 3) := by decide +kernel
theorem dX10_part_18 : decode cX10_part 18 = .ok (.aload_n 0, 1) := by decide +kernel
theorem dX10_part_19 : decode cX10_part 19 = .ok (.getfield 68, 3) := by decide +kernel
theorem dX10_part_22 : decode cX10_part 22 = .ok (.getfield 358, 3) := by decide +kernel
theorem dX10_part_25 : decode cX10_part 25 = .ok (.goto 10, 3) := by decide +kernel
theorem dX10_part_28 : decode cX10_part 28 = .ok (.aload_n 0, 1) := by decide +kernel
theorem dX10_part_29 : decode cX10_part 29 = .ok (.getfield 68, 3) := by decide +kernel
theorem dX10_part_32 : decode cX10_part 32 = .ok (.getfield 361, 3) := by decide +kernel
theorem dX10_part_35 : decode cX10_part 35 = .ok (.l2i, 1) := by decide +kernel
theorem dX10_part_36 : decode cX10_part 36 = .ok (.putfield 116, 3) := by decide +kernel
theorem dX10_part_39 : decode cX10_part 39 = .ok (.iconst 1, 1) := by decide +kernel
theorem dX10_part_40 : decode cX10_part 40 = .ok (.ireturn, 1) := by decide +kernel
set_option maxRecDepth 20000 in
theorem ggX10_nest_X10_isBoard : GoodIn wsX10_nest wsX10_isBoard := goodIn_r _ [5] (by decide +kernel) (by decide +kernel)
set_option maxRecDepth 20000 in
theorem gX10_nest_X10_isBoard : GoodIn wsX10_nest (va_wsS RX10 157 yX10_isBoard wsX10_isBoard) := goodIn_app (goodIn_of _ (by decide +kernel)) ggX10_nest_X10_isBoard
set_option maxRecDepth 20000 in
theorem ggX10_nest_X10_within : GoodIn wsX10_nest wsX10_within := goodIn_r _ [8] (by decide +kernel) (by decide +kernel)
set_option maxRecDepth 20000 in
theorem gX10_nest_X10_within : GoodIn wsX10_nest (va_wsS RX10 101 yX10_within wsX10_within) := goodIn_app (goodIn_of _ (by decide +kernel)) ggX10_nest_X10_within
set_option maxRecDepth 20000 in
theorem ggX10_nest_X10_boardRefused : GoodIn wsX10_nest wsX10_boardRefused := goodIn_r _ [12, 1, 2, 3, 4, 5, 13, 14, 15, 16, 17, 18, 86, 87, 88, 89, 90, 91, 92, 93, 94, 95, 96, 97, 98, 99, 100, 101, 102, 103, 104, 105, 106, 107, 108, 109, 110, 111, 112, 113, 114, 115, 116, 117, 118, 119, 120, 121, 122, 123] (by decide +kernel) (by decide +kernel)
set_option maxRecDepth 20000 in
theorem gX10_nest_X10_boardRefused : GoodIn wsX10_nest (wsV RX10 170 RX10 yX10_boardRefused wsX10_boardRefused) := goodIn_app (goodIn_of _ (by decide +kernel)) ggX10_nest_X10_boardRefused
set_option maxRecDepth 20000 in
theorem ggX10_nest_X10_liesIn : GoodIn wsX10_nest wsX10_liesIn := goodIn_r _ [22, 1, 2, 3, 4, 5, 86, 87, 88, 89, 90, 91, 92, 93, 94, 95, 96, 97, 98, 99, 100, 101, 102, 103, 104, 105, 106, 107, 108, 109, 110, 111, 112, 113, 114, 115, 116, 117, 118, 119, 120, 121, 122, 123, 124, 125, 126, 127, 128] (by decide +kernel) (by decide +kernel)
set_option maxRecDepth 20000 in
theorem gX10_nest_X10_liesIn : GoodIn wsX10_nest (wsV RX10 269 RX10 yX10_liesIn wsX10_liesIn) := goodIn_app (goodIn_of _ (by decide +kernel)) ggX10_nest_X10_liesIn
set_option maxRecDepth 20000 in
theorem ggX10_nest_X10_clear : GoodIn wsX10_nest wsX10_clear := goodIn_r _ [26, 1, 27, 28, 29, 4, 30, 31, 32, 33, 34, 35, 36, 2, 3, 5, 86, 87, 88, 89, 90, 91, 92, 93, 94, 95, 96, 97, 98, 99, 100, 101, 102, 103, 104, 105, 106, 107, 108, 109, 110, 111, 112, 113, 114, 115, 116, 117, 118, 119, 120, 121, 122, 123, 129, 130, 131, 132, 133, 134, 135, 136, 137, 124, 125, 126, 127, 128] (by decide +kernel) (by decide +kernel)
set_option maxRecDepth 20000 in
theorem gX10_nest_X10_clear : GoodIn wsX10_nest (wsV RX10 160 RX10 yX10_clear wsX10_clear) := goodIn_app (goodIn_of _ (by decide +kernel)) ggX10_nest_X10_clear
set_option maxRecDepth 20000 in
theorem ggX10_nest_X0_reset : GoodIn wsX10_nest wsX0_reset := goodIn_r _ [41, 42, 43, 44, 45, 46, 47, 48, 49, 50, 51, 52, 53, 54, 55, 56, 57, 58, 59, 60, 61, 62, 63, 64, 65, 66, 67, 68, 105, 106, 107, 108, 109, 110, 111, 112, 113, 114, 115, 116, 117, 118, 119, 120, 121, 122, 123, 138, 139, 140, 124, 125, 126, 127, 128, 141, 142, 143, 144] (by decide +kernel) (by decide +kernel)
set_option maxRecDepth 20000 in
theorem gX10_nest_X0_reset : GoodIn wsX10_nest (wsV RX10 163 RX0 yX0_reset wsX0_reset) := goodIn_app (goodIn_of _ (by decide +kernel)) ggX10_nest_X0_reset
set_option maxRecDepth 20000 in
theorem ggX10_nest_X0_layOn : GoodIn wsX10_nest wsX0_layOn := goodIn_r _ [72, 55, 56, 54, 73, 74, 75, 40, 76, 44, 45, 77, 78, 79, 80, 81, 82, 83, 84, 105, 106, 107, 108, 109, 110, 111, 112, 113, 114, 115, 116, 117, 118, 119, 120, 121, 122, 123, 124, 125, 126, 127, 128] (by decide +kernel) (by decide +kernel)
set_option maxRecDepth 20000 in
theorem gX10_nest_X0_layOn : GoodIn wsX10_nest (wsV RX10 376 RX0 yX0_layOn wsX0_layOn) := goodIn_app (goodIn_of _ (by decide +kernel)) ggX10_nest_X0_layOn
set_option maxRecDepth 20000 in
theorem ggX10_nest_X0_cells : GoodIn wsX10_nest wsX0_cells := goodIn_r _ [76, 44, 45, 105, 106, 107, 108, 109, 110, 111, 112, 113, 114, 115, 116, 117, 118, 119, 120, 121, 122, 123] (by decide +kernel) (by decide +kernel)
set_option maxRecDepth 20000 in
theorem gX10_nest_X0_cells : GoodIn wsX10_nest (wsV RX10 166 RX0 yX0_cells wsX0_cells) := goodIn_app (goodIn_of _ (by decide +kernel)) ggX10_nest_X0_cells
theorem dX10_nest_0 : decode cX10_nest 0 = .ok (.iload_n 1, 1) := by decide +kernel
theorem dX10_nest_1 : decode cX10_nest 1 = .ok (.invokestatic 157, 3) := by decide +kernel
theorem dX10_nest_4 : decode cX10_nest 4 = .ok (.ifCond .eq 21, 3) := by decide +kernel
theorem dX10_nest_7 : decode cX10_nest 7 = .ok (.iload_n 1, 1) := by decide +kernel
theorem dX10_nest_8 : decode cX10_nest 8 = .ok (.iload_n 2, 1) := by decide +kernel
theorem dX10_nest_9 : decode cX10_nest 9 = .ok (.if_icmp .eq 16, 3) := by decide +kernel
theorem dX10_nest_12 : decode cX10_nest 12 = .ok (.iload_n 3, 1) := by decide +kernel
theorem dX10_nest_13 : decode cX10_nest 13 = .ok (.ifCond .lt 12, 3) := by decide +kernel
theorem dX10_nest_16 : decode cX10_nest 16 = .ok (.iload 4, 2) := by decide +kernel
theorem dX10_nest_18 : decode cX10_nest 18 = .ok (.ifCond .lt 7, 3) := by decide +kernel
theorem dX10_nest_21 : decode cX10_nest 21 = .ok (.iconst 1, 1) := by decide +kernel
theorem dX10_nest_22 : decode cX10_nest 22 = .ok (.goto 4, 3) := by decide +kernel
theorem dX10_nest_25 : decode cX10_nest 25 = .ok (.iconst 0, 1) := by decide +kernel
theorem dX10_nest_26 : decode cX10_nest 26 = .ok (.istore 7, 2) := by decide +kernel
theorem dX10_nest_28 : decode cX10_nest 28 = .ok (.aload_n 0, 1) := by decide +kernel
theorem dX10_nest_29 : decode cX10_nest 29 = .ok (.iload 7, 2) := by decide +kernel
theorem dX10_nest_31 : decode cX10_nest 31 = .ok (.ifCond .eq 27, 3) := by decide +kernel
theorem dX10_nest_34 : decode cX10_nest 34 = .ok (.iload 5, 2) := by decide +kernel
theorem dX10_nest_36 : decode cX10_nest 36 = .ok (.iconst 1, 1) := by decide +kernel
theorem dX10_nest_37 : decode cX10_nest 37 = .ok (.iconst 4, 1) := by decide +kernel
theorem dX10_nest_38 : decode cX10_nest 38 = .ok (.invokestatic 101, 3) := by decide +kernel
theorem dX10_nest_41 : decode cX10_nest 41 = .ok (.ifCond .eq 17, 3) := by decide +kernel
theorem dX10_nest_44 : decode cX10_nest 44 = .ok (.iload 6, 2) := by decide +kernel
theorem dX10_nest_46 : decode cX10_nest 46 = .ok (.iconst 1, 1) := by decide +kernel
theorem dX10_nest_47 : decode cX10_nest 47 = .ok (.iconst 3, 1) := by decide +kernel
theorem dX10_nest_48 : decode cX10_nest 48 = .ok (.invokestatic 101, 3) := by decide +kernel
theorem dX10_nest_51 : decode cX10_nest 51 = .ok (.ifCond .eq 7, 3) := by decide +kernel
theorem dX10_nest_54 : decode cX10_nest 54 = .ok (.iconst 1, 1) := by decide +kernel
theorem dX10_nest_55 : decode cX10_nest 55 = .ok (.goto 4, 3) := by decide +kernel
theorem dX10_nest_58 : decode cX10_nest 58 = .ok (.iconst 0, 1) := by decide +kernel
theorem dX10_nest_59 : decode cX10_nest 59 = .ok (.iload_n 2, 1) := by decide +kernel
theorem dX10_nest_60 : decode cX10_nest 60 = .ok (.invokevirtual 170, 3) := by decide +kernel
theorem dX10_nest_63 : decode cX10_nest 63 = .ok (.istore 8, 2) := by decide +kernel
theorem dX10_nest_65 : decode cX10_nest 65 = .ok (.iload 8, 2) := by decide +kernel
theorem dX10_nest_67 : decode cX10_nest 67 = .ok (.ifCond .eq 6, 3) := by decide +kernel
theorem dX10_nest_70 : decode cX10_nest 70 = .ok (.iload 8, 2) := by decide +kernel
theorem dX10_nest_72 : decode cX10_nest 72 = .ok (.ireturn, 1) := by decide +kernel
theorem dX10_nest_73 : decode cX10_nest 73 = .ok (.iload_n 3, 1) := by decide +kernel
theorem dX10_nest_74 : decode cX10_nest 74 = .ok (.aload_n 0, 1) := by decide +kernel
theorem dX10_nest_75 : decode cX10_nest 75 = .ok (.getfield 30, 3) := by decide +kernel
theorem dX10_nest_78 : decode cX10_nest 78 = .ok (.iload_n 2, 1) := by decide +kernel
theorem dX10_nest_79 : decode cX10_nest 79 = .ok (.aaload, 1) := by decide +kernel
theorem dX10_nest_80 : decode cX10_nest 80 = .ok (.getfield 364, 3) := by decide +kernel
theorem dX10_nest_83 : decode cX10_nest 83 = .ok (.iload 5, 2) := by decide +kernel
theorem dX10_nest_85 : decode cX10_nest 85 = .ok (.isub, 1) := by decide +kernel
theorem dX10_nest_86 : decode cX10_nest 86 = .ok (.if_icmp .gt 20, 3) := by decide +kernel
theorem dX10_nest_89 : decode cX10_nest 89 = .ok (.iload 4, 2) := by decide +kernel
theorem dX10_nest_91 : decode cX10_nest 91 = .ok (.aload_n 0, 1) := by decide +kernel
theorem dX10_nest_92 : decode cX10_nest 92 = .ok (.getfield 30, 3) := by decide +kernel
theorem dX10_nest_95 : decode cX10_nest 95 = .ok (.iload_n 2, 1) := by decide +kernel
theorem dX10_nest_96 : decode cX10_nest 96 = .ok (.aaload, 1) := by decide +kernel
theorem dX10_nest_97 : decode cX10_nest 97 = .ok (.getfield 367, 3) := by decide +kernel
theorem dX10_nest_100 : decode cX10_nest 100 = .ok (.iload 6, 2) := by decide +kernel
theorem dX10_nest_102 : decode cX10_nest 102 = .ok (.isub, 1) := by decide +kernel
theorem dX10_nest_103 : decode cX10_nest 103 = .ok (.if_icmp .le 5, 3) := by decide +kernel
theorem dX10_nest_106 : decode cX10_nest 106 = .ok (.iconst (-1), 1) := by decide +kernel
theorem dX10_nest_107 : decode cX10_nest 107 = .ok (.ireturn, 1) := by decide +kernel
theorem dX10_nest_108 : decode cX10_nest 108 = .ok (.aload_n 0, 1) := by decide +kernel
theorem dX10_nest_109 : decode cX10_nest 109 = .ok (.iload_n 2, 1) := by decide +kernel
theorem dX10_nest_110 : decode cX10_nest 110 = .ok (.iload_n 1, 1) := by decide +kernel
theorem dX10_nest_111 : decode cX10_nest 111 = .ok (.invokevirtual 269, 3) := by decide +kernel
theorem dX10_nest_114 : decode cX10_nest 114 = .ok (.ifCond .eq 6, 3) := by decide +kernel
theorem dX10_nest_117 : decode cX10_nest 117 = .ok (.bipush (-4), 2) := by decide +kernel
theorem dX10_nest_119 : decode cX10_nest 119 = .ok (.ireturn, 1) := by decide +kernel
theorem dX10_nest_120 : decode cX10_nest 120 = .ok (.aload_n 0, 1) := by decide +kernel
theorem dX10_nest_121 : decode cX10_nest 121 = .ok (.iload_n 1, 1) := by decide +kernel
theorem dX10_nest_122 : decode cX10_nest 122 = .ok (.invokevirtual 160, 3) := by decide +kernel
theorem dX10_nest_125 : decode cX10_nest 125 = .ok (.aload_n 0, 1) := by decide +kernel
theorem dX10_nest_126 : decode cX10_nest 126 = .ok (.getfield 30, 3) := by decide +kernel
theorem dX10_nest_129 : decode cX10_nest 129 = .ok (.iload_n 1, 1) := by decide +kernel
theorem dX10_nest_130 : decode cX10_nest 130 = .ok (.aaload, 1) := by decide +kernel
theorem dX10_nest_131 : decode cX10_nest 131 = .ok (.iconst 2, 1) := by decide +kernel
theorem dX10_nest_132 : decode cX10_nest 132 = .ok (.iconst 2, 1) := by decide +kernel
theorem dX10_nest_133 : decode cX10_nest 133 = .ok (.iload 5, 2) := by decide +kernel
theorem dX10_nest_135 : decode cX10_nest 135 = .ok (.imul, 1) := by decide +kernel
theorem dX10_nest_136 : decode cX10_nest 136 = .ok (.iconst 2, 1) := by decide +kernel
theorem dX10_nest_137 : decode cX10_nest 137 = .ok (.iload 6, 2) := by decide +kernel
theorem dX10_nest_139 : decode cX10_nest 139 = .ok (.imul, 1) := by decide +kernel
theorem dX10_nest_140 : decode cX10_nest 140 = .ok (.invokevirtual 163, 3) := by decide +kernel
theorem dX10_nest_143 : decode cX10_nest 143 = .ok (.aload_n 0, 1) := by decide +kernel
theorem dX10_nest_144 : decode cX10_nest 144 = .ok (.getfield 30, 3) := by decide +kernel
theorem dX10_nest_147 : decode cX10_nest 147 = .ok (.iload_n 1, 1) := by decide +kernel
theorem dX10_nest_148 : decode cX10_nest 148 = .ok (.aaload, 1) := by decide +kernel
theorem dX10_nest_149 : decode cX10_nest 149 = .ok (.getfield 309, 3) := by decide +kernel
theorem dX10_nest_152 : decode cX10_nest 152 = .ok (.iload_n 2, 1) := by decide +kernel
theorem dX10_nest_153 : decode cX10_nest 153 = .ok (.putfield 313, 3) := by decide +kernel
theorem dX10_nest_156 : decode cX10_nest 156 = .ok (.aload_n 0, 1) := by decide +kernel
theorem dX10_nest_157 : decode cX10_nest 157 = .ok (.getfield 30, 3) := by decide +kernel
theorem dX10_nest_160 : decode cX10_nest 160 = .ok (.iload_n 1, 1) := by decide +kernel
theorem dX10_nest_161 : decode cX10_nest 161 = .ok (.aaload, 1) := by decide +kernel
theorem dX10_nest_162 : decode cX10_nest 162 = .ok (.getfield 309, 3) := by decide +kernel
theorem dX10_nest_165 : decode cX10_nest 165 = .ok (.iload_n 3, 1) := by decide +kernel
theorem dX10_nest_166 : decode cX10_nest 166 = .ok (.putfield 370, 3) := by decide +kernel
theorem dX10_nest_169 : decode cX10_nest 169 = .ok (.aload_n 0, 1) := by decide +kernel
theorem dX10_nest_170 : decode cX10_nest 170 = .ok (.getfield 30, 3) := by decide +kernel
theorem dX10_nest_173 : decode cX10_nest 173 = .ok (.iload_n 1, 1) := by decide +kernel
theorem dX10_nest_174 : decode cX10_nest 174 = .ok (.aaload, 1) := by decide +kernel
theorem dX10_nest_175 : decode cX10_nest 175 = .ok (.getfield 309, 3) := by decide +kernel
theorem dX10_nest_178 : decode cX10_nest 178 = .ok (.iload 4, 2) := by decide +kernel
theorem dX10_nest_180 : decode cX10_nest 180 = .ok (.putfield 373, 3) := by decide +kernel
theorem dX10_nest_183 : decode cX10_nest 183 = .ok (.aload_n 0, 1) := by decide +kernel
theorem dX10_nest_184 : decode cX10_nest 184 = .ok (.getfield 30, 3) := by decide +kernel
theorem dX10_nest_187 : decode cX10_nest 187 = .ok (.iload_n 1, 1) := by decide +kernel
theorem dX10_nest_188 : decode cX10_nest 188 = .ok (.aaload, 1) := by decide +kernel
theorem dX10_nest_189 : decode cX10_nest 189 = .ok (.aload_n 0, 1) := by decide +kernel
theorem dX10_nest_190 : decode cX10_nest 190 = .ok (.getfield 30, 3) := by decide +kernel
theorem dX10_nest_193 : decode cX10_nest 193 = .ok (.iload_n 2, 1) := by decide +kernel
theorem dX10_nest_194 : decode cX10_nest 194 = .ok (.aaload, 1) := by decide +kernel
theorem dX10_nest_195 : decode cX10_nest 195 = .ok (.invokevirtual 376, 3) := by decide +kernel
theorem dX10_nest_198 : decode cX10_nest 198 = .ok (.aload_n 0, 1) := by decide +kernel
theorem dX10_nest_199 : decode cX10_nest 199 = .ok (.getfield 30, 3) := by decide +kernel
theorem dX10_nest_202 : decode cX10_nest 202 = .ok (.iload_n 1, 1) := by decide +kernel
theorem dX10_nest_203 : decode cX10_nest 203 = .ok (.aaload, 1) := by decide +kernel
theorem dX10_nest_204 : decode cX10_nest 204 = .ok (.invokevirtual 166, 3) := by decide +kernel
theorem dX10_nest_207 : decode cX10_nest 207 = .ok (.ireturn, 1) := by decide +kernel
set_option maxRecDepth 20000 in
theorem ggX10_up_X10_nestRefused : GoodIn wsX10_up wsX10_nestRefused := goodIn_r _ [7, 1, 8, 9, 10, 6, 11, 12, 13, 14, 15, 16, 17, 18, 19, 20, 54, 55, 56, 57, 58, 59, 60, 61, 62, 63, 64, 65, 66, 67, 68, 69, 70, 71, 72, 73, 74, 75, 76, 77, 78, 79, 80, 81, 82, 83, 84, 85, 86, 87, 88, 89, 90, 91, 92, 93, 94, 95, 96] (by decide +kernel) (by decide +kernel)
set_option maxRecDepth 20000 in
theorem gX10_up_X10_nestRefused : GoodIn wsX10_up (wsV RX10 379 RX10 yX10_nestRefused wsX10_nestRefused) := goodIn_app (goodIn_of _ (by decide +kernel)) ggX10_up_X10_nestRefused
set_option maxRecDepth 20000 in
theorem ggX10_up_X0_giveUp : GoodIn wsX10_up wsX0_giveUp := goodIn_r _ [25, 26, 27, 28, 29, 30, 31, 32, 33, 34, 35, 36, 37, 38, 24, 39, 40, 41, 42, 43, 44, 45, 46, 47, 48, 49, 50, 51, 52, 53, 73, 74, 75, 76, 77, 78, 79, 80, 81, 82, 83, 84, 85, 86, 87, 88, 89, 90, 91, 92, 93, 94, 95, 96] (by decide +kernel) (by decide +kernel)
set_option maxRecDepth 20000 in
theorem gX10_up_X0_giveUp : GoodIn wsX10_up (wsV RX10 382 RX0 yX0_giveUp wsX0_giveUp) := goodIn_app (goodIn_of _ (by decide +kernel)) ggX10_up_X0_giveUp
theorem dX10_up_0 : decode cX10_up 0 = .ok (.aload_n 0, 1) := by decide +kernel
theorem dX10_up_1 : decode cX10_up 1 = .ok (.iload_n 1, 1) := by decide +kernel
theorem dX10_up_2 : decode cX10_up 2 = .ok (.invokevirtual 379, 3) := by decide +kernel
theorem dX10_up_5 : decode cX10_up 5 = .ok (.istore_n 2, 1) := by decide +kernel
theorem dX10_up_6 : decode cX10_up 6 = .ok (.iload_n 2, 1) := by decide +kernel
theorem dX10_up_7 : decode cX10_up 7 = .ok (.ifCond .eq 5, 3) := by decide +kernel
theorem dX10_up_10 : decode cX10_up 10 = .ok (.iload_n 2, 1) := by decide +kernel
theorem dX10_up_11 : decode cX10_up 11 = .ok (.ireturn, 1) := by decide +kernel
theorem dX10_up_12 : decode cX10_up 12 = .ok (.aload_n 0, 1) := by decide +kernel
theorem dX10_up_13 : decode cX10_up 13 = .ok (.aload_n 0, 1) := by decide +kernel
theorem dX10_up_14 : decode cX10_up 14 = .ok (.getfield 30, 3) := by decide +kernel
theorem dX10_up_17 : decode cX10_up 17 = .ok (.iload_n 1, 1) := by decide +kernel
theorem dX10_up_18 : decode cX10_up 18 = .ok (.aaload, 1) := by decide +kernel
theorem dX10_up_19 : decode cX10_up 19 = .ok (.aload_n 0, 1) := by decide +kernel
theorem dX10_up_20 : decode cX10_up 20 = .ok (.getfield 30, 3) := by decide +kernel
theorem dX10_up_23 : decode cX10_up 23 = .ok (.aload_n 0, 1) := by decide +kernel
theorem dX10_up_24 : decode cX10_up 24 = .ok (.getfield 30, 3) := by decide +kernel
theorem dX10_up_27 : decode cX10_up 27 = .ok (.iload_n 1, 1) := by decide +kernel
theorem dX10_up_28 : decode cX10_up 28 = .ok (.aaload, 1) := by decide +kernel
theorem dX10_up_29 : decode cX10_up 29 = .ok (.getfield 309, 3) := by decide +kernel
theorem dX10_up_32 : decode cX10_up 32 = .ok (.getfield 313, 3) := by decide +kernel
theorem dX10_up_35 : decode cX10_up 35 = .ok (.aaload, 1) := by decide +kernel
theorem dX10_up_36 : decode cX10_up 36 = .ok (.invokevirtual 382, 3) := by decide +kernel
theorem dX10_up_39 : decode cX10_up 39 = .ok (.putfield 116, 3) := by decide +kernel
theorem dX10_up_42 : decode cX10_up 42 = .ok (.iconst 1, 1) := by decide +kernel
theorem dX10_up_43 : decode cX10_up 43 = .ok (.ireturn, 1) := by decide +kernel
set_option maxRecDepth 20000 in
theorem ggX10_down_X10_nestRefused : GoodIn wsX10_down wsX10_nestRefused := goodIn_r _ [7, 1, 8, 9, 10, 6, 11, 12, 13, 14, 15, 16, 17, 18, 19, 20, 58, 59, 60, 61, 62, 63, 64, 65, 66, 67, 68, 69, 70, 71, 72, 73, 74, 75, 76, 77, 78, 79, 80, 81, 82, 83, 84, 85, 86, 87, 88, 89, 90, 91, 92, 93, 94, 95, 96, 97, 98, 99, 100] (by decide +kernel) (by decide +kernel)
set_option maxRecDepth 20000 in
theorem gX10_down_X10_nestRefused : GoodIn wsX10_down (wsV RX10 379 RX10 yX10_nestRefused wsX10_nestRefused) := goodIn_app (goodIn_of _ (by decide +kernel)) ggX10_down_X10_nestRefused
set_option maxRecDepth 20000 in
theorem ggX10_down_X0_takeDown : GoodIn wsX10_down wsX0_takeDown := goodIn_r _ [25, 26, 27, 28, 29, 30, 31, 32, 33, 34, 35, 24, 36, 37, 38, 39, 40, 41, 42, 43, 44, 45, 46, 47, 48, 49, 50, 51, 52, 53, 54, 55, 56, 57, 77, 78, 79, 80, 81, 82, 83, 84, 85, 86, 87, 88, 89, 90, 91, 92, 93, 94, 95, 96, 97, 98, 99, 100] (by decide +kernel) (by decide +kernel)
set_option maxRecDepth 20000 in
theorem gX10_down_X0_takeDown : GoodIn wsX10_down (wsV RX10 386 RX0 yX0_takeDown wsX0_takeDown) := goodIn_app (goodIn_of _ (by decide +kernel)) ggX10_down_X0_takeDown
theorem dX10_down_0 : decode cX10_down 0 = .ok (.aload_n 0, 1) := by decide +kernel
theorem dX10_down_1 : decode cX10_down 1 = .ok (.iload_n 1, 1) := by decide +kernel
theorem dX10_down_2 : decode cX10_down 2 = .ok (.invokevirtual 379, 3) := by decide +kernel
theorem dX10_down_5 : decode cX10_down 5 = .ok (.istore_n 2, 1) := by decide +kernel
theorem dX10_down_6 : decode cX10_down 6 = .ok (.iload_n 2, 1) := by decide +kernel
theorem dX10_down_7 : decode cX10_down 7 = .ok (.ifCond .eq 5, 3) := by decide +kernel
theorem dX10_down_10 : decode cX10_down 10 = .ok (.iload_n 2, 1) := by decide +kernel
theorem dX10_down_11 : decode cX10_down 11 = .ok (.ireturn, 1) := by decide +kernel
theorem dX10_down_12 : decode cX10_down 12 = .ok (.aload_n 0, 1) := by decide +kernel
theorem dX10_down_13 : decode cX10_down 13 = .ok (.aload_n 0, 1) := by decide +kernel
theorem dX10_down_14 : decode cX10_down 14 = .ok (.getfield 30, 3) := by decide +kernel
theorem dX10_down_17 : decode cX10_down 17 = .ok (.iload_n 1, 1) := by decide +kernel
theorem dX10_down_18 : decode cX10_down 18 = .ok (.aaload, 1) := by decide +kernel
theorem dX10_down_19 : decode cX10_down 19 = .ok (.aload_n 0, 1) := by decide +kernel
theorem dX10_down_20 : decode cX10_down 20 = .ok (.getfield 30, 3) := by decide +kernel
theorem dX10_down_23 : decode cX10_down 23 = .ok (.aload_n 0, 1) := by decide +kernel
theorem dX10_down_24 : decode cX10_down 24 = .ok (.getfield 30, 3) := by decide +kernel
theorem dX10_down_27 : decode cX10_down 27 = .ok (.iload_n 1, 1) := by decide +kernel
theorem dX10_down_28 : decode cX10_down 28 = .ok (.aaload, 1) := by decide +kernel
theorem dX10_down_29 : decode cX10_down 29 = .ok (.getfield 309, 3) := by decide +kernel
theorem dX10_down_32 : decode cX10_down 32 = .ok (.getfield 313, 3) := by decide +kernel
theorem dX10_down_35 : decode cX10_down 35 = .ok (.aaload, 1) := by decide +kernel
theorem dX10_down_36 : decode cX10_down 36 = .ok (.invokevirtual 386, 3) := by decide +kernel
theorem dX10_down_39 : decode cX10_down 39 = .ok (.putfield 116, 3) := by decide +kernel
theorem dX10_down_42 : decode cX10_down 42 = .ok (.iconst 1, 1) := by decide +kernel
theorem dX10_down_43 : decode cX10_down 43 = .ok (.ireturn, 1) := by decide +kernel
set_option maxRecDepth 20000 in
theorem ggX10_toneRefused_X10_isGauge : GoodIn wsX10_toneRefused wsX10_isGauge := goodIn_r _ [5] (by decide +kernel) (by decide +kernel)
set_option maxRecDepth 20000 in
theorem gX10_toneRefused_X10_isGauge : GoodIn wsX10_toneRefused (va_wsS RX10 327 yX10_isGauge wsX10_isGauge) := goodIn_app (goodIn_of _ (by decide +kernel)) ggX10_toneRefused_X10_isGauge
set_option maxRecDepth 20000 in
theorem ggX10_toneRefused_X2_kept : GoodIn wsX10_toneRefused wsX2_kept := goodIn_r _ [10, 11, 12, 13, 14, 15, 9, 16, 17, 43, 44, 45, 46, 47, 48] (by decide +kernel) (by decide +kernel)
set_option maxRecDepth 20000 in
theorem gX10_toneRefused_X2_kept : GoodIn wsX10_toneRefused (wsV RX10 389 RX2 yX2_kept wsX2_kept) := goodIn_app (goodIn_of _ (by decide +kernel)) ggX10_toneRefused_X2_kept
set_option maxRecDepth 20000 in
theorem ggX10_toneRefused_X10_found : GoodIn wsX10_toneRefused wsX10_found := goodIn_r _ [21, 22, 23, 24, 25, 26, 27, 28, 29, 30, 31, 32, 33, 34, 35, 36, 37, 38, 39, 40, 41, 42] (by decide +kernel) (by decide +kernel)
set_option maxRecDepth 20000 in
theorem gX10_toneRefused_X10_found : GoodIn wsX10_toneRefused (wsV RX10 91 RX10 yX10_found wsX10_found) := goodIn_app (goodIn_of _ (by decide +kernel)) ggX10_toneRefused_X10_found
theorem dX10_toneRefused_0 : decode cX10_toneRefused 0 = .ok (.iload_n 1, 1) := by decide +kernel
theorem dX10_toneRefused_1 : decode cX10_toneRefused 1 = .ok (.ifCond .eq 10, 3) := by decide +kernel
theorem dX10_toneRefused_4 : decode cX10_toneRefused 4 = .ok (.iload_n 2, 1) := by decide +kernel
theorem dX10_toneRefused_5 : decode cX10_toneRefused 5 = .ok (.invokestatic 327, 3) := by decide +kernel
theorem dX10_toneRefused_8 : decode cX10_toneRefused 8 = .ok (.ifCond .ne 5, 3) := by decide +kernel
theorem dX10_toneRefused_11 : decode cX10_toneRefused 11 = .ok (.iconst (-1), 1) := by decide +kernel
theorem dX10_toneRefused_12 : decode cX10_toneRefused 12 = .ok (.ireturn, 1) := by decide +kernel
theorem dX10_toneRefused_13 : decode cX10_toneRefused 13 = .ok (.aload_n 0, 1) := by decide +kernel
theorem dX10_toneRefused_14 : decode cX10_toneRefused 14 = .ok (.getfield 61, 3) := by decide +kernel
theorem dX10_toneRefused_17 : decode cX10_toneRefused 17 = .ok (.iload_n 2, 1) := by decide +kernel
theorem dX10_toneRefused_18 : decode cX10_toneRefused 18 = .ok (.aaload, 1) := by decide +kernel
theorem dX10_toneRefused_19 : decode cX10_toneRefused 19 = .ok (.getfield 293, 3) := by decide +kernel
theorem dX10_toneRefused_22 : decode cX10_toneRefused 22 = .ok (.bipush (-9), 2) := by decide +kernel
theorem dX10_toneRefused_24 : decode cX10_toneRefused 24 = .ok (.if_icmp .ne 6, 3) := by decide +kernel
theorem dX10_toneRefused_27 : decode cX10_toneRefused 27 = .ok (.bipush (-4), 2) := by decide +kernel
theorem dX10_toneRefused_29 : decode cX10_toneRefused 29 = .ok (.ireturn, 1) := by decide +kernel
theorem dX10_toneRefused_30 : decode cX10_toneRefused 30 = .ok (.aload_n 0, 1) := by decide +kernel
theorem dX10_toneRefused_31 : decode cX10_toneRefused 31 = .ok (.getfield 61, 3) := by decide +kernel
theorem dX10_toneRefused_34 : decode cX10_toneRefused 34 = .ok (.iload_n 2, 1) := by decide +kernel
theorem dX10_toneRefused_35 : decode cX10_toneRefused 35 = .ok (.aaload, 1) := by decide +kernel
theorem dX10_toneRefused_36 : decode cX10_toneRefused 36 = .ok (.invokevirtual 389, 3) := by decide +kernel
theorem dX10_toneRefused_39 : decode cX10_toneRefused 39 = .ok (.ifCond .ne 11, 3) := by decide +kernel
theorem dX10_toneRefused_42 : decode cX10_toneRefused 42 = .ok (.aload_n 0, 1) := by decide +kernel
theorem dX10_toneRefused_43 : decode cX10_toneRefused 43 = .ok (.iconst 4, 1) := by decide +kernel
theorem dX10_toneRefused_44 : decode cX10_toneRefused 44 = .ok (.invokevirtual 91, 3) := by decide +kernel
theorem dX10_toneRefused_47 : decode cX10_toneRefused 47 = .ok (.goto 4, 3) := by decide +kernel
theorem dX10_toneRefused_50 : decode cX10_toneRefused 50 = .ok (.iconst 0, 1) := by decide +kernel
theorem dX10_toneRefused_51 : decode cX10_toneRefused 51 = .ok (.ireturn, 1) := by decide +kernel
set_option maxRecDepth 20000 in
theorem ggX10_nestRefused_X10_boardRefused : GoodIn wsX10_nestRefused wsX10_boardRefused := goodIn_r _ [6, 1, 7, 8, 5, 9, 10, 11, 12, 13, 14, 15, 16, 17, 18, 19, 20, 21, 22, 23, 24, 25, 26, 27, 28, 29, 30, 31, 32, 33, 34, 35, 36, 37, 38, 39, 40, 41, 42, 43, 44, 45, 46, 47, 48, 49, 50, 51, 52, 53] (by decide +kernel) (by decide +kernel)
set_option maxRecDepth 20000 in
theorem gX10_nestRefused_X10_boardRefused : GoodIn wsX10_nestRefused (wsV RX10 170 RX10 yX10_boardRefused wsX10_boardRefused) := goodIn_app (goodIn_of _ (by decide +kernel)) ggX10_nestRefused_X10_boardRefused
set_option maxRecDepth 20000 in
theorem ggX10_nestRefused_X10_isBoard : GoodIn wsX10_nestRefused wsX10_isBoard := goodIn_r _ [9] (by decide +kernel) (by decide +kernel)
set_option maxRecDepth 20000 in
theorem gX10_nestRefused_X10_isBoard : GoodIn wsX10_nestRefused (va_wsS RX10 157 yX10_isBoard wsX10_isBoard) := goodIn_app (goodIn_of _ (by decide +kernel)) ggX10_nestRefused_X10_isBoard
set_option maxRecDepth 20000 in
theorem ggX10_nestRefused_X10_found : GoodIn wsX10_nestRefused wsX10_found := goodIn_r _ [13, 14, 15, 16, 17, 18, 19, 20, 21, 22, 23, 24, 25, 26, 27, 28, 29, 30, 31, 32, 33, 34] (by decide +kernel) (by decide +kernel)
set_option maxRecDepth 20000 in
theorem gX10_nestRefused_X10_found : GoodIn wsX10_nestRefused (wsV RX10 91 RX10 yX10_found wsX10_found) := goodIn_app (goodIn_of _ (by decide +kernel)) ggX10_nestRefused_X10_found
theorem dX10_nestRefused_0 : decode cX10_nestRefused 0 = .ok (.aload_n 0, 1) := by decide +kernel
theorem dX10_nestRefused_1 : decode cX10_nestRefused 1 = .ok (.iconst 1, 1) := by decide +kernel
theorem dX10_nestRefused_2 : decode cX10_nestRefused 2 = .ok (.iload_n 1, 1) := by decide +kernel
theorem dX10_nestRefused_3 : decode cX10_nestRefused 3 = .ok (.invokevirtual 170, 3) := by decide +kernel
theorem dX10_nestRefused_6 : decode cX10_nestRefused 6 = .ok (.istore_n 2, 1) := by decide +kernel
theorem dX10_nestRefused_7 : decode cX10_nestRefused 7 = .ok (.iload_n 2, 1) := by decide +kernel
theorem dX10_nestRefused_8 : decode cX10_nestRefused 8 = .ok (.ifCond .eq 5, 3) := by decide +kernel
theorem dX10_nestRefused_11 : decode cX10_nestRefused 11 = .ok (.iload_n 2, 1) := by decide +kernel
theorem dX10_nestRefused_12 : decode cX10_nestRefused 12 = .ok (.ireturn, 1) := by decide +kernel
theorem dX10_nestRefused_13 : decode cX10_nestRefused 13 = .ok (.aload_n 0, 1) := by decide +kernel
theorem dX10_nestRefused_14 : decode cX10_nestRefused 14 = .ok (.getfield 30, 3) := by decide +kernel
theorem dX10_nestRefused_17 : decode cX10_nestRefused 17 = .ok (.iload_n 1, 1) := by decide +kernel
theorem dX10_nestRefused_18 : decode cX10_nestRefused 18 = .ok (.aaload, 1) := by decide +kernel
theorem dX10_nestRefused_19 : decode cX10_nestRefused 19 = .ok (.getfield 276, 3) := by decide +kernel
theorem dX10_nestRefused_22 : decode cX10_nestRefused 22 = .ok (.iconst 2, 1) := by decide +kernel
theorem dX10_nestRefused_23 : decode cX10_nestRefused 23 = .ok (.if_icmp .ne 25, 3) := by decide +kernel
theorem dX10_nestRefused_26 : decode cX10_nestRefused 26 = .ok (.aload_n 0, 1) := by decide +kernel
theorem dX10_nestRefused_27 : decode cX10_nestRefused 27 = .ok (.getfield 30, 3) := by decide +kernel
theorem dX10_nestRefused_30 : decode cX10_nestRefused 30 = .ok (.iload_n 1, 1) := by decide +kernel
theorem dX10_nestRefused_31 : decode cX10_nestRefused 31 = .ok (.aaload, 1) := by decide +kernel
theorem dX10_nestRefused_32 : decode cX10_nestRefused 32 = .ok (.getfield 309, 3) := by decide +kernel
theorem dX10_nestRefused_35 : decode cX10_nestRefused 35 = .ok (.getfield 313, 3) := by decide +kernel
theorem dX10_nestRefused_38 : decode cX10_nestRefused 38 = .ok (.invokestatic 157, 3) := by decide +kernel
theorem dX10_nestRefused_41 : decode cX10_nestRefused 41 = .ok (.ifCond .eq 7, 3) := by decide +kernel
theorem dX10_nestRefused_44 : decode cX10_nestRefused 44 = .ok (.iconst 0, 1) := by decide +kernel
theorem dX10_nestRefused_45 : decode cX10_nestRefused 45 = .ok (.goto 8, 3) := by decide +kernel
theorem dX10_nestRefused_48 : decode cX10_nestRefused 48 = .ok (.aload_n 0, 1) := by decide +kernel
theorem dX10_nestRefused_49 : decode cX10_nestRefused 49 = .ok (.iconst 3, 1) := by decide +kernel
theorem dX10_nestRefused_50 : decode cX10_nestRefused 50 = .ok (.invokevirtual 91, 3) := by decide +kernel
theorem dX10_nestRefused_53 : decode cX10_nestRefused 53 = .ok (.ireturn, 1) := by decide +kernel
set_option maxRecDepth 20000 in
theorem ggX10_fit_X7_isNumber : GoodIn wsX10_fit wsX7_isNumber := goodIn_r _ [8, 9, 209, 210] (by decide +kernel) (by decide +kernel)
set_option maxRecDepth 20000 in
theorem gX10_fit_X7_isNumber : GoodIn wsX10_fit (wsV RX10 87 RX7 yX7_isNumber wsX7_isNumber) := goodIn_app (goodIn_of _ (by decide +kernel)) ggX10_fit_X7_isNumber
set_option maxRecDepth 20000 in
theorem ggX10_fit_X10_fitRefused : GoodIn wsX10_fit wsX10_fitRefused := goodIn_r _ [14, 15, 1, 16, 17, 13, 18, 19, 20, 21, 7, 22, 9, 23, 24, 25, 26, 27, 28, 29, 30, 31, 32, 33, 34, 35, 36, 37, 38, 39, 190, 191, 192, 193, 194, 195, 196, 197, 198, 199, 200, 201, 202, 203, 204, 205, 206, 207, 208, 211, 212, 213, 214, 215, 216, 217, 218, 219, 220, 221, 222, 223, 224, 225, 226, 227, 228, 229, 209, 210] (by decide +kernel) (by decide +kernel)
set_option maxRecDepth 20000 in
theorem gX10_fit_X10_fitRefused : GoodIn wsX10_fit (wsV RX10 392 RX10 yX10_fitRefused wsX10_fitRefused) := goodIn_app (goodIn_of _ (by decide +kernel)) ggX10_fit_X10_fitRefused
set_option maxRecDepth 20000 in
theorem ggX10_fit_X10_bestPull : GoodIn wsX10_fit wsX10_bestPull := goodIn_r _ [43, 44, 15, 2, 45, 46, 47, 32, 48, 49, 50, 34, 35, 51, 52, 53, 54, 55, 56, 57, 58, 59, 60, 61, 62, 63, 64, 65, 66, 67, 68, 69, 70, 71, 72, 73, 74, 75, 76, 77, 78, 79, 80, 81, 82, 83, 84, 85, 86, 87, 88, 89, 13, 90, 1, 91, 92, 93, 94, 95, 96, 97, 98, 99, 100, 101, 102, 103, 104, 105, 106, 107, 108, 109, 110, 111, 112, 113, 114, 115, 116, 117, 118, 119, 120, 121, 122, 123, 124, 125, 126, 127, 128, 129, 130, 131, 132, 133, 134, 135, 136, 137, 138, 139, 140, 141, 142, 143, 144, 145, 146, 147, 148, 149, 150, 151, 152, 153, 154, 155, 156, 157, 158, 159, 160, 161, 162, 163, 164, 165, 166, 167, 168, 169, 170, 171, 5, 6, 7, 8, 9, 172, 173, 174, 175, 176, 177, 178, 179, 180, 181, 182, 183, 184, 185, 186, 187, 188, 189, 190, 191, 192, 193, 194, 195, 196, 197, 198, 199, 200, 201, 202, 203, 204, 205, 206, 207, 208, 211, 212, 213, 214, 215, 216, 217, 218, 219, 220, 221, 222, 223, 224, 225, 226, 227, 228, 229, 230, 231, 232, 233, 234, 235, 236, 237, 238, 239, 240, 241, 209, 210, 242, 243, 244, 245] (by decide +kernel) (by decide +kernel)
set_option maxRecDepth 20000 in
theorem gX10_fit_X10_bestPull : GoodIn wsX10_fit (wsV RX10 396 RX10 yX10_bestPull wsX10_bestPull) := goodIn_app (goodIn_of _ (by decide +kernel)) ggX10_fit_X10_bestPull
theorem dX10_fit_0 : decode cX10_fit 0 = .ok (.aload_n 0, 1) := by decide +kernel
theorem dX10_fit_1 : decode cX10_fit 1 = .ok (.aload_n 0, 1) := by decide +kernel
theorem dX10_fit_2 : decode cX10_fit 2 = .ok (.getfield 14, 3) := by decide +kernel
theorem dX10_fit_5 : decode cX10_fit 5 = .ok (.iload_n 3, 1) := by decide +kernel
theorem dX10_fit_6 : decode cX10_fit 6 = .ok (.invokevirtual 87, 3) := by decide +kernel
theorem dX10_fit_9 : decode cX10_fit 9 = .ok (.iload_n 1, 1) := by decide +kernel
theorem dX10_fit_10 : decode cX10_fit 10 = .ok (.iload_n 2, 1) := by decide +kernel
theorem dX10_fit_11 : decode cX10_fit 11 = .ok (.iload_n 3, 1) := by decide +kernel
theorem dX10_fit_12 : decode cX10_fit 12 = .ok (.invokevirtual 392, 3) := by decide +kernel
theorem dX10_fit_15 : decode cX10_fit 15 = .ok (.istore 4, 2) := by decide +kernel
theorem dX10_fit_17 : decode cX10_fit 17 = .ok (.iload 4, 2) := by decide +kernel
theorem dX10_fit_19 : decode cX10_fit 19 = .ok (.ifCond .eq 6, 3) := by decide +kernel
theorem dX10_fit_22 : decode cX10_fit 22 = .ok (.iload 4, 2) := by decide +kernel
theorem dX10_fit_24 : decode cX10_fit 24 = .ok (.ireturn, 1) := by decide +kernel
theorem dX10_fit_25 : decode cX10_fit 25 = .ok (.aload_n 0, 1) := by decide +kernel
theorem dX10_fit_26 : decode cX10_fit 26 = .ok (.iload_n 1, 1) := by decide +kernel
theorem dX10_fit_27 : decode cX10_fit 27 = .ok (.iload_n 2, 1) := by decide +kernel
theorem dX10_fit_28 : decode cX10_fit 28 = .ok (.iload_n 3, 1) := by decide +kernel
theorem dX10_fit_29 : decode cX10_fit 29 = .ok (.invokevirtual 396, 3) := by decide +kernel
theorem dX10_fit_32 : decode cX10_fit 32 = .ok (.istore 5, 2) := by decide +kernel
theorem dX10_fit_34 : decode cX10_fit 34 = .ok (.iload 5, 2) := by decide +kernel
theorem dX10_fit_36 : decode cX10_fit 36 = .ok (.bipush (-9), 2) := by decide +kernel
theorem dX10_fit_38 : decode cX10_fit 38 = .ok (.if_icmp .ne 6, 3) := by decide +kernel
theorem dX10_fit_41 : decode cX10_fit 41 = .ok (.bipush (-9), 2) := by decide +kernel
theorem dX10_fit_43 : decode cX10_fit 43 = .ok (.ireturn, 1) := by decide +kernel
theorem dX10_fit_44 : decode cX10_fit 44 = .ok (.aload_n 0, 1) := by decide +kernel
theorem dX10_fit_45 : decode cX10_fit 45 = .ok (.aload_n 0, 1) := by decide +kernel
theorem dX10_fit_46 : decode cX10_fit 46 = .ok (.getfield 75, 3) := by decide +kernel
theorem dX10_fit_49 : decode cX10_fit 49 = .ok (.iload 5, 2) := by decide +kernel
theorem dX10_fit_51 : decode cX10_fit 51 = .ok (.iaload, 1) := by decide +kernel
theorem dX10_fit_52 : decode cX10_fit 52 = .ok (.putfield 116, 3) := by decide +kernel
theorem dX10_fit_55 : decode cX10_fit 55 = .ok (.iload 5, 2) := by decide +kernel
theorem dX10_fit_57 : decode cX10_fit 57 = .ok (.ireturn, 1) := by decide +kernel
set_option maxRecDepth 20000 in
theorem ggX10_ends_X7_isNumber : GoodIn wsX10_ends wsX7_isNumber := goodIn_r _ [8, 9, 212, 213] (by decide +kernel) (by decide +kernel)
set_option maxRecDepth 20000 in
theorem gX10_ends_X7_isNumber : GoodIn wsX10_ends (wsV RX10 87 RX7 yX7_isNumber wsX7_isNumber) := goodIn_app (goodIn_of _ (by decide +kernel)) ggX10_ends_X7_isNumber
set_option maxRecDepth 20000 in
theorem ggX10_ends_X10_within : GoodIn wsX10_ends wsX10_within := goodIn_r _ [13] (by decide +kernel) (by decide +kernel)
set_option maxRecDepth 20000 in
theorem gX10_ends_X10_within : GoodIn wsX10_ends (va_wsS RX10 101 yX10_within wsX10_within) := goodIn_app (goodIn_of _ (by decide +kernel)) ggX10_ends_X10_within
set_option maxRecDepth 20000 in
theorem ggX10_ends_X10_fitRefused : GoodIn wsX10_ends wsX10_fitRefused := goodIn_r _ [17, 18, 1, 19, 20, 12, 21, 22, 23, 24, 7, 25, 9, 26, 27, 28, 29, 30, 31, 32, 33, 34, 35, 36, 37, 38, 39, 40, 41, 42, 193, 194, 195, 196, 197, 198, 199, 200, 201, 202, 203, 204, 205, 206, 207, 208, 209, 210, 211, 214, 215, 216, 217, 218, 219, 220, 221, 222, 223, 224, 225, 226, 227, 228, 229, 230, 231, 232, 212, 213] (by decide +kernel) (by decide +kernel)
set_option maxRecDepth 20000 in
theorem gX10_ends_X10_fitRefused : GoodIn wsX10_ends (wsV RX10 392 RX10 yX10_fitRefused wsX10_fitRefused) := goodIn_app (goodIn_of _ (by decide +kernel)) ggX10_ends_X10_fitRefused
set_option maxRecDepth 20000 in
theorem ggX10_ends_X10_bestPull : GoodIn wsX10_ends wsX10_bestPull := goodIn_r _ [46, 47, 18, 3, 48, 49, 50, 35, 51, 52, 53, 37, 38, 54, 55, 56, 57, 58, 59, 60, 61, 62, 63, 64, 65, 66, 67, 68, 69, 70, 71, 72, 73, 74, 75, 76, 77, 78, 79, 80, 81, 82, 83, 84, 85, 86, 87, 88, 89, 90, 91, 92, 12, 93, 1, 94, 95, 96, 97, 98, 99, 100, 101, 102, 103, 104, 105, 106, 107, 108, 109, 110, 111, 112, 113, 114, 115, 116, 117, 118, 119, 120, 121, 122, 123, 124, 125, 126, 127, 128, 129, 130, 131, 132, 133, 134, 135, 136, 137, 138, 139, 140, 141, 142, 143, 144, 145, 146, 147, 148, 149, 150, 151, 152, 153, 154, 155, 156, 157, 158, 159, 160, 161, 162, 163, 164, 165, 166, 167, 168, 169, 170, 171, 172, 173, 174, 5, 6, 7, 8, 9, 175, 176, 177, 178, 179, 180, 181, 182, 183, 184, 185, 186, 187, 188, 189, 190, 191, 192, 193, 194, 195, 196, 197, 198, 199, 200, 201, 202, 203, 204, 205, 206, 207, 208, 209, 210, 211, 214, 215, 216, 217, 218, 219, 220, 221, 222, 223, 224, 225, 226, 227, 228, 229, 230, 231, 232, 233, 234, 235, 236, 237, 238, 239, 240, 241, 242, 243, 244, 212, 213, 245, 246, 247, 248] (by decide +kernel) (by decide +kernel)
set_option maxRecDepth 20000 in
theorem gX10_ends_X10_bestPull : GoodIn wsX10_ends (wsV RX10 396 RX10 yX10_bestPull wsX10_bestPull) := goodIn_app (goodIn_of _ (by decide +kernel)) ggX10_ends_X10_bestPull
theorem dX10_ends_0 : decode cX10_ends 0 = .ok (.aload_n 0, 1) := by decide +kernel
theorem dX10_ends_1 : decode cX10_ends 1 = .ok (.aload_n 0, 1) := by decide +kernel
theorem dX10_ends_2 : decode cX10_ends 2 = .ok (.getfield 14, 3) := by decide +kernel
theorem dX10_ends_5 : decode cX10_ends 5 = .ok (.iload_n 3, 1) := by decide +kernel
theorem dX10_ends_6 : decode cX10_ends 6 = .ok (.invokevirtual 87, 3) := by decide +kernel
theorem dX10_ends_9 : decode cX10_ends 9 = .ok (.ifCond .eq 18, 3) := by decide +kernel
theorem dX10_ends_12 : decode cX10_ends 12 = .ok (.iload 4, 2) := by decide +kernel
theorem dX10_ends_14 : decode cX10_ends 14 = .ok (.iconst 0, 1) := by decide +kernel
theorem dX10_ends_15 : decode cX10_ends 15 = .ok (.ldc 100, 2) := by decide +kernel
theorem dX10_ends_17 : decode cX10_ends 17 = .ok (.invokestatic 101, 3) := by decide +kernel
theorem dX10_ends_20 : decode cX10_ends 20 = .ok (.ifCond .eq 7, 3) := by decide +kernel
theorem dX10_ends_23 : decode cX10_ends 23 = .ok (.iconst 1, 1) := by decide +kernel
theorem dX10_ends_24 : decode cX10_ends 24 = .ok (.goto 4, 3) := by decide +kernel
theorem dX10_ends_27 : decode cX10_ends 27 = .ok (.iconst 0, 1) := by decide +kernel
theorem dX10_ends_28 : decode cX10_ends 28 = .ok (.iload_n 1, 1) := by decide +kernel
theorem dX10_ends_29 : decode cX10_ends 29 = .ok (.iload_n 2, 1) := by decide +kernel
theorem dX10_ends_30 : decode cX10_ends 30 = .ok (.iload_n 3, 1) := by decide +kernel
theorem dX10_ends_31 : decode cX10_ends 31 = .ok (.invokevirtual 392, 3) := by decide +kernel
theorem dX10_ends_34 : decode cX10_ends 34 = .ok (.istore 5, 2) := by decide +kernel
theorem dX10_ends_36 : decode cX10_ends 36 = .ok (.iload 5, 2) := by decide +kernel
theorem dX10_ends_38 : decode cX10_ends 38 = .ok (.ifCond .eq 6, 3) := by decide +kernel
theorem dX10_ends_41 : decode cX10_ends 41 = .ok (.iload 5, 2) := by decide +kernel
theorem dX10_ends_43 : decode cX10_ends 43 = .ok (.ireturn, 1) := by decide +kernel
theorem dX10_ends_44 : decode cX10_ends 44 = .ok (.aload_n 0, 1) := by decide +kernel
theorem dX10_ends_45 : decode cX10_ends 45 = .ok (.iload_n 1, 1) := by decide +kernel
theorem dX10_ends_46 : decode cX10_ends 46 = .ok (.iload_n 2, 1) := by decide +kernel
theorem dX10_ends_47 : decode cX10_ends 47 = .ok (.iload_n 3, 1) := by decide +kernel
theorem dX10_ends_48 : decode cX10_ends 48 = .ok (.invokevirtual 396, 3) := by decide +kernel
theorem dX10_ends_51 : decode cX10_ends 51 = .ok (.istore 6, 2) := by decide +kernel
theorem dX10_ends_53 : decode cX10_ends 53 = .ok (.iload 6, 2) := by decide +kernel
theorem dX10_ends_55 : decode cX10_ends 55 = .ok (.bipush (-9), 2) := by decide +kernel
theorem dX10_ends_57 : decode cX10_ends 57 = .ok (.if_icmp .ne 6, 3) := by decide +kernel
theorem dX10_ends_60 : decode cX10_ends 60 = .ok (.bipush (-9), 2) := by decide +kernel
theorem dX10_ends_62 : decode cX10_ends 62 = .ok (.ireturn, 1) := by decide +kernel
theorem dX10_ends_63 : decode cX10_ends 63 = .ok (.iconst 0, 1) := by decide +kernel
theorem dX10_ends_64 : decode cX10_ends 64 = .ok (.istore 7, 2) := by decide +kernel
theorem dX10_ends_66 : decode cX10_ends 66 = .ok (.iconst 0, 1) := by decide +kernel
theorem dX10_ends_67 : decode cX10_ends 67 = .ok (.istore 8, 2) := by decide +kernel
theorem dX10_ends_69 : decode cX10_ends 69 = .ok (.iconst 1, 1) := by decide +kernel
theorem dX10_ends_70 : decode cX10_ends 70 = .ok (.istore 9, 2) := by decide +kernel
theorem dX10_ends_72 : decode cX10_ends 72 = .ok (.iload 9, 2) := by decide +kernel
theorem dX10_ends_74 : decode cX10_ends 74 = .ok (.bipush 8, 2) := by decide +kernel
theorem dX10_ends_76 : decode cX10_ends 76 = .ok (.if_icmp .gt 57, 3) := by decide +kernel
theorem dX10_ends_79 : decode cX10_ends 79 = .ok (.aload_n 0, 1) := by decide +kernel
theorem dX10_ends_80 : decode cX10_ends 80 = .ok (.getfield 75, 3) := by decide +kernel
theorem dX10_ends_83 : decode cX10_ends 83 = .ok (.iload 9, 2) := by decide +kernel
theorem dX10_ends_85 : decode cX10_ends 85 = .ok (.iaload, 1) := by decide +kernel
theorem dX10_ends_86 : decode cX10_ends 86 = .ok (.bipush (-9), 2) := by decide +kernel
theorem dX10_ends_88 : decode cX10_ends 88 = .ok (.if_icmp .eq 39, 3) := by decide +kernel
theorem dX10_ends_91 : decode cX10_ends 91 = .ok (.aload_n 0, 1) := by decide +kernel
theorem dX10_ends_92 : decode cX10_ends 92 = .ok (.getfield 75, 3) := by decide +kernel
theorem dX10_ends_95 : decode cX10_ends 95 = .ok (.iload 9, 2) := by decide +kernel
theorem dX10_ends_97 : decode cX10_ends 97 = .ok (.iaload, 1) := by decide +kernel
theorem dX10_ends_98 : decode cX10_ends 98 = .ok (.aload_n 0, 1) := by decide +kernel
theorem dX10_ends_99 : decode cX10_ends 99 = .ok (.getfield 75, 3) := by decide +kernel
theorem dX10_ends_102 : decode cX10_ends 102 = .ok (.iload 6, 2) := by decide +kernel
theorem dX10_ends_104 : decode cX10_ends 104 = .ok (.iaload, 1) := by decide +kernel
theorem dX10_ends_105 : decode cX10_ends 105 = .ok (.iload 4, 2) := by decide +kernel
theorem dX10_ends_107 : decode cX10_ends 107 = .ok (.iadd, 1) := by decide +kernel
theorem dX10_ends_108 : decode cX10_ends 108 = .ok (.if_icmp .le 6, 3) := by decide +kernel
theorem dX10_ends_111 : decode cX10_ends 111 = .ok (.goto 16, 3) := by decide +kernel
theorem dX10_ends_114 : decode cX10_ends 114 = .ok (.iload 7, 2) := by decide +kernel
theorem dX10_ends_116 : decode cX10_ends 116 = .ok (.ifCond .ne 7, 3) := by decide +kernel
theorem dX10_ends_119 : decode cX10_ends 119 = .ok (.iload 9, 2) := by decide +kernel
theorem dX10_ends_121 : decode cX10_ends 121 = .ok (.istore 7, 2) := by decide +kernel
theorem dX10_ends_123 : decode cX10_ends 123 = .ok (.iload 9, 2) := by decide +kernel
theorem dX10_ends_125 : decode cX10_ends 125 = .ok (.istore 8, 2) := by decide +kernel
theorem dX10_ends_127 : decode cX10_ends 127 = .ok (.iinc 9 1, 3) := by decide +kernel
theorem dX10_ends_130 : decode cX10_ends 130 = .ok (.goto (-58), 3) := by decide +kernel
theorem dX10_ends_133 : decode cX10_ends 133 = .ok (.bipush 10, 2) := by decide +kernel
theorem dX10_ends_135 : decode cX10_ends 135 = .ok (.iload 7, 2) := by decide +kernel
theorem dX10_ends_137 : decode cX10_ends 137 = .ok (.imul, 1) := by decide +kernel
theorem dX10_ends_138 : decode cX10_ends 138 = .ok (.iload 8, 2) := by decide +kernel
theorem dX10_ends_140 : decode cX10_ends 140 = .ok (.iadd, 1) := by decide +kernel
theorem dX10_ends_141 : decode cX10_ends 141 = .ok (.ireturn, 1) := by decide +kernel
set_option maxRecDepth 20000 in
theorem ggX10_play_X10_isBoard : GoodIn wsX10_play wsX10_isBoard := goodIn_r _ [7] (by decide +kernel) (by decide +kernel)
set_option maxRecDepth 20000 in
theorem gX10_play_X10_isBoard : GoodIn wsX10_play (va_wsS RX10 157 yX10_isBoard wsX10_isBoard) := goodIn_app (goodIn_of _ (by decide +kernel)) ggX10_play_X10_isBoard
set_option maxRecDepth 20000 in
theorem ggX10_play_X7_isNumber : GoodIn wsX10_play wsX7_isNumber := goodIn_r _ [12, 13, 257, 258] (by decide +kernel) (by decide +kernel)
set_option maxRecDepth 20000 in
theorem gX10_play_X7_isNumber : GoodIn wsX10_play (wsV RX10 87 RX7 yX7_isNumber wsX7_isNumber) := goodIn_app (goodIn_of _ (by decide +kernel)) ggX10_play_X7_isNumber
set_option maxRecDepth 20000 in
theorem ggX10_play_X7_isThere : GoodIn wsX10_play wsX7_isThere := goodIn_r _ [17, 13, 257, 258] (by decide +kernel) (by decide +kernel)
set_option maxRecDepth 20000 in
theorem gX10_play_X7_isThere : GoodIn wsX10_play (wsV RX10 105 RX7 yX7_isThere wsX7_isThere) := goodIn_app (goodIn_of _ (by decide +kernel)) ggX10_play_X7_isThere
set_option maxRecDepth 20000 in
theorem ggX10_play_X10_found : GoodIn wsX10_play wsX10_found := goodIn_r _ [21, 22, 23, 219, 220, 221, 222, 223, 224, 225, 226, 227, 228, 229, 230, 231, 232, 233, 234, 235, 236, 237] (by decide +kernel) (by decide +kernel)
set_option maxRecDepth 20000 in
theorem gX10_play_X10_found : GoodIn wsX10_play (wsV RX10 91 RX10 yX10_found wsX10_found) := goodIn_app (goodIn_of _ (by decide +kernel)) ggX10_play_X10_found
set_option maxRecDepth 20000 in
theorem ggX10_play_X10_faultOf : GoodIn wsX10_play wsX10_faultOf := goodIn_r _ [27, 3, 1, 28, 29, 30, 31, 32, 33, 34, 35, 36, 37, 38, 39, 40, 41, 42, 43, 44, 45, 46, 47, 48, 49, 50, 51, 52, 53, 54, 55, 56, 57, 58, 59, 60, 61, 62, 63, 219, 220, 221, 222, 223, 224, 225, 226, 227, 228, 229, 230, 231, 232, 233, 234, 235, 236, 237, 257, 258, 259, 260, 261, 262, 263, 264, 265] (by decide +kernel) (by decide +kernel)
set_option maxRecDepth 20000 in
theorem gX10_play_X10_faultOf : GoodIn wsX10_play (wsV RX10 139 RX10 yX10_faultOf wsX10_faultOf) := goodIn_app (goodIn_of _ (by decide +kernel)) ggX10_play_X10_faultOf
set_option maxRecDepth 20000 in
theorem ggX10_play_X6_open : GoodIn wsX10_play wsX6_open := goodIn_r _ [32, 33, 34, 35, 36, 37, 259, 260, 261, 262, 263, 264, 265] (by decide +kernel) (by decide +kernel)
set_option maxRecDepth 20000 in
theorem gX10_play_X6_open : GoodIn wsX10_play (wsV RX10 146 RX6 yX6_open wsX6_open) := goodIn_app (goodIn_of _ (by decide +kernel)) ggX10_play_X6_open
set_option maxRecDepth 20000 in
theorem ggX10_play_X6_next : GoodIn wsX10_play wsX6_next := goodIn_r _ [41, 35, 34, 33, 37, 42, 43, 36, 44, 45, 46, 31, 47, 48, 49, 50, 51, 52, 53, 54, 55, 56, 57, 58, 59, 60, 61, 62, 63, 259, 260, 261, 262, 263, 264, 265] (by decide +kernel) (by decide +kernel)
set_option maxRecDepth 20000 in
theorem gX10_play_X6_next : GoodIn wsX10_play (wsV RX10 150 RX6 yX6_next wsX6_next) := goodIn_app (goodIn_of _ (by decide +kernel)) ggX10_play_X6_next
set_option maxRecDepth 20000 in
theorem ggX10_play_X0_obey : GoodIn wsX10_play wsX0_obey := goodIn_r _ [68, 69, 70, 71, 72, 73, 74, 75, 67, 76, 77, 78, 79, 80, 81, 82, 83, 84, 85, 86, 87, 88, 89, 90, 91, 92, 93, 94, 238, 239, 240, 241, 242, 243, 244, 245, 246, 247, 248, 249, 250, 251, 252, 253, 254, 255, 256, 266, 267, 268, 269, 270, 271, 272] (by decide +kernel) (by decide +kernel)
set_option maxRecDepth 20000 in
theorem gX10_play_X0_obey : GoodIn wsX10_play (wsV RX10 406 RX0 yX0_obey wsX0_obey) := goodIn_app (goodIn_of _ (by decide +kernel)) ggX10_play_X0_obey
set_option maxRecDepth 20000 in
theorem ggX10_play_X6_stepsOfItem : GoodIn wsX10_play wsX6_stepsOfItem := goodIn_r _ [63, 42, 43, 259, 260, 261, 262, 263, 264, 265] (by decide +kernel) (by decide +kernel)
set_option maxRecDepth 20000 in
theorem gX10_play_X6_stepsOfItem : GoodIn wsX10_play (wsV RX10 409 RX6 yX6_stepsOfItem wsX6_stepsOfItem) := goodIn_app (goodIn_of _ (by decide +kernel)) ggX10_play_X6_stepsOfItem
set_option maxRecDepth 20000 in
theorem ggX10_play_X10_stepWhole : GoodIn wsX10_play wsX10_stepWhole := goodIn_r _ [99, 2, 100, 101, 102, 103, 104, 105, 106, 107, 108, 109, 110, 111, 112, 113, 114, 115, 116, 117, 118, 119, 120, 121, 67, 122, 77, 78, 123, 74, 75, 76, 124, 125, 126, 127, 128, 129, 130, 131, 132, 133, 134, 135, 136, 137, 138, 139, 140, 141, 83, 69, 142, 143, 144, 145, 146, 147, 148, 93, 149, 150, 151, 152, 153, 154, 155, 156, 157, 158, 159, 160, 161, 162, 163, 164, 165, 166, 167, 168, 169, 170, 171, 172, 173, 174, 175, 176, 177, 178, 179, 79, 80, 81, 82, 180, 9, 10, 11, 12, 13, 181, 182, 183, 184, 185, 71, 186, 187, 188, 189, 190, 191, 192, 193, 92, 94, 194, 195, 196, 197, 198, 199, 200, 201, 202, 203, 204, 205, 206, 207, 208, 209, 210, 211, 212, 213, 214, 215, 216, 217, 218, 219, 220, 221, 222, 223, 224, 225, 226, 227, 228, 229, 230, 231, 232, 233, 234, 235, 236, 237, 273, 274, 275, 276, 277, 278, 279, 280, 281, 282, 283, 284, 285, 238, 239, 240, 241, 242, 243, 244, 245, 246, 247, 248, 249, 250, 251, 252, 253, 254, 255, 256, 266, 267, 268, 269, 270, 271, 272, 257, 258] (by decide +kernel) (by decide +kernel)
set_option maxRecDepth 20000 in
theorem gX10_play_X10_stepWhole : GoodIn wsX10_play (wsV RX10 246 RX10 yX10_stepWhole wsX10_stepWhole) := goodIn_app (goodIn_of _ (by decide +kernel)) ggX10_play_X10_stepWhole
theorem dX10_play_0 : decode cX10_play 0 = .ok (.iload_n 1, 1) := by decide +kernel
theorem dX10_play_1 : decode cX10_play 1 = .ok (.invokestatic 157, 3) := by decide +kernel
theorem dX10_play_4 : decode cX10_play 4 = .ok (.ifCond .eq 14, 3) := by decide +kernel
theorem dX10_play_7 : decode cX10_play 7 = .ok (.aload_n 0, 1) := by decide +kernel
theorem dX10_play_8 : decode cX10_play 8 = .ok (.getfield 18, 3) := by decide +kernel
theorem dX10_play_11 : decode cX10_play 11 = .ok (.iload_n 2, 1) := by decide +kernel
theorem dX10_play_12 : decode cX10_play 12 = .ok (.invokevirtual 87, 3) := by decide +kernel
theorem dX10_play_15 : decode cX10_play 15 = .ok (.ifCond .ne 5, 3) := by decide +kernel
theorem dX10_play_18 : decode cX10_play 18 = .ok (.iconst (-1), 1) := by decide +kernel
theorem dX10_play_19 : decode cX10_play 19 = .ok (.ireturn, 1) := by decide +kernel
theorem dX10_play_20 : decode cX10_play 20 = .ok (.aload_n 0, 1) := by decide +kernel
theorem dX10_play_21 : decode cX10_play 21 = .ok (.getfield 30, 3) := by decide +kernel
theorem dX10_play_24 : decode cX10_play 24 = .ok (.iload_n 1, 1) := by decide +kernel
theorem dX10_play_25 : decode cX10_play 25 = .ok (.aaload, 1) := by decide +kernel
theorem dX10_play_26 : decode cX10_play 26 = .ok (.getfield 305, 3) := by decide +kernel
theorem dX10_play_29 : decode cX10_play 29 = .ok (.ifCond .eq 14, 3) := by decide +kernel
theorem dX10_play_32 : decode cX10_play 32 = .ok (.aload_n 0, 1) := by decide +kernel
theorem dX10_play_33 : decode cX10_play 33 = .ok (.getfield 18, 3) := by decide +kernel
theorem dX10_play_36 : decode cX10_play 36 = .ok (.iload_n 2, 1) := by decide +kernel
theorem dX10_play_37 : decode cX10_play 37 = .ok (.invokevirtual 105, 3) := by decide +kernel
theorem dX10_play_40 : decode cX10_play 40 = .ok (.ifCond .ne 9, 3) := by decide +kernel
theorem dX10_play_43 : decode cX10_play 43 = .ok (.aload_n 0, 1) := by decide +kernel
theorem dX10_play_44 : decode cX10_play 44 = .ok (.iconst 1, 1) := by decide +kernel
theorem dX10_play_45 : decode cX10_play 45 = .ok (.invokevirtual 91, 3) := by decide +kernel
theorem dX10_play_48 : decode cX10_play 48 = .ok (.ireturn, 1) := by decide +kernel
theorem dX10_play_49 : decode cX10_play 49 = .ok (.aload_n 0, 1) := by decide +kernel
theorem dX10_play_50 : decode cX10_play 50 = .ok (.iload_n 2, 1) := by decide +kernel
theorem dX10_play_51 : decode cX10_play 51 = .ok (.invokevirtual 139, 3) := by decide +kernel
theorem dX10_play_54 : decode cX10_play 54 = .ok (.bipush (-9), 2) := by decide +kernel
theorem dX10_play_56 : decode cX10_play 56 = .ok (.if_icmp .eq 6, 3) := by decide +kernel
theorem dX10_play_59 : decode cX10_play 59 = .ok (.bipush (-4), 2) := by decide +kernel
theorem dX10_play_61 : decode cX10_play 61 = .ok (.ireturn, 1) := by decide +kernel
theorem dX10_play_62 : decode cX10_play 62 = .ok (.aload_n 0, 1) := by decide +kernel
theorem dX10_play_63 : decode cX10_play 63 = .ok (.getfield 49, 3) := by decide +kernel
theorem dX10_play_66 : decode cX10_play 66 = .ok (.aload_n 0, 1) := by decide +kernel
theorem dX10_play_67 : decode cX10_play 67 = .ok (.getfield 18, 3) := by decide +kernel
theorem dX10_play_70 : decode cX10_play 70 = .ok (.getfield 112, 3) := by decide +kernel
theorem dX10_play_73 : decode cX10_play 73 = .ok (.iload_n 2, 1) := by decide +kernel
theorem dX10_play_74 : decode cX10_play 74 = .ok (.aaload, 1) := by decide +kernel
theorem dX10_play_75 : decode cX10_play 75 = .ok (.aload_n 0, 1) := by decide +kernel
theorem dX10_play_76 : decode cX10_play 76 = .ok (.getfield 18, 3) := by decide +kernel
theorem dX10_play_79 : decode cX10_play 79 = .ok (.getfield 136, 3) := by decide +kernel
theorem dX10_play_82 : decode cX10_play 82 = .ok (.iload_n 2, 1) := by decide +kernel
theorem dX10_play_83 : decode cX10_play 83 = .ok (.iaload, 1) := by decide +kernel
theorem dX10_play_84 : decode cX10_play 84 = .ok (.invokevirtual 146, 3) := by decide +kernel
theorem dX10_play_87 : decode cX10_play 87 = .ok (.iconst 0, 1) := by decide +kernel
theorem dX10_play_88 : decode cX10_play 88 = .ok (.istore_n 3, 1) := by decide +kernel
theorem dX10_play_89 : decode cX10_play 89 = .ok (.iconst 0, 1) := by decide +kernel
theorem dX10_play_90 : decode cX10_play 90 = .ok (.istore 4, 2) := by decide +kernel
theorem dX10_play_92 : decode cX10_play 92 = .ok (.iload 4, 2) := by decide +kernel
theorem dX10_play_94 : decode cX10_play 94 = .ok (.bipush 40, 2) := by decide +kernel
theorem dX10_play_96 : decode cX10_play 96 = .ok (.if_icmp .ge 80, 3) := by decide +kernel
theorem dX10_play_99 : decode cX10_play 99 = .ok (.aload_n 0, 1) := by decide +kernel
theorem dX10_play_100 : decode cX10_play 100 = .ok (.getfield 49, 3) := by decide +kernel
theorem dX10_play_103 : decode cX10_play 103 = .ok (.invokevirtual 150, 3) := by decide +kernel
theorem dX10_play_106 : decode cX10_play 106 = .ok (.ifCond .eq 70, 3) := by decide +kernel
theorem dX10_play_109 : decode cX10_play 109 = .ok (.aload_n 0, 1) := by decide +kernel
theorem dX10_play_110 : decode cX10_play 110 = .ok (.getfield 30, 3) := by decide +kernel
theorem dX10_play_113 : decode cX10_play 113 = .ok (.iload_n 1, 1) := by decide +kernel
theorem dX10_play_114 : decode cX10_play 114 = .ok (.aaload, 1) := by decide +kernel
theorem dX10_play_115 : decode cX10_play 115 = .ok (.aload_n 0, 1) := by decide +kernel
theorem dX10_play_116 : decode cX10_play 116 = .ok (.getfield 49, 3) := by decide +kernel
theorem dX10_play_119 : decode cX10_play 119 = .ok (.getfield 400, 3) := by decide +kernel
theorem dX10_play_122 : decode cX10_play 122 = .ok (.aload_n 0, 1) := by decide +kernel
theorem dX10_play_123 : decode cX10_play 123 = .ok (.getfield 49, 3) := by decide +kernel
theorem dX10_play_126 : decode cX10_play 126 = .ok (.getfield 403, 3) := by decide +kernel
theorem dX10_play_129 : decode cX10_play 129 = .ok (.invokevirtual 406, 3) := by decide +kernel
theorem dX10_play_132 : decode cX10_play 132 = .ok (.aload_n 0, 1) := by decide +kernel
theorem dX10_play_133 : decode cX10_play 133 = .ok (.getfield 49, 3) := by decide +kernel
theorem dX10_play_136 : decode cX10_play 136 = .ok (.invokevirtual 409, 3) := by decide +kernel
theorem dX10_play_139 : decode cX10_play 139 = .ok (.istore 5, 2) := by decide +kernel
theorem dX10_play_141 : decode cX10_play 141 = .ok (.iconst 0, 1) := by decide +kernel
theorem dX10_play_142 : decode cX10_play 142 = .ok (.istore 6, 2) := by decide +kernel
theorem dX10_play_144 : decode cX10_play 144 = .ok (.iload 6, 2) := by decide +kernel
theorem dX10_play_146 : decode cX10_play 146 = .ok (.iload 5, 2) := by decide +kernel
theorem dX10_play_148 : decode cX10_play 148 = .ok (.if_icmp .ge 22, 3) := by decide +kernel
theorem dX10_play_151 : decode cX10_play 151 = .ok (.aload_n 0, 1) := by decide +kernel
theorem dX10_play_152 : decode cX10_play 152 = .ok (.iload_n 1, 1) := by decide +kernel
theorem dX10_play_153 : decode cX10_play 153 = .ok (.invokevirtual 246, 3) := by decide +kernel
theorem dX10_play_156 : decode cX10_play 156 = .ok (.ifCond .ne 5, 3) := by decide +kernel
theorem dX10_play_159 : decode cX10_play 159 = .ok (.iload_n 3, 1) := by decide +kernel
theorem dX10_play_160 : decode cX10_play 160 = .ok (.ireturn, 1) := by decide +kernel
theorem dX10_play_161 : decode cX10_play 161 = .ok (.iinc 3 1, 3) := by decide +kernel
theorem dX10_play_164 : decode cX10_play 164 = .ok (.iinc 6 1, 3) := by decide +kernel
theorem dX10_play_167 : decode cX10_play 167 = .ok (.goto (-23), 3) := by decide +kernel
theorem dX10_play_170 : decode cX10_play 170 = .ok (.iinc 4 1, 3) := by decide +kernel
theorem dX10_play_173 : decode cX10_play 173 = .ok (.goto (-81), 3) := by decide +kernel
theorem dX10_play_176 : decode cX10_play 176 = .ok (.iload_n 3, 1) := by decide +kernel
theorem dX10_play_177 : decode cX10_play 177 = .ok (.ireturn, 1) := by decide +kernel
set_option maxRecDepth 20000 in
theorem ggX10_world_X7_isNumber : GoodIn wsX10_world wsX7_isNumber := goodIn_r _ [13, 14, 94, 95] (by decide +kernel) (by decide +kernel)
set_option maxRecDepth 20000 in
theorem gX10_world_X7_isNumber : GoodIn wsX10_world (wsV RX10 87 RX7 yX7_isNumber wsX7_isNumber) := goodIn_app (goodIn_of _ (by decide +kernel)) ggX10_world_X7_isNumber
set_option maxRecDepth 20000 in
theorem ggX10_world_X10_within : GoodIn wsX10_world wsX10_within := goodIn_r _ [18] (by decide +kernel) (by decide +kernel)
set_option maxRecDepth 20000 in
theorem gX10_world_X10_within : GoodIn wsX10_world (va_wsS RX10 101 yX10_within wsX10_within) := goodIn_app (goodIn_of _ (by decide +kernel)) ggX10_world_X10_within
set_option maxRecDepth 20000 in
theorem ggX10_world_X7_isThere : GoodIn wsX10_world wsX7_isThere := goodIn_r _ [22, 14, 94, 95] (by decide +kernel) (by decide +kernel)
set_option maxRecDepth 20000 in
theorem gX10_world_X7_isThere : GoodIn wsX10_world (wsV RX10 105 RX7 yX7_isThere wsX7_isThere) := goodIn_app (goodIn_of _ (by decide +kernel)) ggX10_world_X7_isThere
set_option maxRecDepth 20000 in
theorem ggX10_world_X10_found : GoodIn wsX10_world wsX10_found := goodIn_r _ [26, 27, 28, 75, 76, 77, 78, 79, 80, 81, 82, 83, 84, 85, 86, 87, 88, 89, 90, 91, 92, 93] (by decide +kernel) (by decide +kernel)
set_option maxRecDepth 20000 in
theorem gX10_world_X10_found : GoodIn wsX10_world (wsV RX10 91 RX10 yX10_found wsX10_found) := goodIn_app (goodIn_of _ (by decide +kernel)) ggX10_world_X10_found
set_option maxRecDepth 20000 in
theorem ggX10_world_X10_faultOf : GoodIn wsX10_world wsX10_faultOf := goodIn_r _ [32, 33, 1, 34, 35, 36, 37, 38, 39, 40, 41, 42, 43, 44, 45, 46, 47, 48, 49, 50, 51, 52, 53, 54, 55, 56, 57, 58, 59, 60, 61, 62, 63, 64, 65, 66, 67, 68, 69, 75, 76, 77, 78, 79, 80, 81, 82, 83, 84, 85, 86, 87, 88, 89, 90, 91, 92, 93, 94, 95, 96, 97, 98, 99, 100, 101, 102] (by decide +kernel) (by decide +kernel)
set_option maxRecDepth 20000 in
theorem gX10_world_X10_faultOf : GoodIn wsX10_world (wsV RX10 139 RX10 yX10_faultOf wsX10_faultOf) := goodIn_app (goodIn_of _ (by decide +kernel)) ggX10_world_X10_faultOf
set_option maxRecDepth 20000 in
theorem ggX10_world_X7_make : GoodIn wsX10_world wsX7_make := goodIn_r _ [73, 14, 74, 94, 95] (by decide +kernel) (by decide +kernel)
set_option maxRecDepth 20000 in
theorem gX10_world_X7_make : GoodIn wsX10_world (wsV RX10 95 RX7 yX7_make wsX7_make) := goodIn_app (goodIn_of _ (by decide +kernel)) ggX10_world_X7_make
theorem dX10_world_0 : decode cX10_world 0 = .ok (.aload_n 0, 1) := by decide +kernel
theorem dX10_world_1 : decode cX10_world 1 = .ok (.getfield 18, 3) := by decide +kernel
theorem dX10_world_4 : decode cX10_world 4 = .ok (.iload_n 1, 1) := by decide +kernel
theorem dX10_world_5 : decode cX10_world 5 = .ok (.invokevirtual 87, 3) := by decide +kernel
theorem dX10_world_8 : decode cX10_world 8 = .ok (.ifCond .eq 13, 3) := by decide +kernel
theorem dX10_world_11 : decode cX10_world 11 = .ok (.iload_n 2, 1) := by decide +kernel
theorem dX10_world_12 : decode cX10_world 12 = .ok (.iconst 0, 1) := by decide +kernel
theorem dX10_world_13 : decode cX10_world 13 = .ok (.bipush 99, 2) := by decide +kernel
theorem dX10_world_15 : decode cX10_world 15 = .ok (.invokestatic 101, 3) := by decide +kernel
theorem dX10_world_18 : decode cX10_world 18 = .ok (.ifCond .ne 5, 3) := by decide +kernel
theorem dX10_world_21 : decode cX10_world 21 = .ok (.iconst (-1), 1) := by decide +kernel
theorem dX10_world_22 : decode cX10_world 22 = .ok (.ireturn, 1) := by decide +kernel
theorem dX10_world_23 : decode cX10_world 23 = .ok (.aload_n 0, 1) := by decide +kernel
theorem dX10_world_24 : decode cX10_world 24 = .ok (.getfield 412, 3) := by decide +kernel
theorem dX10_world_27 : decode cX10_world 27 = .ok (.bipush 8, 2) := by decide +kernel
theorem dX10_world_29 : decode cX10_world 29 = .ok (.if_icmp .lt 6, 3) := by decide +kernel
theorem dX10_world_32 : decode cX10_world 32 = .ok (.bipush (-2), 2) := by decide +kernel
theorem dX10_world_34 : decode cX10_world 34 = .ok (.ireturn, 1) := by decide +kernel
theorem dX10_world_35 : decode cX10_world 35 = .ok (.aload_n 0, 1) := by decide +kernel
theorem dX10_world_36 : decode cX10_world 36 = .ok (.getfield 18, 3) := by decide +kernel
theorem dX10_world_39 : decode cX10_world 39 = .ok (.iload_n 1, 1) := by decide +kernel
theorem dX10_world_40 : decode cX10_world 40 = .ok (.invokevirtual 105, 3) := by decide +kernel
theorem dX10_world_43 : decode cX10_world 43 = .ok (.ifCond .ne 9, 3) := by decide +kernel
theorem dX10_world_46 : decode cX10_world 46 = .ok (.aload_n 0, 1) := by decide +kernel
theorem dX10_world_47 : decode cX10_world 47 = .ok (.iconst 1, 1) := by decide +kernel
theorem dX10_world_48 : decode cX10_world 48 = .ok (.invokevirtual 91, 3) := by decide +kernel
theorem dX10_world_51 : decode cX10_world 51 = .ok (.ireturn, 1) := by decide +kernel
theorem dX10_world_52 : decode cX10_world 52 = .ok (.aload_n 0, 1) := by decide +kernel
theorem dX10_world_53 : decode cX10_world 53 = .ok (.iload_n 1, 1) := by decide +kernel
theorem dX10_world_54 : decode cX10_world 54 = .ok (.invokevirtual 139, 3) := by decide +kernel
theorem dX10_world_57 : decode cX10_world 57 = .ok (.bipush (-9), 2) := by decide +kernel
theorem dX10_world_59 : decode cX10_world 59 = .ok (.if_icmp .eq 6, 3) := by decide +kernel
theorem dX10_world_62 : decode cX10_world 62 = .ok (.bipush (-4), 2) := by decide +kernel
theorem dX10_world_64 : decode cX10_world 64 = .ok (.ireturn, 1) := by decide +kernel
theorem dX10_world_65 : decode cX10_world 65 = .ok (.aload_n 0, 1) := by decide +kernel
theorem dX10_world_66 : decode cX10_world 66 = .ok (.getfield 21, 3) := by decide +kernel
theorem dX10_world_69 : decode cX10_world 69 = .ok (.aload_n 0, 1) := by decide +kernel
theorem dX10_world_70 : decode cX10_world 70 = .ok (.getfield 412, 3) := by decide +kernel
theorem dX10_world_73 : decode cX10_world 73 = .ok (.aload_n 0, 1) := by decide +kernel
theorem dX10_world_74 : decode cX10_world 74 = .ok (.getfield 18, 3) := by decide +kernel
theorem dX10_world_77 : decode cX10_world 77 = .ok (.getfield 136, 3) := by decide +kernel
theorem dX10_world_80 : decode cX10_world 80 = .ok (.iload_n 1, 1) := by decide +kernel
theorem dX10_world_81 : decode cX10_world 81 = .ok (.iaload, 1) := by decide +kernel
theorem dX10_world_82 : decode cX10_world 82 = .ok (.bipush 32, 2) := by decide +kernel
theorem dX10_world_84 : decode cX10_world 84 = .ok (.invokevirtual 95, 3) := by decide +kernel
theorem dX10_world_87 : decode cX10_world 87 = .ok (.aload_n 0, 1) := by decide +kernel
theorem dX10_world_88 : decode cX10_world 88 = .ok (.getfield 18, 3) := by decide +kernel
theorem dX10_world_91 : decode cX10_world 91 = .ok (.getfield 112, 3) := by decide +kernel
theorem dX10_world_94 : decode cX10_world 94 = .ok (.iload_n 1, 1) := by decide +kernel
theorem dX10_world_95 : decode cX10_world 95 = .ok (.aaload, 1) := by decide +kernel
theorem dX10_world_96 : decode cX10_world 96 = .ok (.iconst 0, 1) := by decide +kernel
theorem dX10_world_97 : decode cX10_world 97 = .ok (.aload_n 0, 1) := by decide +kernel
theorem dX10_world_98 : decode cX10_world 98 = .ok (.getfield 21, 3) := by decide +kernel
theorem dX10_world_101 : decode cX10_world 101 = .ok (.getfield 112, 3) := by decide +kernel
theorem dX10_world_104 : decode cX10_world 104 = .ok (.aload_n 0, 1) := by decide +kernel
theorem dX10_world_105 : decode cX10_world 105 = .ok (.getfield 412, 3) := by decide +kernel
theorem dX10_world_108 : decode cX10_world 108 = .ok (.aaload, 1) := by decide +kernel
theorem dX10_world_109 : decode cX10_world 109 = .ok (.iconst 0, 1) := by decide +kernel
theorem dX10_world_110 : decode cX10_world 110 = .ok (.aload_n 0, 1) := by decide +kernel
theorem dX10_world_111 : decode cX10_world 111 = .ok (.getfield 18, 3) := by decide +kernel
theorem dX10_world_114 : decode cX10_world 114 = .ok (.getfield 136, 3) := by decide +kernel
theorem dX10_world_117 : decode cX10_world 117 = .ok (.iload_n 1, 1) := by decide +kernel
theorem dX10_world_118 : decode cX10_world 118 = .ok (.iaload, 1) := by decide +kernel
theorem dX10_world_119 : decode cX10_world 119 = .ok (.invokestatic 127, 3) := by decide +kernel
theorem dX10_world_122 : decode cX10_world 122 = .ok (.aload_n 0, 1) := by decide +kernel
theorem dX10_world_123 : decode cX10_world 123 = .ok (.getfield 24, 3) := by decide +kernel
theorem dX10_world_126 : decode cX10_world 126 = .ok (.aload_n 0, 1) := by decide +kernel
theorem dX10_world_127 : decode cX10_world 127 = .ok (.getfield 412, 3) := by decide +kernel
theorem dX10_world_130 : decode cX10_world 130 = .ok (.iload_n 2, 1) := by decide +kernel
theorem dX10_world_131 : decode cX10_world 131 = .ok (.iastore, 1) := by decide +kernel
theorem dX10_world_132 : decode cX10_world 132 = .ok (.aload_n 0, 1) := by decide +kernel
theorem dX10_world_133 : decode cX10_world 133 = .ok (.dup, 1) := by decide +kernel
theorem dX10_world_134 : decode cX10_world 134 = .ok (.getfield 412, 3) := by decide +kernel
theorem dX10_world_137 : decode cX10_world 137 = .ok (.iconst 1, 1) := by decide +kernel
theorem dX10_world_138 : decode cX10_world 138 = .ok (.iadd, 1) := by decide +kernel
theorem dX10_world_139 : decode cX10_world 139 = .ok (.putfield 412, 3) := by decide +kernel
theorem dX10_world_142 : decode cX10_world 142 = .ok (.aload_n 0, 1) := by decide +kernel
theorem dX10_world_143 : decode cX10_world 143 = .ok (.getfield 412, 3) := by decide +kernel
theorem dX10_world_146 : decode cX10_world 146 = .ok (.iconst 1, 1) := by decide +kernel
theorem dX10_world_147 : decode cX10_world 147 = .ok (.isub, 1) := by decide +kernel
theorem dX10_world_148 : decode cX10_world 148 = .ok (.ireturn, 1) := by decide +kernel
theorem dX10_forget_0 : decode cX10_forget 0 = .ok (.aload_n 0, 1) := by decide +kernel
theorem dX10_forget_1 : decode cX10_forget 1 = .ok (.getfield 412, 3) := by decide +kernel
theorem dX10_forget_4 : decode cX10_forget 4 = .ok (.istore_n 1, 1) := by decide +kernel
theorem dX10_forget_5 : decode cX10_forget 5 = .ok (.aload_n 0, 1) := by decide +kernel
theorem dX10_forget_6 : decode cX10_forget 6 = .ok (.iconst 0, 1) := by decide +kernel
theorem dX10_forget_7 : decode cX10_forget 7 = .ok (.putfield 412, 3) := by decide +kernel
theorem dX10_forget_10 : decode cX10_forget 10 = .ok (.iload_n 1, 1) := by decide +kernel
theorem dX10_forget_11 : decode cX10_forget 11 = .ok (.ireturn, 1) := by decide +kernel
set_option maxRecDepth 20000 in
theorem ggX10_alarm_X10_alarmRefused : GoodIn wsX10_alarm wsX10_alarmRefused := goodIn_r _ [5, 6, 7, 8, 4, 9, 10, 11, 12, 13, 14, 15, 16, 17, 18, 19, 20, 21, 22, 23, 24, 25, 26, 27, 28, 29, 30, 31, 32, 33, 34, 35, 36, 37, 38, 39, 40, 255, 256, 257, 258, 259, 260, 261, 262, 263, 264, 265, 266, 267, 268, 269, 270, 271, 272, 273, 274, 275, 276, 277, 278, 279, 280, 281, 282, 283, 284, 285, 286, 287, 288, 289, 290, 291, 292] (by decide +kernel) (by decide +kernel)
set_option maxRecDepth 20000 in
theorem gX10_alarm_X10_alarmRefused : GoodIn wsX10_alarm (wsV RX10 415 RX10 yX10_alarmRefused wsX10_alarmRefused) := goodIn_app (goodIn_of _ (by decide +kernel)) ggX10_alarm_X10_alarmRefused
set_option maxRecDepth 20000 in
theorem ggX10_alarm_X10_alarmedWeight : GoodIn wsX10_alarm wsX10_alarmedWeight := goodIn_r _ [44, 39, 40, 45, 14, 46, 47, 48, 31, 49, 50, 51, 33, 34, 52, 53, 54, 55, 56, 57, 58, 59, 60, 61, 62, 63, 64, 65, 66, 67, 68, 69, 70, 71, 72, 73, 74, 75, 76, 77, 78, 79, 80, 81, 82, 83, 84, 85, 86, 87, 88, 89, 90, 91, 92, 93, 94, 4, 95, 96, 97, 98, 99, 100, 101, 102, 103, 104, 105, 106, 107, 108, 109, 110, 111, 112, 113, 114, 115, 116, 117, 118, 119, 120, 121, 122, 123, 124, 125, 126, 127, 128, 129, 130, 131, 132, 133, 134, 135, 136, 137, 138, 139, 140, 141, 142, 143, 144, 145, 146, 147, 148, 149, 150, 151, 152, 153, 154, 155, 156, 157, 158, 159, 160, 161, 162, 163, 164, 165, 166, 167, 168, 169, 170, 171, 172, 173, 174, 175, 176, 177, 178, 179, 180, 181, 182, 183, 184, 185, 186, 187, 188, 189, 190, 191, 192, 193, 194, 195, 196, 197, 198, 199, 200, 201, 202, 203, 204, 205, 206, 207, 208, 209, 210, 211, 212, 213, 214, 215, 216, 217, 218, 219, 220, 221, 222, 223, 224, 225, 226, 227, 228, 229, 230, 231, 232, 233, 234, 235, 236, 237, 238, 239, 240, 241, 242, 243, 244, 245, 246, 247, 248, 255, 256, 257, 258, 259, 260, 261, 262, 263, 264, 265, 266, 267, 268, 269, 270, 271, 272, 273, 274, 275, 276, 277, 278, 279, 280, 281, 282, 283, 284, 285, 286, 287, 288, 289, 290, 291, 292, 293, 294, 295, 296, 297, 298, 299, 300, 301, 302, 303, 304, 305, 306, 307, 308, 309, 310, 311, 312, 313, 314, 315, 316, 317] (by decide +kernel) (by decide +kernel)
set_option maxRecDepth 20000 in
theorem gX10_alarm_X10_alarmedWeight : GoodIn wsX10_alarm (wsV RX10 418 RX10 yX10_alarmedWeight wsX10_alarmedWeight) := goodIn_app (goodIn_of _ (by decide +kernel)) ggX10_alarm_X10_alarmedWeight
set_option maxRecDepth 20000 in
theorem ggX10_alarm_X10_allWeights : GoodIn wsX10_alarm wsX10_allWeights := goodIn_r _ [38, 39, 40, 255, 256, 257, 258, 259, 260, 261, 262, 263, 264, 265, 266, 267, 268, 269, 270, 271, 272, 273] (by decide +kernel) (by decide +kernel)
set_option maxRecDepth 20000 in
theorem gX10_alarm_X10_allWeights : GoodIn wsX10_alarm (wsV RX10 422 RX10 yX10_allWeights wsX10_allWeights) := goodIn_app (goodIn_of _ (by decide +kernel)) ggX10_alarm_X10_allWeights
set_option maxRecDepth 20000 in
theorem ggX10_alarm_X10_tellFraction : GoodIn wsX10_alarm wsX10_tellFraction := goodIn_r _ [252, 253, 254, 255, 256, 257, 258, 259, 260, 261, 262, 263, 264, 265, 266, 267, 268, 269, 270, 271, 272, 273] (by decide +kernel) (by decide +kernel)
set_option maxRecDepth 20000 in
theorem gX10_alarm_X10_tellFraction : GoodIn wsX10_alarm (wsV RX10 425 RX10 yX10_tellFraction wsX10_tellFraction) := goodIn_app (goodIn_of _ (by decide +kernel)) ggX10_alarm_X10_tellFraction
theorem dX10_alarm_0 : decode cX10_alarm 0 = .ok (.aload_n 0, 1) := by decide +kernel
theorem dX10_alarm_1 : decode cX10_alarm 1 = .ok (.iload_n 1, 1) := by decide +kernel
theorem dX10_alarm_2 : decode cX10_alarm 2 = .ok (.iload_n 2, 1) := by decide +kernel
theorem dX10_alarm_3 : decode cX10_alarm 3 = .ok (.iload_n 3, 1) := by decide +kernel
theorem dX10_alarm_4 : decode cX10_alarm 4 = .ok (.invokevirtual 415, 3) := by decide +kernel
theorem dX10_alarm_7 : decode cX10_alarm 7 = .ok (.istore 4, 2) := by decide +kernel
theorem dX10_alarm_9 : decode cX10_alarm 9 = .ok (.iload 4, 2) := by decide +kernel
theorem dX10_alarm_11 : decode cX10_alarm 11 = .ok (.ifCond .eq 6, 3) := by decide +kernel
theorem dX10_alarm_14 : decode cX10_alarm 14 = .ok (.iload 4, 2) := by decide +kernel
theorem dX10_alarm_16 : decode cX10_alarm 16 = .ok (.ireturn, 1) := by decide +kernel
theorem dX10_alarm_17 : decode cX10_alarm 17 = .ok (.aload_n 0, 1) := by decide +kernel
theorem dX10_alarm_18 : decode cX10_alarm 18 = .ok (.aload_n 0, 1) := by decide +kernel
theorem dX10_alarm_19 : decode cX10_alarm 19 = .ok (.iload_n 1, 1) := by decide +kernel
theorem dX10_alarm_20 : decode cX10_alarm 20 = .ok (.iload_n 2, 1) := by decide +kernel
theorem dX10_alarm_21 : decode cX10_alarm 21 = .ok (.iload_n 3, 1) := by decide +kernel
theorem dX10_alarm_22 : decode cX10_alarm 22 = .ok (.iconst 0, 1) := by decide +kernel
theorem dX10_alarm_23 : decode cX10_alarm 23 = .ok (.invokevirtual 418, 3) := by decide +kernel
theorem dX10_alarm_26 : decode cX10_alarm 26 = .ok (.aload_n 0, 1) := by decide +kernel
theorem dX10_alarm_27 : decode cX10_alarm 27 = .ok (.invokevirtual 422, 3) := by decide +kernel
theorem dX10_alarm_30 : decode cX10_alarm 30 = .ok (.invokevirtual 425, 3) := by decide +kernel
theorem dX10_alarm_33 : decode cX10_alarm 33 = .ok (.iconst 1, 1) := by decide +kernel
theorem dX10_alarm_34 : decode cX10_alarm 34 = .ok (.ireturn, 1) := by decide +kernel
set_option maxRecDepth 20000 in
theorem ggX10_post_X10_sideRefused : GoodIn wsX10_post wsX10_sideRefused := goodIn_r _ [6, 1, 7, 8, 9, 5, 10, 11, 12, 13, 14, 15, 16, 17, 18, 19, 20, 21, 22, 23, 24, 25, 26, 27, 28, 29, 30, 31, 32, 33, 34, 35, 36, 37, 38, 39, 40, 41, 42, 43, 44, 45, 46, 47, 48, 49, 50, 51, 52, 53, 54, 55, 56, 57, 58, 59, 60, 61, 62, 63, 64] (by decide +kernel) (by decide +kernel)
set_option maxRecDepth 20000 in
theorem gX10_post_X10_sideRefused : GoodIn wsX10_post (wsV RX10 190 RX10 yX10_sideRefused wsX10_sideRefused) := goodIn_app (goodIn_of _ (by decide +kernel)) ggX10_post_X10_sideRefused
theorem dX10_post_0 : decode cX10_post 0 = .ok (.aload_n 0, 1) := by decide +kernel
theorem dX10_post_1 : decode cX10_post 1 = .ok (.iload_n 1, 1) := by decide +kernel
theorem dX10_post_2 : decode cX10_post 2 = .ok (.iload_n 2, 1) := by decide +kernel
theorem dX10_post_3 : decode cX10_post 3 = .ok (.invokevirtual 190, 3) := by decide +kernel
theorem dX10_post_6 : decode cX10_post 6 = .ok (.istore_n 3, 1) := by decide +kernel
theorem dX10_post_7 : decode cX10_post 7 = .ok (.iload_n 3, 1) := by decide +kernel
theorem dX10_post_8 : decode cX10_post 8 = .ok (.ifCond .eq 5, 3) := by decide +kernel
theorem dX10_post_11 : decode cX10_post 11 = .ok (.iload_n 3, 1) := by decide +kernel
theorem dX10_post_12 : decode cX10_post 12 = .ok (.ireturn, 1) := by decide +kernel
theorem dX10_post_13 : decode cX10_post 13 = .ok (.aload_n 0, 1) := by decide +kernel
theorem dX10_post_14 : decode cX10_post 14 = .ok (.getfield 30, 3) := by decide +kernel
theorem dX10_post_17 : decode cX10_post 17 = .ok (.iload_n 1, 1) := by decide +kernel
theorem dX10_post_18 : decode cX10_post 18 = .ok (.aaload, 1) := by decide +kernel
theorem dX10_post_19 : decode cX10_post 19 = .ok (.astore 4, 2) := by decide +kernel
theorem dX10_post_21 : decode cX10_post 21 = .ok (.aload 4, 2) := by decide +kernel
theorem dX10_post_23 : decode cX10_post 23 = .ok (.getfield 428, 3) := by decide +kernel
theorem dX10_post_26 : decode cX10_post 26 = .ok (.iconst 4, 1) := by decide +kernel
theorem dX10_post_27 : decode cX10_post 27 = .ok (.if_icmp .lt 6, 3) := by decide +kernel
theorem dX10_post_30 : decode cX10_post 30 = .ok (.bipush (-2), 2) := by decide +kernel
theorem dX10_post_32 : decode cX10_post 32 = .ok (.ireturn, 1) := by decide +kernel
theorem dX10_post_33 : decode cX10_post 33 = .ok (.aload 4, 2) := by decide +kernel
theorem dX10_post_35 : decode cX10_post 35 = .ok (.getfield 431, 3) := by decide +kernel
theorem dX10_post_38 : decode cX10_post 38 = .ok (.aload 4, 2) := by decide +kernel
theorem dX10_post_40 : decode cX10_post 40 = .ok (.getfield 428, 3) := by decide +kernel
theorem dX10_post_43 : decode cX10_post 43 = .ok (.iload_n 2, 1) := by decide +kernel
theorem dX10_post_44 : decode cX10_post 44 = .ok (.iastore, 1) := by decide +kernel
theorem dX10_post_45 : decode cX10_post 45 = .ok (.aload 4, 2) := by decide +kernel
theorem dX10_post_47 : decode cX10_post 47 = .ok (.dup, 1) := by decide +kernel
theorem dX10_post_48 : decode cX10_post 48 = .ok (.getfield 428, 3) := by decide +kernel
theorem dX10_post_51 : decode cX10_post 51 = .ok (.iconst 1, 1) := by decide +kernel
theorem dX10_post_52 : decode cX10_post 52 = .ok (.iadd, 1) := by decide +kernel
theorem dX10_post_53 : decode cX10_post 53 = .ok (.putfield 428, 3) := by decide +kernel
theorem dX10_post_56 : decode cX10_post 56 = .ok (.aload 4, 2) := by decide +kernel
theorem dX10_post_58 : decode cX10_post 58 = .ok (.getfield 428, 3) := by decide +kernel
theorem dX10_post_61 : decode cX10_post 61 = .ok (.ireturn, 1) := by decide +kernel
set_option maxRecDepth 20000 in
theorem ggX10_gates_X10_alarmRefused : GoodIn wsX10_gates wsX10_alarmRefused := goodIn_r _ [6, 7, 8, 9, 5, 10, 11, 12, 13, 14, 1, 15, 16, 17, 18, 19, 20, 21, 22, 23, 24, 25, 26, 27, 28, 29, 30, 31, 32, 33, 34, 35, 36, 37, 38, 39, 40, 262, 263, 264, 265, 266, 267, 268, 269, 270, 271, 272, 273, 274, 275, 276, 277, 278, 279, 280, 281, 282, 283, 284, 285, 286, 287, 288, 289, 290, 291, 292, 293, 294, 295, 296, 297, 298, 299] (by decide +kernel) (by decide +kernel)
set_option maxRecDepth 20000 in
theorem gX10_gates_X10_alarmRefused : GoodIn wsX10_gates (wsV RX10 415 RX10 yX10_alarmRefused wsX10_alarmRefused) := goodIn_app (goodIn_of _ (by decide +kernel)) ggX10_gates_X10_alarmRefused
set_option maxRecDepth 20000 in
theorem ggX10_gates_X10_alarmedWeight : GoodIn wsX10_gates wsX10_alarmedWeight := goodIn_r _ [44, 39, 40, 45, 1, 46, 47, 48, 31, 49, 50, 51, 33, 34, 52, 53, 54, 55, 56, 57, 58, 59, 60, 61, 62, 63, 64, 65, 66, 67, 68, 69, 70, 71, 72, 73, 74, 75, 76, 77, 78, 79, 80, 81, 82, 83, 84, 85, 86, 87, 88, 89, 90, 91, 92, 93, 94, 5, 95, 96, 97, 98, 99, 100, 101, 102, 103, 104, 105, 106, 107, 108, 109, 110, 111, 112, 113, 114, 115, 116, 117, 118, 119, 120, 121, 122, 123, 124, 125, 126, 127, 128, 129, 130, 131, 132, 133, 134, 135, 136, 137, 138, 139, 140, 141, 142, 143, 144, 145, 146, 147, 148, 149, 150, 151, 152, 153, 154, 155, 156, 157, 158, 159, 160, 161, 162, 163, 164, 165, 166, 167, 168, 169, 170, 171, 172, 173, 174, 175, 176, 177, 178, 179, 180, 181, 182, 183, 184, 185, 186, 187, 188, 189, 190, 191, 192, 193, 194, 195, 196, 197, 198, 199, 200, 201, 202, 203, 204, 205, 206, 207, 208, 209, 210, 211, 212, 213, 214, 215, 216, 217, 218, 219, 220, 221, 222, 223, 224, 225, 226, 227, 228, 229, 230, 231, 232, 233, 234, 235, 236, 237, 238, 239, 240, 241, 242, 243, 244, 245, 246, 247, 248, 262, 263, 264, 265, 266, 267, 268, 269, 270, 271, 272, 273, 274, 275, 276, 277, 278, 279, 280, 281, 282, 283, 284, 285, 286, 287, 288, 289, 290, 291, 292, 293, 294, 295, 296, 297, 298, 299, 300, 301, 302, 303, 304, 305, 306, 307, 308, 309, 310, 311, 312, 313, 314, 315, 316, 317, 318, 319, 320, 321, 322, 323, 324] (by decide +kernel) (by decide +kernel)
set_option maxRecDepth 20000 in
theorem gX10_gates_X10_alarmedWeight : GoodIn wsX10_gates (wsV RX10 418 RX10 yX10_alarmedWeight wsX10_alarmedWeight) := goodIn_app (goodIn_of _ (by decide +kernel)) ggX10_gates_X10_alarmedWeight
set_option maxRecDepth 20000 in
theorem ggX10_gates_J6_bitCount_0f7a4 : GoodIn wsX10_gates wsJ6_bitCount_0f7a4 := goodIn_r _ [252, 253, 254, 255] (by decide +kernel) (by decide +kernel)
set_option maxRecDepth 20000 in
theorem gX10_gates_J6_bitCount_0f7a4 : GoodIn wsX10_gates (va_wsS RX10 434 yJ6_bitCount_0f7a4 wsJ6_bitCount_0f7a4) := goodIn_app (goodIn_of _ (by decide +kernel)) ggX10_gates_J6_bitCount_0f7a4
set_option maxRecDepth 20000 in
theorem ggX10_gates_X10_allWeights : GoodIn wsX10_gates wsX10_allWeights := goodIn_r _ [38, 39, 40, 262, 263, 264, 265, 266, 267, 268, 269, 270, 271, 272, 273, 274, 275, 276, 277, 278, 279, 280] (by decide +kernel) (by decide +kernel)
set_option maxRecDepth 20000 in
theorem gX10_gates_X10_allWeights : GoodIn wsX10_gates (wsV RX10 422 RX10 yX10_allWeights wsX10_allWeights) := goodIn_app (goodIn_of _ (by decide +kernel)) ggX10_gates_X10_allWeights
set_option maxRecDepth 20000 in
theorem ggX10_gates_X10_tellFraction : GoodIn wsX10_gates wsX10_tellFraction := goodIn_r _ [259, 260, 261, 262, 263, 264, 265, 266, 267, 268, 269, 270, 271, 272, 273, 274, 275, 276, 277, 278, 279, 280] (by decide +kernel) (by decide +kernel)
set_option maxRecDepth 20000 in
theorem gX10_gates_X10_tellFraction : GoodIn wsX10_gates (wsV RX10 425 RX10 yX10_tellFraction wsX10_tellFraction) := goodIn_app (goodIn_of _ (by decide +kernel)) ggX10_gates_X10_tellFraction
theorem dX10_gates_0 : decode cX10_gates 0 = .ok (.aload_n 0, 1) := by decide +kernel
theorem dX10_gates_1 : decode cX10_gates 1 = .ok (.iload_n 1, 1) := by decide +kernel
theorem dX10_gates_2 : decode cX10_gates 2 = .ok (.iload_n 2, 1) := by decide +kernel
theorem dX10_gates_3 : decode cX10_gates 3 = .ok (.iload_n 3, 1) := by decide +kernel
theorem dX10_gates_4 : decode cX10_gates 4 = .ok (.invokevirtual 415, 3) := by decide +kernel
theorem dX10_gates_7 : decode cX10_gates 7 = .ok (.istore 4, 2) := by decide +kernel
theorem dX10_gates_9 : decode cX10_gates 9 = .ok (.iload 4, 2) := by decide +kernel
theorem dX10_gates_11 : decode cX10_gates 11 = .ok (.ifCond .eq 6, 3) := by decide +kernel
theorem dX10_gates_14 : decode cX10_gates 14 = .ok (.iload 4, 2) := by decide +kernel
theorem dX10_gates_16 : decode cX10_gates 16 = .ok (.ireturn, 1) := by decide +kernel
theorem dX10_gates_17 : decode cX10_gates 17 = .ok (.iconst 0, 1) := by decide +kernel
theorem dX10_gates_18 : decode cX10_gates 18 = .ok (.istore 5, 2) := by decide +kernel
theorem dX10_gates_20 : decode cX10_gates 20 = .ok (.aload_n 0, 1) := by decide +kernel
theorem dX10_gates_21 : decode cX10_gates 21 = .ok (.iload_n 1, 1) := by decide +kernel
theorem dX10_gates_22 : decode cX10_gates 22 = .ok (.iload_n 2, 1) := by decide +kernel
theorem dX10_gates_23 : decode cX10_gates 23 = .ok (.iload_n 3, 1) := by decide +kernel
theorem dX10_gates_24 : decode cX10_gates 24 = .ok (.iconst 0, 1) := by decide +kernel
theorem dX10_gates_25 : decode cX10_gates 25 = .ok (.invokevirtual 418, 3) := by decide +kernel
theorem dX10_gates_28 : decode cX10_gates 28 = .ok (.istore 6, 2) := by decide +kernel
theorem dX10_gates_30 : decode cX10_gates 30 = .ok (.iconst 1, 1) := by decide +kernel
theorem dX10_gates_31 : decode cX10_gates 31 = .ok (.istore 7, 2) := by decide +kernel
theorem dX10_gates_33 : decode cX10_gates 33 = .ok (.iload 7, 2) := by decide +kernel
theorem dX10_gates_35 : decode cX10_gates 35 = .ok (.iconst 1, 1) := by decide +kernel
theorem dX10_gates_36 : decode cX10_gates 36 = .ok (.aload_n 0, 1) := by decide +kernel
theorem dX10_gates_37 : decode cX10_gates 37 = .ok (.getfield 30, 3) := by decide +kernel
theorem dX10_gates_40 : decode cX10_gates 40 = .ok (.iload_n 1, 1) := by decide +kernel
theorem dX10_gates_41 : decode cX10_gates 41 = .ok (.aaload, 1) := by decide +kernel
theorem dX10_gates_42 : decode cX10_gates 42 = .ok (.getfield 428, 3) := by decide +kernel
theorem dX10_gates_45 : decode cX10_gates 45 = .ok (.ishl, 1) := by decide +kernel
theorem dX10_gates_46 : decode cX10_gates 46 = .ok (.if_icmp .ge 67, 3) := by decide +kernel
theorem dX10_gates_49 : decode cX10_gates 49 = .ok (.aload_n 0, 1) := by decide +kernel
theorem dX10_gates_50 : decode cX10_gates 50 = .ok (.iload_n 1, 1) := by decide +kernel
theorem dX10_gates_51 : decode cX10_gates 51 = .ok (.iload_n 2, 1) := by decide +kernel
theorem dX10_gates_52 : decode cX10_gates 52 = .ok (.iload_n 3, 1) := by decide +kernel
theorem dX10_gates_53 : decode cX10_gates 53 = .ok (.iload 7, 2) := by decide +kernel
theorem dX10_gates_55 : decode cX10_gates 55 = .ok (.invokevirtual 418, 3) := by decide +kernel
theorem dX10_gates_58 : decode cX10_gates 58 = .ok (.istore 8, 2) := by decide +kernel
theorem dX10_gates_60 : decode cX10_gates 60 = .ok (.iload 7, 2) := by decide +kernel
theorem dX10_gates_62 : decode cX10_gates 62 = .ok (.invokestatic 434, 3) := by decide +kernel
theorem dX10_gates_65 : decode cX10_gates 65 = .ok (.iload 5, 2) := by decide +kernel
theorem dX10_gates_67 : decode cX10_gates 67 = .ok (.invokestatic 434, 3) := by decide +kernel
theorem dX10_gates_70 : decode cX10_gates 70 = .ok (.if_icmp .ge 7, 3) := by decide +kernel
theorem dX10_gates_73 : decode cX10_gates 73 = .ok (.iconst 1, 1) := by decide +kernel
theorem dX10_gates_74 : decode cX10_gates 74 = .ok (.goto 4, 3) := by decide +kernel
theorem dX10_gates_77 : decode cX10_gates 77 = .ok (.iconst 0, 1) := by decide +kernel
theorem dX10_gates_78 : decode cX10_gates 78 = .ok (.istore 9, 2) := by decide +kernel
theorem dX10_gates_80 : decode cX10_gates 80 = .ok (.iload 8, 2) := by decide +kernel
theorem dX10_gates_82 : decode cX10_gates 82 = .ok (.iload 6, 2) := by decide +kernel
theorem dX10_gates_84 : decode cX10_gates 84 = .ok (.if_icmp .lt 15, 3) := by decide +kernel
theorem dX10_gates_87 : decode cX10_gates 87 = .ok (.iload 8, 2) := by decide +kernel
theorem dX10_gates_89 : decode cX10_gates 89 = .ok (.iload 6, 2) := by decide +kernel
theorem dX10_gates_91 : decode cX10_gates 91 = .ok (.if_icmp .ne 16, 3) := by decide +kernel
theorem dX10_gates_94 : decode cX10_gates 94 = .ok (.iload 9, 2) := by decide +kernel
theorem dX10_gates_96 : decode cX10_gates 96 = .ok (.ifCond .eq 11, 3) := by decide +kernel
theorem dX10_gates_99 : decode cX10_gates 99 = .ok (.iload 8, 2) := by decide +kernel
theorem dX10_gates_101 : decode cX10_gates 101 = .ok (.istore 6, 2) := by decide +kernel
theorem dX10_gates_103 : decode cX10_gates 103 = .ok (.iload 7, 2) := by decide +kernel
theorem dX10_gates_105 : decode cX10_gates 105 = .ok (.istore 5, 2) := by decide +kernel
theorem dX10_gates_107 : decode cX10_gates 107 = .ok (.iinc 7 1, 3) := by decide +kernel
theorem dX10_gates_110 : decode cX10_gates 110 = .ok (.goto (-77), 3) := by decide +kernel
theorem dX10_gates_113 : decode cX10_gates 113 = .ok (.aload_n 0, 1) := by decide +kernel
theorem dX10_gates_114 : decode cX10_gates 114 = .ok (.iload 6, 2) := by decide +kernel
theorem dX10_gates_116 : decode cX10_gates 116 = .ok (.aload_n 0, 1) := by decide +kernel
theorem dX10_gates_117 : decode cX10_gates 117 = .ok (.invokevirtual 422, 3) := by decide +kernel
theorem dX10_gates_120 : decode cX10_gates 120 = .ok (.invokevirtual 425, 3) := by decide +kernel
theorem dX10_gates_123 : decode cX10_gates 123 = .ok (.iload 5, 2) := by decide +kernel
theorem dX10_gates_125 : decode cX10_gates 125 = .ok (.ireturn, 1) := by decide +kernel
set_option maxRecDepth 20000 in
theorem ggX10_fitRefused_X10_isBoard : GoodIn wsX10_fitRefused wsX10_isBoard := goodIn_r _ [6] (by decide +kernel) (by decide +kernel)
set_option maxRecDepth 20000 in
theorem gX10_fitRefused_X10_isBoard : GoodIn wsX10_fitRefused (va_wsS RX10 157 yX10_isBoard wsX10_isBoard) := goodIn_app (goodIn_of _ (by decide +kernel)) ggX10_fitRefused_X10_isBoard
set_option maxRecDepth 20000 in
theorem ggX10_fitRefused_X7_isThere : GoodIn wsX10_fitRefused wsX7_isThere := goodIn_r _ [11, 12, 68, 69] (by decide +kernel) (by decide +kernel)
set_option maxRecDepth 20000 in
theorem gX10_fitRefused_X7_isThere : GoodIn wsX10_fitRefused (wsV RX10 105 RX7 yX7_isThere wsX7_isThere) := goodIn_app (goodIn_of _ (by decide +kernel)) ggX10_fitRefused_X7_isThere
set_option maxRecDepth 20000 in
theorem ggX10_fitRefused_X10_found : GoodIn wsX10_fitRefused wsX10_found := goodIn_r _ [16, 17, 18, 30, 31, 32, 33, 34, 35, 36, 37, 38, 39, 40, 41, 42, 43, 44, 45, 46, 47, 48] (by decide +kernel) (by decide +kernel)
set_option maxRecDepth 20000 in
theorem gX10_fitRefused_X10_found : GoodIn wsX10_fitRefused (wsV RX10 91 RX10 yX10_found wsX10_found) := goodIn_app (goodIn_of _ (by decide +kernel)) ggX10_fitRefused_X10_found
set_option maxRecDepth 20000 in
theorem ggX10_fitRefused_X0_hasCell : GoodIn wsX10_fitRefused wsX0_hasCell := goodIn_r _ [23, 24, 25, 49, 50, 51, 52, 53, 54, 55, 56, 57, 58, 59, 60, 61, 62, 63, 64, 65, 66, 67] (by decide +kernel) (by decide +kernel)
set_option maxRecDepth 20000 in
theorem gX10_fitRefused_X0_hasCell : GoodIn wsX10_fitRefused (wsV RX10 228 RX0 yX0_hasCell wsX0_hasCell) := goodIn_app (goodIn_of _ (by decide +kernel)) ggX10_fitRefused_X0_hasCell
set_option maxRecDepth 20000 in
theorem ggX10_fitRefused_X10_knownPlaces : GoodIn wsX10_fitRefused wsX10_knownPlaces := goodIn_r _ [29, 2, 30, 31, 32, 33, 34, 35, 36, 37, 38, 39, 40, 41, 42, 43, 44, 45, 46, 47, 48, 68, 69] (by decide +kernel) (by decide +kernel)
set_option maxRecDepth 20000 in
theorem gX10_fitRefused_X10_knownPlaces : GoodIn wsX10_fitRefused (wsV RX10 133 RX10 yX10_knownPlaces wsX10_knownPlaces) := goodIn_app (goodIn_of _ (by decide +kernel)) ggX10_fitRefused_X10_knownPlaces
theorem dX10_fitRefused_0 : decode cX10_fitRefused 0 = .ok (.iload_n 1, 1) := by decide +kernel
theorem dX10_fitRefused_1 : decode cX10_fitRefused 1 = .ok (.ifCond .eq 10, 3) := by decide +kernel
theorem dX10_fitRefused_4 : decode cX10_fitRefused 4 = .ok (.iload_n 2, 1) := by decide +kernel
theorem dX10_fitRefused_5 : decode cX10_fitRefused 5 = .ok (.invokestatic 157, 3) := by decide +kernel
theorem dX10_fitRefused_8 : decode cX10_fitRefused 8 = .ok (.ifCond .ne 5, 3) := by decide +kernel
theorem dX10_fitRefused_11 : decode cX10_fitRefused 11 = .ok (.iconst (-1), 1) := by decide +kernel
theorem dX10_fitRefused_12 : decode cX10_fitRefused 12 = .ok (.ireturn, 1) := by decide +kernel
theorem dX10_fitRefused_13 : decode cX10_fitRefused 13 = .ok (.aload_n 0, 1) := by decide +kernel
theorem dX10_fitRefused_14 : decode cX10_fitRefused 14 = .ok (.getfield 30, 3) := by decide +kernel
theorem dX10_fitRefused_17 : decode cX10_fitRefused 17 = .ok (.iload_n 2, 1) := by decide +kernel
theorem dX10_fitRefused_18 : decode cX10_fitRefused 18 = .ok (.aaload, 1) := by decide +kernel
theorem dX10_fitRefused_19 : decode cX10_fitRefused 19 = .ok (.getfield 305, 3) := by decide +kernel
theorem dX10_fitRefused_22 : decode cX10_fitRefused 22 = .ok (.ifCond .eq 15, 3) := by decide +kernel
theorem dX10_fitRefused_25 : decode cX10_fitRefused 25 = .ok (.aload_n 0, 1) := by decide +kernel
theorem dX10_fitRefused_26 : decode cX10_fitRefused 26 = .ok (.getfield 14, 3) := by decide +kernel
theorem dX10_fitRefused_29 : decode cX10_fitRefused 29 = .ok (.iload 4, 2) := by decide +kernel
theorem dX10_fitRefused_31 : decode cX10_fitRefused 31 = .ok (.invokevirtual 105, 3) := by decide +kernel
theorem dX10_fitRefused_34 : decode cX10_fitRefused 34 = .ok (.ifCond .ne 9, 3) := by decide +kernel
theorem dX10_fitRefused_37 : decode cX10_fitRefused 37 = .ok (.aload_n 0, 1) := by decide +kernel
theorem dX10_fitRefused_38 : decode cX10_fitRefused 38 = .ok (.iconst 1, 1) := by decide +kernel
theorem dX10_fitRefused_39 : decode cX10_fitRefused 39 = .ok (.invokevirtual 91, 3) := by decide +kernel
theorem dX10_fitRefused_42 : decode cX10_fitRefused 42 = .ok (.ireturn, 1) := by decide +kernel
theorem dX10_fitRefused_43 : decode cX10_fitRefused 43 = .ok (.aload_n 0, 1) := by decide +kernel
theorem dX10_fitRefused_44 : decode cX10_fitRefused 44 = .ok (.getfield 30, 3) := by decide +kernel
theorem dX10_fitRefused_47 : decode cX10_fitRefused 47 = .ok (.iload_n 2, 1) := by decide +kernel
theorem dX10_fitRefused_48 : decode cX10_fitRefused 48 = .ok (.aaload, 1) := by decide +kernel
theorem dX10_fitRefused_49 : decode cX10_fitRefused 49 = .ok (.iload_n 3, 1) := by decide +kernel
theorem dX10_fitRefused_50 : decode cX10_fitRefused 50 = .ok (.invokevirtual 228, 3) := by decide +kernel
theorem dX10_fitRefused_53 : decode cX10_fitRefused 53 = .ok (.ifCond .ne 9, 3) := by decide +kernel
theorem dX10_fitRefused_56 : decode cX10_fitRefused 56 = .ok (.aload_n 0, 1) := by decide +kernel
theorem dX10_fitRefused_57 : decode cX10_fitRefused 57 = .ok (.iconst 2, 1) := by decide +kernel
theorem dX10_fitRefused_58 : decode cX10_fitRefused 58 = .ok (.invokevirtual 91, 3) := by decide +kernel
theorem dX10_fitRefused_61 : decode cX10_fitRefused 61 = .ok (.ireturn, 1) := by decide +kernel
theorem dX10_fitRefused_62 : decode cX10_fitRefused 62 = .ok (.aload_n 0, 1) := by decide +kernel
theorem dX10_fitRefused_63 : decode cX10_fitRefused 63 = .ok (.iload 4, 2) := by decide +kernel
theorem dX10_fitRefused_65 : decode cX10_fitRefused 65 = .ok (.invokevirtual 133, 3) := by decide +kernel
theorem dX10_fitRefused_68 : decode cX10_fitRefused 68 = .ok (.ifCond .ne 11, 3) := by decide +kernel
theorem dX10_fitRefused_71 : decode cX10_fitRefused 71 = .ok (.aload_n 0, 1) := by decide +kernel
theorem dX10_fitRefused_72 : decode cX10_fitRefused 72 = .ok (.iconst 4, 1) := by decide +kernel
theorem dX10_fitRefused_73 : decode cX10_fitRefused 73 = .ok (.invokevirtual 91, 3) := by decide +kernel
theorem dX10_fitRefused_76 : decode cX10_fitRefused 76 = .ok (.goto 4, 3) := by decide +kernel
theorem dX10_fitRefused_79 : decode cX10_fitRefused 79 = .ok (.iconst 0, 1) := by decide +kernel
theorem dX10_fitRefused_80 : decode cX10_fitRefused 80 = .ok (.ireturn, 1) := by decide +kernel
set_option maxRecDepth 20000 in
theorem ggX10_bestPull_X0_takeOver : GoodIn wsX10_bestPull wsX0_takeOver := goodIn_r _ [8, 9, 10, 11, 12, 13, 14, 15, 16, 17, 18, 19, 20, 21, 22, 23, 24, 25, 26, 27, 28, 29, 30, 31, 32, 33, 34, 35, 36, 37, 38, 39, 40, 41, 42, 43, 44, 45, 46, 47, 48, 178, 179, 180, 181, 182, 183, 184, 185, 186, 187, 188, 189, 190, 191, 192, 193, 194, 195, 196, 201, 202, 203, 204, 205, 206, 207, 208, 197, 198, 199, 200] (by decide +kernel) (by decide +kernel)
set_option maxRecDepth 20000 in
theorem gX10_bestPull_X0_takeOver : GoodIn wsX10_bestPull (wsV RX10 272 RX0 yX0_takeOver wsX0_takeOver) := goodIn_app (goodIn_of _ (by decide +kernel)) ggX10_bestPull_X0_takeOver
set_option maxRecDepth 20000 in
theorem ggX10_bestPull_X10_misfitOfTrial : GoodIn wsX10_bestPull wsX10_misfitOfTrial := goodIn_r _ [53, 54, 55, 1, 56, 57, 58, 59, 60, 61, 62, 63, 64, 65, 66, 24, 25, 26, 67, 68, 69, 70, 71, 72, 73, 74, 7, 75, 11, 12, 76, 77, 78, 79, 80, 81, 82, 83, 84, 85, 86, 87, 88, 89, 90, 91, 22, 27, 92, 93, 94, 95, 10, 20, 96, 97, 98, 99, 100, 101, 102, 103, 104, 105, 106, 107, 108, 109, 110, 111, 112, 113, 114, 115, 116, 117, 118, 119, 120, 121, 122, 123, 124, 125, 126, 127, 128, 129, 130, 16, 131, 132, 133, 134, 135, 136, 137, 138, 139, 140, 141, 142, 143, 144, 13, 17, 145, 146, 147, 148, 149, 150, 151, 152, 153, 154, 155, 156, 157, 158, 159, 160, 161, 162, 163, 164, 165, 166, 167, 168, 169, 170, 171, 172, 173, 174, 175, 176, 177, 209, 210, 211, 212, 213, 214, 178, 179, 180, 181, 182, 183, 184, 185, 186, 187, 188, 189, 190, 191, 192, 193, 194, 195, 196, 197, 198, 199, 200, 206, 207, 208] (by decide +kernel) (by decide +kernel)
set_option maxRecDepth 20000 in
theorem gX10_bestPull_X10_misfitOfTrial : GoodIn wsX10_bestPull (wsV RX10 439 RX10 yX10_misfitOfTrial wsX10_misfitOfTrial) := goodIn_app (goodIn_of _ (by decide +kernel)) ggX10_bestPull_X10_misfitOfTrial
theorem dX10_bestPull_0 : decode cX10_bestPull 0 = .ok (.bipush (-9), 2) := by decide +kernel
theorem dX10_bestPull_2 : decode cX10_bestPull 2 = .ok (.istore 4, 2) := by decide +kernel
theorem dX10_bestPull_4 : decode cX10_bestPull 4 = .ok (.iconst 1, 1) := by decide +kernel
theorem dX10_bestPull_5 : decode cX10_bestPull 5 = .ok (.istore 5, 2) := by decide +kernel
theorem dX10_bestPull_7 : decode cX10_bestPull 7 = .ok (.iload 5, 2) := by decide +kernel
theorem dX10_bestPull_9 : decode cX10_bestPull 9 = .ok (.bipush 8, 2) := by decide +kernel
theorem dX10_bestPull_11 : decode cX10_bestPull 11 = .ok (.if_icmp .gt 99, 3) := by decide +kernel
theorem dX10_bestPull_14 : decode cX10_bestPull 14 = .ok (.aload_n 0, 1) := by decide +kernel
theorem dX10_bestPull_15 : decode cX10_bestPull 15 = .ok (.getfield 35, 3) := by decide +kernel
theorem dX10_bestPull_18 : decode cX10_bestPull 18 = .ok (.aload_n 0, 1) := by decide +kernel
theorem dX10_bestPull_19 : decode cX10_bestPull 19 = .ok (.getfield 30, 3) := by decide +kernel
theorem dX10_bestPull_22 : decode cX10_bestPull 22 = .ok (.iload_n 1, 1) := by decide +kernel
theorem dX10_bestPull_23 : decode cX10_bestPull 23 = .ok (.aaload, 1) := by decide +kernel
theorem dX10_bestPull_24 : decode cX10_bestPull 24 = .ok (.invokevirtual 272, 3) := by decide +kernel
theorem dX10_bestPull_27 : decode cX10_bestPull 27 = .ok (.aload_n 0, 1) := by decide +kernel
theorem dX10_bestPull_28 : decode cX10_bestPull 28 = .ok (.getfield 35, 3) := by decide +kernel
theorem dX10_bestPull_31 : decode cX10_bestPull 31 = .ok (.getfield 201, 3) := by decide +kernel
theorem dX10_bestPull_34 : decode cX10_bestPull 34 = .ok (.iload 5, 2) := by decide +kernel
theorem dX10_bestPull_36 : decode cX10_bestPull 36 = .ok (.putfield 205, 3) := by decide +kernel
theorem dX10_bestPull_39 : decode cX10_bestPull 39 = .ok (.aload_n 0, 1) := by decide +kernel
theorem dX10_bestPull_40 : decode cX10_bestPull 40 = .ok (.getfield 75, 3) := by decide +kernel
theorem dX10_bestPull_43 : decode cX10_bestPull 43 = .ok (.iload 5, 2) := by decide +kernel
theorem dX10_bestPull_45 : decode cX10_bestPull 45 = .ok (.aload_n 0, 1) := by decide +kernel
theorem dX10_bestPull_46 : decode cX10_bestPull 46 = .ok (.iload_n 2, 1) := by decide +kernel
theorem dX10_bestPull_47 : decode cX10_bestPull 47 = .ok (.iload_n 3, 1) := by decide +kernel
theorem dX10_bestPull_48 : decode cX10_bestPull 48 = .ok (.invokevirtual 439, 3) := by decide +kernel
theorem dX10_bestPull_51 : decode cX10_bestPull 51 = .ok (.iastore, 1) := by decide +kernel
theorem dX10_bestPull_52 : decode cX10_bestPull 52 = .ok (.iload 4, 2) := by decide +kernel
theorem dX10_bestPull_54 : decode cX10_bestPull 54 = .ok (.bipush (-9), 2) := by decide +kernel
theorem dX10_bestPull_56 : decode cX10_bestPull 56 = .ok (.if_icmp .eq 20, 3) := by decide +kernel
theorem dX10_bestPull_59 : decode cX10_bestPull 59 = .ok (.aload_n 0, 1) := by decide +kernel
theorem dX10_bestPull_60 : decode cX10_bestPull 60 = .ok (.getfield 75, 3) := by decide +kernel
theorem dX10_bestPull_63 : decode cX10_bestPull 63 = .ok (.iload 5, 2) := by decide +kernel
theorem dX10_bestPull_65 : decode cX10_bestPull 65 = .ok (.iaload, 1) := by decide +kernel
theorem dX10_bestPull_66 : decode cX10_bestPull 66 = .ok (.aload_n 0, 1) := by decide +kernel
theorem dX10_bestPull_67 : decode cX10_bestPull 67 = .ok (.getfield 75, 3) := by decide +kernel
theorem dX10_bestPull_70 : decode cX10_bestPull 70 = .ok (.iload 4, 2) := by decide +kernel
theorem dX10_bestPull_72 : decode cX10_bestPull 72 = .ok (.iaload, 1) := by decide +kernel
theorem dX10_bestPull_73 : decode cX10_bestPull 73 = .ok (.if_icmp .ge 7, 3) := by decide +kernel
theorem dX10_bestPull_76 : decode cX10_bestPull 76 = .ok (.iconst 1, 1) := by decide +kernel
theorem dX10_bestPull_77 : decode cX10_bestPull 77 = .ok (.goto 4, 3) := by decide +kernel
theorem dX10_bestPull_80 : decode cX10_bestPull 80 = .ok (.iconst 0, 1) := by decide +kernel
theorem dX10_bestPull_81 : decode cX10_bestPull 81 = .ok (.istore 6, 2) := by decide +kernel
theorem dX10_bestPull_83 : decode cX10_bestPull 83 = .ok (.aload_n 0, 1) := by decide +kernel
theorem dX10_bestPull_84 : decode cX10_bestPull 84 = .ok (.getfield 75, 3) := by decide +kernel
theorem dX10_bestPull_87 : decode cX10_bestPull 87 = .ok (.iload 5, 2) := by decide +kernel
theorem dX10_bestPull_89 : decode cX10_bestPull 89 = .ok (.iaload, 1) := by decide +kernel
theorem dX10_bestPull_90 : decode cX10_bestPull 90 = .ok (.bipush (-9), 2) := by decide +kernel
theorem dX10_bestPull_92 : decode cX10_bestPull 92 = .ok (.if_icmp .eq 12, 3) := by decide +kernel
theorem dX10_bestPull_95 : decode cX10_bestPull 95 = .ok (.iload 6, 2) := by decide +kernel
theorem dX10_bestPull_97 : decode cX10_bestPull 97 = .ok (.ifCond .eq 7, 3) := by decide +kernel
theorem dX10_bestPull_100 : decode cX10_bestPull 100 = .ok (.iload 5, 2) := by decide +kernel
theorem dX10_bestPull_102 : decode cX10_bestPull 102 = .ok (.istore 4, 2) := by decide +kernel
theorem dX10_bestPull_104 : decode cX10_bestPull 104 = .ok (.iinc 5 1, 3) := by decide +kernel
theorem dX10_bestPull_107 : decode cX10_bestPull 107 = .ok (.goto (-100), 3) := by decide +kernel
theorem dX10_bestPull_110 : decode cX10_bestPull 110 = .ok (.iload 4, 2) := by decide +kernel
theorem dX10_bestPull_112 : decode cX10_bestPull 112 = .ok (.ireturn, 1) := by decide +kernel
set_option maxRecDepth 20000 in
theorem ggX10_misfitOfTrial_X8_advance : GoodIn wsX10_misfitOfTrial wsX8_advance := goodIn_r _ [12, 13, 14, 15, 16, 17, 18, 19, 20, 21, 11, 22, 23, 24, 25, 26, 27, 28, 29, 30, 31, 32, 33, 34, 35, 36, 37, 38, 39, 40, 41, 42, 43, 44, 45, 46, 47, 48, 49, 50, 51, 52, 53, 54, 55, 56, 57, 58, 59, 5, 6, 7, 60, 61, 62, 63, 64, 65, 66, 67, 68, 69, 70, 71, 72, 73, 74, 75, 76, 77, 78, 79, 80, 81, 82, 83, 84, 85, 86, 87, 88, 89, 90, 91, 92, 93, 94, 95, 96, 97, 98, 99, 100, 101, 102, 103, 104, 105, 106, 107, 108, 109, 110, 111, 112, 113, 114, 115, 116, 117, 118, 141, 142, 143, 144, 145, 146, 147, 148, 149, 150, 151, 152, 153, 154, 155, 156, 157, 158, 159, 160, 161, 162, 163, 164, 165, 166, 167, 168, 169, 170, 139, 140] (by decide +kernel) (by decide +kernel)
set_option maxRecDepth 20000 in
theorem gX10_misfitOfTrial_X8_advance : GoodIn wsX10_misfitOfTrial (wsV RX10 295 RX8 yX8_advance wsX8_advance) := goodIn_app (goodIn_of _ (by decide +kernel)) ggX10_misfitOfTrial_X8_advance
set_option maxRecDepth 20000 in
theorem ggX10_misfitOfTrial_X0_level : GoodIn wsX10_misfitOfTrial wsX0_level := goodIn_r _ [45, 46, 47, 145, 146, 147, 148, 149, 150, 151, 152, 153, 154, 155, 156, 157, 158, 159, 160, 161, 162, 163] (by decide +kernel) (by decide +kernel)
set_option maxRecDepth 20000 in
theorem gX10_misfitOfTrial_X0_level : GoodIn wsX10_misfitOfTrial (wsV RX10 187 RX0 yX0_level wsX0_level) := goodIn_app (goodIn_of _ (by decide +kernel)) ggX10_misfitOfTrial_X0_level
theorem dX10_misfitOfTrial_0 : decode cX10_misfitOfTrial 0 = .ok (.iconst 0, 1) := by decide +kernel
theorem dX10_misfitOfTrial_1 : decode cX10_misfitOfTrial 1 = .ok (.istore_n 3, 1) := by decide +kernel
theorem dX10_misfitOfTrial_2 : decode cX10_misfitOfTrial 2 = .ok (.iconst 0, 1) := by decide +kernel
theorem dX10_misfitOfTrial_3 : decode cX10_misfitOfTrial 3 = .ok (.istore 4, 2) := by decide +kernel
theorem dX10_misfitOfTrial_5 : decode cX10_misfitOfTrial 5 = .ok (.iload 4, 2) := by decide +kernel
theorem dX10_misfitOfTrial_7 : decode cX10_misfitOfTrial 7 = .ok (.aload_n 0, 1) := by decide +kernel
theorem dX10_misfitOfTrial_8 : decode cX10_misfitOfTrial 8 = .ok (.getfield 14, 3) := by decide +kernel
theorem dX10_misfitOfTrial_11 : decode cX10_misfitOfTrial 11 = .ok (.getfield 136, 3) := by decide +kernel
theorem dX10_misfitOfTrial_14 : decode cX10_misfitOfTrial 14 = .ok (.iload_n 2, 1) := by decide +kernel
theorem dX10_misfitOfTrial_15 : decode cX10_misfitOfTrial 15 = .ok (.iaload, 1) := by decide +kernel
theorem dX10_misfitOfTrial_16 : decode cX10_misfitOfTrial 16 = .ok (.if_icmp .ge 68, 3) := by decide +kernel
theorem dX10_misfitOfTrial_19 : decode cX10_misfitOfTrial 19 = .ok (.aload_n 0, 1) := by decide +kernel
theorem dX10_misfitOfTrial_20 : decode cX10_misfitOfTrial 20 = .ok (.getfield 42, 3) := by decide +kernel
theorem dX10_misfitOfTrial_23 : decode cX10_misfitOfTrial 23 = .ok (.aload_n 0, 1) := by decide +kernel
theorem dX10_misfitOfTrial_24 : decode cX10_misfitOfTrial 24 = .ok (.getfield 35, 3) := by decide +kernel
theorem dX10_misfitOfTrial_27 : decode cX10_misfitOfTrial 27 = .ok (.aload_n 0, 1) := by decide +kernel
theorem dX10_misfitOfTrial_28 : decode cX10_misfitOfTrial 28 = .ok (.getfield 14, 3) := by decide +kernel
theorem dX10_misfitOfTrial_31 : decode cX10_misfitOfTrial 31 = .ok (.invokevirtual 295, 3) := by decide +kernel
theorem dX10_misfitOfTrial_34 : decode cX10_misfitOfTrial 34 = .ok (.ifCond .ne 6, 3) := by decide +kernel
theorem dX10_misfitOfTrial_37 : decode cX10_misfitOfTrial 37 = .ok (.bipush (-9), 2) := by decide +kernel
theorem dX10_misfitOfTrial_39 : decode cX10_misfitOfTrial 39 = .ok (.ireturn, 1) := by decide +kernel
theorem dX10_misfitOfTrial_40 : decode cX10_misfitOfTrial 40 = .ok (.aload_n 0, 1) := by decide +kernel
theorem dX10_misfitOfTrial_41 : decode cX10_misfitOfTrial 41 = .ok (.getfield 14, 3) := by decide +kernel
theorem dX10_misfitOfTrial_44 : decode cX10_misfitOfTrial 44 = .ok (.getfield 112, 3) := by decide +kernel
theorem dX10_misfitOfTrial_47 : decode cX10_misfitOfTrial 47 = .ok (.iload_n 2, 1) := by decide +kernel
theorem dX10_misfitOfTrial_48 : decode cX10_misfitOfTrial 48 = .ok (.aaload, 1) := by decide +kernel
theorem dX10_misfitOfTrial_49 : decode cX10_misfitOfTrial 49 = .ok (.iload 4, 2) := by decide +kernel
theorem dX10_misfitOfTrial_51 : decode cX10_misfitOfTrial 51 = .ok (.iaload, 1) := by decide +kernel
theorem dX10_misfitOfTrial_52 : decode cX10_misfitOfTrial 52 = .ok (.istore 5, 2) := by decide +kernel
theorem dX10_misfitOfTrial_54 : decode cX10_misfitOfTrial 54 = .ok (.iload 5, 2) := by decide +kernel
theorem dX10_misfitOfTrial_56 : decode cX10_misfitOfTrial 56 = .ok (.bipush (-9), 2) := by decide +kernel
theorem dX10_misfitOfTrial_58 : decode cX10_misfitOfTrial 58 = .ok (.if_icmp .eq 20, 3) := by decide +kernel
theorem dX10_misfitOfTrial_61 : decode cX10_misfitOfTrial 61 = .ok (.iload_n 3, 1) := by decide +kernel
theorem dX10_misfitOfTrial_62 : decode cX10_misfitOfTrial 62 = .ok (.aload_n 0, 1) := by decide +kernel
theorem dX10_misfitOfTrial_63 : decode cX10_misfitOfTrial 63 = .ok (.getfield 35, 3) := by decide +kernel
theorem dX10_misfitOfTrial_66 : decode cX10_misfitOfTrial 66 = .ok (.iload_n 1, 1) := by decide +kernel
theorem dX10_misfitOfTrial_67 : decode cX10_misfitOfTrial 67 = .ok (.invokevirtual 187, 3) := by decide +kernel
theorem dX10_misfitOfTrial_70 : decode cX10_misfitOfTrial 70 = .ok (.iload 5, 2) := by decide +kernel
theorem dX10_misfitOfTrial_72 : decode cX10_misfitOfTrial 72 = .ok (.isub, 1) := by decide +kernel
theorem dX10_misfitOfTrial_73 : decode cX10_misfitOfTrial 73 = .ok (.invokestatic 442, 3) := by decide +kernel
theorem dX10_misfitOfTrial_76 : decode cX10_misfitOfTrial 76 = .ok (.iadd, 1) := by decide +kernel
theorem dX10_misfitOfTrial_77 : decode cX10_misfitOfTrial 77 = .ok (.istore_n 3, 1) := by decide +kernel
theorem dX10_misfitOfTrial_78 : decode cX10_misfitOfTrial 78 = .ok (.iinc 4 1, 3) := by decide +kernel
theorem dX10_misfitOfTrial_81 : decode cX10_misfitOfTrial 81 = .ok (.goto (-76), 3) := by decide +kernel
theorem dX10_misfitOfTrial_84 : decode cX10_misfitOfTrial 84 = .ok (.iload_n 3, 1) := by decide +kernel
theorem dX10_misfitOfTrial_85 : decode cX10_misfitOfTrial 85 = .ok (.ireturn, 1) := by decide +kernel
set_option maxRecDepth 20000 in
theorem ggX10_alarmRefused_X10_within : GoodIn wsX10_alarmRefused wsX10_within := goodIn_r _ [5] (by decide +kernel) (by decide +kernel)
set_option maxRecDepth 20000 in
theorem gX10_alarmRefused_X10_within : GoodIn wsX10_alarmRefused (va_wsS RX10 101 yX10_within wsX10_within) := goodIn_app (goodIn_of _ (by decide +kernel)) ggX10_alarmRefused_X10_within
set_option maxRecDepth 20000 in
theorem ggX10_alarmRefused_X10_cellRefused : GoodIn wsX10_alarmRefused wsX10_cellRefused := goodIn_r _ [9, 10, 11, 12, 13, 4, 14, 15, 16, 17, 18, 19, 20, 21, 22, 23, 24, 25, 26, 27, 28, 29, 30, 37, 38, 39, 40, 41, 42, 43, 44, 45, 46, 47, 48, 49, 50, 51, 52, 53, 54, 55, 56, 57, 58, 59, 60, 61, 62, 63, 64, 65, 66, 67, 68, 69, 70, 71, 72, 73, 74] (by decide +kernel) (by decide +kernel)
set_option maxRecDepth 20000 in
theorem gX10_alarmRefused_X10_cellRefused : GoodIn wsX10_alarmRefused (wsV RX10 174 RX10 yX10_cellRefused wsX10_cellRefused) := goodIn_app (goodIn_of _ (by decide +kernel)) ggX10_alarmRefused_X10_cellRefused
set_option maxRecDepth 20000 in
theorem ggX10_alarmRefused_X10_allWeights : GoodIn wsX10_alarmRefused wsX10_allWeights := goodIn_r _ [34, 35, 36, 37, 38, 39, 40, 41, 42, 43, 44, 45, 46, 47, 48, 49, 50, 51, 52, 53, 54, 55] (by decide +kernel) (by decide +kernel)
set_option maxRecDepth 20000 in
theorem gX10_alarmRefused_X10_allWeights : GoodIn wsX10_alarmRefused (wsV RX10 422 RX10 yX10_allWeights wsX10_allWeights) := goodIn_app (goodIn_of _ (by decide +kernel)) ggX10_alarmRefused_X10_allWeights
set_option maxRecDepth 20000 in
theorem ggX10_alarmRefused_X10_found : GoodIn wsX10_alarmRefused wsX10_found := goodIn_r _ [21, 22, 23, 37, 38, 39, 40, 41, 42, 43, 44, 45, 46, 47, 48, 49, 50, 51, 52, 53, 54, 55] (by decide +kernel) (by decide +kernel)
set_option maxRecDepth 20000 in
theorem gX10_alarmRefused_X10_found : GoodIn wsX10_alarmRefused (wsV RX10 91 RX10 yX10_found wsX10_found) := goodIn_app (goodIn_of _ (by decide +kernel)) ggX10_alarmRefused_X10_found
theorem dX10_alarmRefused_0 : decode cX10_alarmRefused 0 = .ok (.aload_n 0, 1) := by decide +kernel
theorem dX10_alarmRefused_1 : decode cX10_alarmRefused 1 = .ok (.iload_n 3, 1) := by decide +kernel
theorem dX10_alarmRefused_2 : decode cX10_alarmRefused 2 = .ok (.sipush (-1000), 3) := by decide +kernel
theorem dX10_alarmRefused_5 : decode cX10_alarmRefused 5 = .ok (.ldc_w 447, 3) := by decide +kernel
theorem dX10_alarmRefused_8 : decode cX10_alarmRefused 8 = .ok (.invokestatic 101, 3) := by decide +kernel
theorem dX10_alarmRefused_11 : decode cX10_alarmRefused 11 = .ok (.iload_n 1, 1) := by decide +kernel
theorem dX10_alarmRefused_12 : decode cX10_alarmRefused 12 = .ok (.iload_n 2, 1) := by decide +kernel
theorem dX10_alarmRefused_13 : decode cX10_alarmRefused 13 = .ok (.invokevirtual 174, 3) := by decide +kernel
theorem dX10_alarmRefused_16 : decode cX10_alarmRefused 16 = .ok (.istore 4, 2) := by decide +kernel
theorem dX10_alarmRefused_18 : decode cX10_alarmRefused 18 = .ok (.iload 4, 2) := by decide +kernel
theorem dX10_alarmRefused_20 : decode cX10_alarmRefused 20 = .ok (.ifCond .eq 6, 3) := by decide +kernel
theorem dX10_alarmRefused_23 : decode cX10_alarmRefused 23 = .ok (.iload 4, 2) := by decide +kernel
theorem dX10_alarmRefused_25 : decode cX10_alarmRefused 25 = .ok (.ireturn, 1) := by decide +kernel
theorem dX10_alarmRefused_26 : decode cX10_alarmRefused 26 = .ok (.aload_n 0, 1) := by decide +kernel
theorem dX10_alarmRefused_27 : decode cX10_alarmRefused 27 = .ok (.invokevirtual 422, 3) := by decide +kernel
theorem dX10_alarmRefused_30 : decode cX10_alarmRefused 30 = .ok (.ifCond .ne 11, 3) := by decide +kernel
theorem dX10_alarmRefused_33 : decode cX10_alarmRefused 33 = .ok (.aload_n 0, 1) := by decide +kernel
theorem dX10_alarmRefused_34 : decode cX10_alarmRefused 34 = .ok (.iconst 4, 1) := by decide +kernel
theorem dX10_alarmRefused_35 : decode cX10_alarmRefused 35 = .ok (.invokevirtual 91, 3) := by decide +kernel
theorem dX10_alarmRefused_38 : decode cX10_alarmRefused 38 = .ok (.goto 4, 3) := by decide +kernel
theorem dX10_alarmRefused_41 : decode cX10_alarmRefused 41 = .ok (.iconst 0, 1) := by decide +kernel
theorem dX10_alarmRefused_42 : decode cX10_alarmRefused 42 = .ok (.ireturn, 1) := by decide +kernel
theorem dX10_allWeights_0 : decode cX10_allWeights 0 = .ok (.iconst 0, 1) := by decide +kernel
theorem dX10_allWeights_1 : decode cX10_allWeights 1 = .ok (.istore_n 1, 1) := by decide +kernel
theorem dX10_allWeights_2 : decode cX10_allWeights 2 = .ok (.iconst 0, 1) := by decide +kernel
theorem dX10_allWeights_3 : decode cX10_allWeights 3 = .ok (.istore_n 2, 1) := by decide +kernel
theorem dX10_allWeights_4 : decode cX10_allWeights 4 = .ok (.iload_n 2, 1) := by decide +kernel
theorem dX10_allWeights_5 : decode cX10_allWeights 5 = .ok (.aload_n 0, 1) := by decide +kernel
theorem dX10_allWeights_6 : decode cX10_allWeights 6 = .ok (.getfield 412, 3) := by decide +kernel
theorem dX10_allWeights_9 : decode cX10_allWeights 9 = .ok (.if_icmp .ge 18, 3) := by decide +kernel
theorem dX10_allWeights_12 : decode cX10_allWeights 12 = .ok (.iload_n 1, 1) := by decide +kernel
theorem dX10_allWeights_13 : decode cX10_allWeights 13 = .ok (.aload_n 0, 1) := by decide +kernel
theorem dX10_allWeights_14 : decode cX10_allWeights 14 = .ok (.getfield 24, 3) := by decide +kernel
theorem dX10_allWeights_17 : decode cX10_allWeights 17 = .ok (.iload_n 2, 1) := by decide +kernel
theorem dX10_allWeights_18 : decode cX10_allWeights 18 = .ok (.iaload, 1) := by decide +kernel
theorem dX10_allWeights_19 : decode cX10_allWeights 19 = .ok (.iadd, 1) := by decide +kernel
theorem dX10_allWeights_20 : decode cX10_allWeights 20 = .ok (.istore_n 1, 1) := by decide +kernel
theorem dX10_allWeights_21 : decode cX10_allWeights 21 = .ok (.iinc 2 1, 3) := by decide +kernel
theorem dX10_allWeights_24 : decode cX10_allWeights 24 = .ok (.goto (-20), 3) := by decide +kernel
theorem dX10_allWeights_27 : decode cX10_allWeights 27 = .ok (.iload_n 1, 1) := by decide +kernel
theorem dX10_allWeights_28 : decode cX10_allWeights 28 = .ok (.ireturn, 1) := by decide +kernel
set_option maxRecDepth 20000 in
theorem ggX10_alarmedWeight_X0_takeOver : GoodIn wsX10_alarmedWeight wsX0_takeOver := goodIn_r _ [9, 10, 11, 12, 13, 14, 15, 16, 17, 18, 19, 20, 21, 22, 23, 24, 25, 26, 27, 28, 29, 30, 31, 32, 33, 34, 35, 36, 37, 38, 39, 40, 41, 42, 43, 44, 45, 46, 47, 48, 49, 231, 232, 233, 234, 235, 236, 237, 238, 239, 240, 241, 242, 243, 244, 245, 246, 247, 248, 249, 250, 251, 252, 253, 254, 255, 256, 257, 258, 259, 260, 261] (by decide +kernel) (by decide +kernel)
set_option maxRecDepth 20000 in
theorem gX10_alarmedWeight_X0_takeOver : GoodIn wsX10_alarmedWeight (wsV RX10 272 RX0 yX0_takeOver wsX0_takeOver) := goodIn_app (goodIn_of _ (by decide +kernel)) ggX10_alarmedWeight_X0_takeOver
set_option maxRecDepth 20000 in
theorem ggX10_alarmedWeight_X0_shutPosts : GoodIn wsX10_alarmedWeight wsX0_shutPosts := goodIn_r _ [53, 19, 32, 31, 231, 232, 233, 234, 235, 236, 237, 238, 239, 240, 241, 242, 243, 244, 245, 246, 247, 248, 249] (by decide +kernel) (by decide +kernel)
set_option maxRecDepth 20000 in
theorem gX10_alarmedWeight_X0_shutPosts : GoodIn wsX10_alarmedWeight (wsV RX10 448 RX0 yX0_shutPosts wsX0_shutPosts) := goodIn_app (goodIn_of _ (by decide +kernel)) ggX10_alarmedWeight_X0_shutPosts
set_option maxRecDepth 20000 in
theorem ggX10_alarmedWeight_X10_trialComesTo : GoodIn wsX10_alarmedWeight wsX10_trialComesTo := goodIn_r _ [58, 59, 60, 3, 61, 62, 63, 64, 65, 66, 67, 68, 69, 70, 71, 72, 73, 74, 75, 76, 77, 78, 79, 80, 81, 82, 83, 84, 85, 86, 87, 88, 89, 90, 91, 92, 93, 94, 95, 96, 97, 98, 99, 100, 101, 8, 102, 21, 32, 18, 20, 103, 104, 105, 106, 12, 13, 107, 108, 109, 110, 11, 111, 112, 113, 36, 114, 38, 40, 115, 116, 117, 118, 119, 120, 121, 122, 123, 124, 125, 126, 25, 26, 27, 127, 128, 129, 130, 131, 132, 133, 134, 135, 136, 137, 138, 139, 140, 141, 142, 143, 144, 145, 146, 147, 148, 23, 28, 149, 150, 151, 152, 153, 154, 155, 156, 157, 158, 159, 160, 161, 162, 163, 164, 165, 166, 167, 168, 169, 170, 171, 172, 173, 174, 175, 176, 177, 178, 179, 180, 181, 182, 183, 184, 185, 186, 187, 188, 189, 17, 190, 191, 192, 193, 194, 195, 196, 197, 198, 199, 14, 200, 201, 202, 203, 204, 205, 206, 207, 208, 209, 210, 211, 212, 213, 214, 215, 216, 217, 218, 219, 220, 221, 222, 223, 224, 225, 226, 227, 228, 229, 230, 262, 263, 264, 265, 266, 267, 268, 269, 270, 231, 232, 233, 234, 235, 236, 237, 238, 239, 240, 241, 242, 243, 244, 245, 246, 247, 248, 249, 258, 259, 260, 261, 255, 256, 257, 271, 272, 273, 274] (by decide +kernel) (by decide +kernel)
set_option maxRecDepth 20000 in
theorem gX10_alarmedWeight_X10_trialComesTo : GoodIn wsX10_alarmedWeight (wsV RX10 451 RX10 yX10_trialComesTo wsX10_trialComesTo) := goodIn_app (goodIn_of _ (by decide +kernel)) ggX10_alarmedWeight_X10_trialComesTo
theorem dX10_alarmedWeight_0 : decode cX10_alarmedWeight 0 = .ok (.iconst 0, 1) := by decide +kernel
theorem dX10_alarmedWeight_1 : decode cX10_alarmedWeight 1 = .ok (.istore 5, 2) := by decide +kernel
theorem dX10_alarmedWeight_3 : decode cX10_alarmedWeight 3 = .ok (.iconst 0, 1) := by decide +kernel
theorem dX10_alarmedWeight_4 : decode cX10_alarmedWeight 4 = .ok (.istore 6, 2) := by decide +kernel
theorem dX10_alarmedWeight_6 : decode cX10_alarmedWeight 6 = .ok (.iload 6, 2) := by decide +kernel
theorem dX10_alarmedWeight_8 : decode cX10_alarmedWeight 8 = .ok (.aload_n 0, 1) := by decide +kernel
theorem dX10_alarmedWeight_9 : decode cX10_alarmedWeight 9 = .ok (.getfield 412, 3) := by decide +kernel
theorem dX10_alarmedWeight_12 : decode cX10_alarmedWeight 12 = .ok (.if_icmp .ge 67, 3) := by decide +kernel
theorem dX10_alarmedWeight_15 : decode cX10_alarmedWeight 15 = .ok (.aload_n 0, 1) := by decide +kernel
theorem dX10_alarmedWeight_16 : decode cX10_alarmedWeight 16 = .ok (.getfield 24, 3) := by decide +kernel
theorem dX10_alarmedWeight_19 : decode cX10_alarmedWeight 19 = .ok (.iload 6, 2) := by decide +kernel
theorem dX10_alarmedWeight_21 : decode cX10_alarmedWeight 21 = .ok (.iaload, 1) := by decide +kernel
theorem dX10_alarmedWeight_22 : decode cX10_alarmedWeight 22 = .ok (.ifCond .ne 6, 3) := by decide +kernel
theorem dX10_alarmedWeight_25 : decode cX10_alarmedWeight 25 = .ok (.goto 48, 3) := by decide +kernel
theorem dX10_alarmedWeight_28 : decode cX10_alarmedWeight 28 = .ok (.aload_n 0, 1) := by decide +kernel
theorem dX10_alarmedWeight_29 : decode cX10_alarmedWeight 29 = .ok (.getfield 35, 3) := by decide +kernel
theorem dX10_alarmedWeight_32 : decode cX10_alarmedWeight 32 = .ok (.aload_n 0, 1) := by decide +kernel
theorem dX10_alarmedWeight_33 : decode cX10_alarmedWeight 33 = .ok (.getfield 30, 3) := by decide +kernel
theorem dX10_alarmedWeight_36 : decode cX10_alarmedWeight 36 = .ok (.iload_n 1, 1) := by decide +kernel
theorem dX10_alarmedWeight_37 : decode cX10_alarmedWeight 37 = .ok (.aaload, 1) := by decide +kernel
theorem dX10_alarmedWeight_38 : decode cX10_alarmedWeight 38 = .ok (.invokevirtual 272, 3) := by decide +kernel
theorem dX10_alarmedWeight_41 : decode cX10_alarmedWeight 41 = .ok (.aload_n 0, 1) := by decide +kernel
theorem dX10_alarmedWeight_42 : decode cX10_alarmedWeight 42 = .ok (.getfield 35, 3) := by decide +kernel
theorem dX10_alarmedWeight_45 : decode cX10_alarmedWeight 45 = .ok (.iload 4, 2) := by decide +kernel
theorem dX10_alarmedWeight_47 : decode cX10_alarmedWeight 47 = .ok (.invokevirtual 448, 3) := by decide +kernel
theorem dX10_alarmedWeight_50 : decode cX10_alarmedWeight 50 = .ok (.aload_n 0, 1) := by decide +kernel
theorem dX10_alarmedWeight_51 : decode cX10_alarmedWeight 51 = .ok (.iload 6, 2) := by decide +kernel
theorem dX10_alarmedWeight_53 : decode cX10_alarmedWeight 53 = .ok (.iload_n 2, 1) := by decide +kernel
theorem dX10_alarmedWeight_54 : decode cX10_alarmedWeight 54 = .ok (.iload_n 3, 1) := by decide +kernel
theorem dX10_alarmedWeight_55 : decode cX10_alarmedWeight 55 = .ok (.invokevirtual 451, 3) := by decide +kernel
theorem dX10_alarmedWeight_58 : decode cX10_alarmedWeight 58 = .ok (.ifCond .eq 15, 3) := by decide +kernel
theorem dX10_alarmedWeight_61 : decode cX10_alarmedWeight 61 = .ok (.iload 5, 2) := by decide +kernel
theorem dX10_alarmedWeight_63 : decode cX10_alarmedWeight 63 = .ok (.aload_n 0, 1) := by decide +kernel
theorem dX10_alarmedWeight_64 : decode cX10_alarmedWeight 64 = .ok (.getfield 24, 3) := by decide +kernel
theorem dX10_alarmedWeight_67 : decode cX10_alarmedWeight 67 = .ok (.iload 6, 2) := by decide +kernel
theorem dX10_alarmedWeight_69 : decode cX10_alarmedWeight 69 = .ok (.iaload, 1) := by decide +kernel
theorem dX10_alarmedWeight_70 : decode cX10_alarmedWeight 70 = .ok (.iadd, 1) := by decide +kernel
theorem dX10_alarmedWeight_71 : decode cX10_alarmedWeight 71 = .ok (.istore 5, 2) := by decide +kernel
theorem dX10_alarmedWeight_73 : decode cX10_alarmedWeight 73 = .ok (.iinc 6 1, 3) := by decide +kernel
theorem dX10_alarmedWeight_76 : decode cX10_alarmedWeight 76 = .ok (.goto (-70), 3) := by decide +kernel
theorem dX10_alarmedWeight_79 : decode cX10_alarmedWeight 79 = .ok (.iload 5, 2) := by decide +kernel
theorem dX10_alarmedWeight_81 : decode cX10_alarmedWeight 81 = .ok (.ireturn, 1) := by decide +kernel
set_option maxRecDepth 20000 in
theorem ggX10_trialComesTo_X6_open : GoodIn wsX10_trialComesTo wsX6_open := goodIn_r _ [10, 11, 12, 13, 14, 15, 194, 195, 196, 197, 198, 199, 200] (by decide +kernel) (by decide +kernel)
set_option maxRecDepth 20000 in
theorem gX10_trialComesTo_X6_open : GoodIn wsX10_trialComesTo (wsV RX10 146 RX6 yX6_open wsX6_open) := goodIn_app (goodIn_of _ (by decide +kernel)) ggX10_trialComesTo_X6_open
set_option maxRecDepth 20000 in
theorem ggX10_trialComesTo_X6_next : GoodIn wsX10_trialComesTo wsX6_next := goodIn_r _ [19, 13, 12, 11, 15, 20, 21, 14, 22, 23, 24, 9, 25, 26, 27, 28, 29, 30, 31, 32, 33, 34, 35, 36, 37, 38, 39, 40, 41, 194, 195, 196, 197, 198, 199, 200] (by decide +kernel) (by decide +kernel)
set_option maxRecDepth 20000 in
theorem gX10_trialComesTo_X6_next : GoodIn wsX10_trialComesTo (wsV RX10 150 RX6 yX6_next wsX6_next) := goodIn_app (goodIn_of _ (by decide +kernel)) ggX10_trialComesTo_X6_next
set_option maxRecDepth 20000 in
theorem ggX10_trialComesTo_X0_obey : GoodIn wsX10_trialComesTo wsX0_obey := goodIn_r _ [46, 47, 48, 49, 50, 51, 52, 53, 45, 54, 55, 56, 57, 58, 59, 60, 61, 62, 63, 64, 65, 66, 67, 68, 69, 70, 71, 72, 201, 202, 203, 204, 205, 206, 207, 208, 209, 210, 211, 212, 213, 214, 215, 216, 217, 218, 219, 220, 221, 222, 223, 224, 225, 226] (by decide +kernel) (by decide +kernel)
set_option maxRecDepth 20000 in
theorem gX10_trialComesTo_X0_obey : GoodIn wsX10_trialComesTo (wsV RX10 406 RX0 yX0_obey wsX0_obey) := goodIn_app (goodIn_of _ (by decide +kernel)) ggX10_trialComesTo_X0_obey
set_option maxRecDepth 20000 in
theorem ggX10_trialComesTo_X6_stepsOfItem : GoodIn wsX10_trialComesTo wsX6_stepsOfItem := goodIn_r _ [41, 20, 21, 194, 195, 196, 197, 198, 199, 200] (by decide +kernel) (by decide +kernel)
set_option maxRecDepth 20000 in
theorem gX10_trialComesTo_X6_stepsOfItem : GoodIn wsX10_trialComesTo (wsV RX10 409 RX6 yX6_stepsOfItem wsX6_stepsOfItem) := goodIn_app (goodIn_of _ (by decide +kernel)) ggX10_trialComesTo_X6_stepsOfItem
set_option maxRecDepth 20000 in
theorem ggX10_trialComesTo_X8_advance : GoodIn wsX10_trialComesTo wsX8_advance := goodIn_r _ [78, 79, 80, 81, 82, 83, 84, 85, 86, 87, 77, 88, 89, 90, 91, 45, 92, 55, 56, 93, 52, 53, 54, 94, 95, 96, 97, 98, 99, 100, 101, 102, 103, 104, 105, 106, 107, 108, 109, 110, 111, 61, 47, 112, 113, 114, 115, 116, 117, 118, 71, 119, 120, 121, 122, 123, 124, 125, 126, 127, 128, 129, 130, 131, 132, 133, 134, 135, 136, 137, 138, 139, 140, 141, 142, 143, 144, 145, 146, 147, 148, 149, 57, 58, 59, 60, 150, 151, 152, 153, 154, 155, 156, 157, 158, 159, 160, 49, 161, 162, 163, 164, 165, 166, 167, 168, 70, 72, 169, 170, 171, 227, 228, 229, 230, 201, 202, 203, 204, 205, 206, 207, 208, 209, 210, 211, 212, 213, 214, 215, 216, 217, 218, 219, 220, 221, 222, 223, 224, 225, 226, 192, 193] (by decide +kernel) (by decide +kernel)
set_option maxRecDepth 20000 in
theorem gX10_trialComesTo_X8_advance : GoodIn wsX10_trialComesTo (wsV RX10 295 RX8 yX8_advance wsX8_advance) := goodIn_app (goodIn_of _ (by decide +kernel)) ggX10_trialComesTo_X8_advance
set_option maxRecDepth 20000 in
theorem ggX10_trialComesTo_X0_level : GoodIn wsX10_trialComesTo wsX0_level := goodIn_r _ [105, 106, 107, 201, 202, 203, 204, 205, 206, 207, 208, 209, 210, 211, 212, 213, 214, 215, 216, 217, 218, 219] (by decide +kernel) (by decide +kernel)
set_option maxRecDepth 20000 in
theorem gX10_trialComesTo_X0_level : GoodIn wsX10_trialComesTo (wsV RX10 187 RX0 yX0_level wsX0_level) := goodIn_app (goodIn_of _ (by decide +kernel)) ggX10_trialComesTo_X0_level
theorem dX10_trialComesTo_0 : decode cX10_trialComesTo 0 = .ok (.aload_n 0, 1) := by decide +kernel
theorem dX10_trialComesTo_1 : decode cX10_trialComesTo 1 = .ok (.getfield 49, 3) := by decide +kernel
theorem dX10_trialComesTo_4 : decode cX10_trialComesTo 4 = .ok (.aload_n 0, 1) := by decide +kernel
theorem dX10_trialComesTo_5 : decode cX10_trialComesTo 5 = .ok (.getfield 21, 3) := by decide +kernel
theorem dX10_trialComesTo_8 : decode cX10_trialComesTo 8 = .ok (.getfield 112, 3) := by decide +kernel
theorem dX10_trialComesTo_11 : decode cX10_trialComesTo 11 = .ok (.iload_n 1, 1) := by decide +kernel
theorem dX10_trialComesTo_12 : decode cX10_trialComesTo 12 = .ok (.aaload, 1) := by decide +kernel
theorem dX10_trialComesTo_13 : decode cX10_trialComesTo 13 = .ok (.aload_n 0, 1) := by decide +kernel
theorem dX10_trialComesTo_14 : decode cX10_trialComesTo 14 = .ok (.getfield 21, 3) := by decide +kernel
theorem dX10_trialComesTo_17 : decode cX10_trialComesTo 17 = .ok (.getfield 136, 3) := by decide +kernel
theorem dX10_trialComesTo_20 : decode cX10_trialComesTo 20 = .ok (.iload_n 1, 1) := by decide +kernel
theorem dX10_trialComesTo_21 : decode cX10_trialComesTo 21 = .ok (.iaload, 1) := by decide +kernel
theorem dX10_trialComesTo_22 : decode cX10_trialComesTo 22 = .ok (.invokevirtual 146, 3) := by decide +kernel
theorem dX10_trialComesTo_25 : decode cX10_trialComesTo 25 = .ok (.iconst 0, 1) := by decide +kernel
theorem dX10_trialComesTo_26 : decode cX10_trialComesTo 26 = .ok (.istore 4, 2) := by decide +kernel
theorem dX10_trialComesTo_28 : decode cX10_trialComesTo 28 = .ok (.iload 4, 2) := by decide +kernel
theorem dX10_trialComesTo_30 : decode cX10_trialComesTo 30 = .ok (.bipush 40, 2) := by decide +kernel
theorem dX10_trialComesTo_32 : decode cX10_trialComesTo 32 = .ok (.if_icmp .ge 99, 3) := by decide +kernel
theorem dX10_trialComesTo_35 : decode cX10_trialComesTo 35 = .ok (.aload_n 0, 1) := by decide +kernel
theorem dX10_trialComesTo_36 : decode cX10_trialComesTo 36 = .ok (.getfield 49, 3) := by decide +kernel
theorem dX10_trialComesTo_39 : decode cX10_trialComesTo 39 = .ok (.invokevirtual 150, 3) := by decide +kernel
theorem dX10_trialComesTo_42 : decode cX10_trialComesTo 42 = .ok (.ifCond .eq 89, 3) := by decide +kernel
theorem dX10_trialComesTo_45 : decode cX10_trialComesTo 45 = .ok (.aload_n 0, 1) := by decide +kernel
theorem dX10_trialComesTo_46 : decode cX10_trialComesTo 46 = .ok (.getfield 35, 3) := by decide +kernel
theorem dX10_trialComesTo_49 : decode cX10_trialComesTo 49 = .ok (.aload_n 0, 1) := by decide +kernel
theorem dX10_trialComesTo_50 : decode cX10_trialComesTo 50 = .ok (.getfield 49, 3) := by decide +kernel
theorem dX10_trialComesTo_53 : decode cX10_trialComesTo 53 = .ok (.getfield 400, 3) := by decide +kernel
theorem dX10_trialComesTo_56 : decode cX10_trialComesTo 56 = .ok (.aload_n 0, 1) := by decide +kernel
theorem dX10_trialComesTo_57 : decode cX10_trialComesTo 57 = .ok (.getfield 49, 3) := by decide +kernel
theorem dX10_trialComesTo_60 : decode cX10_trialComesTo 60 = .ok (.getfield 403, 3) := by decide +kernel
theorem dX10_trialComesTo_63 : decode cX10_trialComesTo 63 = .ok (.invokevirtual 406, 3) := by decide +kernel
theorem dX10_trialComesTo_66 : decode cX10_trialComesTo 66 = .ok (.aload_n 0, 1) := by decide +kernel
theorem dX10_trialComesTo_67 : decode cX10_trialComesTo 67 = .ok (.getfield 49, 3) := by decide +kernel
theorem dX10_trialComesTo_70 : decode cX10_trialComesTo 70 = .ok (.invokevirtual 409, 3) := by decide +kernel
theorem dX10_trialComesTo_73 : decode cX10_trialComesTo 73 = .ok (.istore 5, 2) := by decide +kernel
theorem dX10_trialComesTo_75 : decode cX10_trialComesTo 75 = .ok (.iconst 0, 1) := by decide +kernel
theorem dX10_trialComesTo_76 : decode cX10_trialComesTo 76 = .ok (.istore 6, 2) := by decide +kernel
theorem dX10_trialComesTo_78 : decode cX10_trialComesTo 78 = .ok (.iload 6, 2) := by decide +kernel
theorem dX10_trialComesTo_80 : decode cX10_trialComesTo 80 = .ok (.iload 5, 2) := by decide +kernel
theorem dX10_trialComesTo_82 : decode cX10_trialComesTo 82 = .ok (.if_icmp .ge 43, 3) := by decide +kernel
theorem dX10_trialComesTo_85 : decode cX10_trialComesTo 85 = .ok (.aload_n 0, 1) := by decide +kernel
theorem dX10_trialComesTo_86 : decode cX10_trialComesTo 86 = .ok (.getfield 42, 3) := by decide +kernel
theorem dX10_trialComesTo_89 : decode cX10_trialComesTo 89 = .ok (.aload_n 0, 1) := by decide +kernel
theorem dX10_trialComesTo_90 : decode cX10_trialComesTo 90 = .ok (.getfield 35, 3) := by decide +kernel
theorem dX10_trialComesTo_93 : decode cX10_trialComesTo 93 = .ok (.aload_n 0, 1) := by decide +kernel
theorem dX10_trialComesTo_94 : decode cX10_trialComesTo 94 = .ok (.getfield 14, 3) := by decide +kernel
theorem dX10_trialComesTo_97 : decode cX10_trialComesTo 97 = .ok (.invokevirtual 295, 3) := by decide +kernel
theorem dX10_trialComesTo_100 : decode cX10_trialComesTo 100 = .ok (.ifCond .ne 5, 3) := by decide +kernel
theorem dX10_trialComesTo_103 : decode cX10_trialComesTo 103 = .ok (.iconst 0, 1) := by decide +kernel
theorem dX10_trialComesTo_104 : decode cX10_trialComesTo 104 = .ok (.ireturn, 1) := by decide +kernel
theorem dX10_trialComesTo_105 : decode cX10_trialComesTo 105 = .ok (.aload_n 0, 1) := by decide +kernel
theorem dX10_trialComesTo_106 : decode cX10_trialComesTo 106 = .ok (.getfield 35, 3) := by decide +kernel
theorem dX10_trialComesTo_109 : decode cX10_trialComesTo 109 = .ok (.iload_n 2, 1) := by decide +kernel
theorem dX10_trialComesTo_110 : decode cX10_trialComesTo 110 = .ok (.invokevirtual 187, 3) := by decide +kernel
theorem dX10_trialComesTo_113 : decode cX10_trialComesTo 113 = .ok (.iload_n 3, 1) := by decide +kernel
theorem dX10_trialComesTo_114 : decode cX10_trialComesTo 114 = .ok (.if_icmp .lt 5, 3) := by decide +kernel
theorem dX10_trialComesTo_117 : decode cX10_trialComesTo 117 = .ok (.iconst 1, 1) := by decide +kernel
theorem dX10_trialComesTo_118 : decode cX10_trialComesTo 118 = .ok (.ireturn, 1) := by decide +kernel
theorem dX10_trialComesTo_119 : decode cX10_trialComesTo 119 = .ok (.iinc 6 1, 3) := by decide +kernel
theorem dX10_trialComesTo_122 : decode cX10_trialComesTo 122 = .ok (.goto (-44), 3) := by decide +kernel
theorem dX10_trialComesTo_125 : decode cX10_trialComesTo 125 = .ok (.iinc 4 1, 3) := by decide +kernel
theorem dX10_trialComesTo_128 : decode cX10_trialComesTo 128 = .ok (.goto (-100), 3) := by decide +kernel
theorem dX10_trialComesTo_131 : decode cX10_trialComesTo 131 = .ok (.iconst 0, 1) := by decide +kernel
theorem dX10_trialComesTo_132 : decode cX10_trialComesTo 132 = .ok (.ireturn, 1) := by decide +kernel
theorem dX10_tellFraction_0 : decode cX10_tellFraction 0 = .ok (.iload_n 2, 1) := by decide +kernel
theorem dX10_tellFraction_1 : decode cX10_tellFraction 1 = .ok (.istore_n 3, 1) := by decide +kernel
theorem dX10_tellFraction_2 : decode cX10_tellFraction 2 = .ok (.iload_n 1, 1) := by decide +kernel
theorem dX10_tellFraction_3 : decode cX10_tellFraction 3 = .ok (.istore 4, 2) := by decide +kernel
theorem dX10_tellFraction_5 : decode cX10_tellFraction 5 = .ok (.iconst 0, 1) := by decide +kernel
theorem dX10_tellFraction_6 : decode cX10_tellFraction 6 = .ok (.istore 5, 2) := by decide +kernel
theorem dX10_tellFraction_8 : decode cX10_tellFraction 8 = .ok (.iload 5, 2) := by decide +kernel
theorem dX10_tellFraction_10 : decode cX10_tellFraction 10 = .ok (.bipush 100, 2) := by decide +kernel
theorem dX10_tellFraction_12 : decode cX10_tellFraction 12 = .ok (.if_icmp .ge 27, 3) := by decide +kernel
theorem dX10_tellFraction_15 : decode cX10_tellFraction 15 = .ok (.iload 4, 2) := by decide +kernel
theorem dX10_tellFraction_17 : decode cX10_tellFraction 17 = .ok (.ifCond .eq 22, 3) := by decide +kernel
theorem dX10_tellFraction_20 : decode cX10_tellFraction 20 = .ok (.iload_n 3, 1) := by decide +kernel
theorem dX10_tellFraction_21 : decode cX10_tellFraction 21 = .ok (.iload 4, 2) := by decide +kernel
theorem dX10_tellFraction_23 : decode cX10_tellFraction 23 = .ok (.irem, 1) := by decide +kernel
theorem dX10_tellFraction_24 : decode cX10_tellFraction 24 = .ok (.istore 6, 2) := by decide +kernel
theorem dX10_tellFraction_26 : decode cX10_tellFraction 26 = .ok (.iload 4, 2) := by decide +kernel
theorem dX10_tellFraction_28 : decode cX10_tellFraction 28 = .ok (.istore_n 3, 1) := by decide +kernel
theorem dX10_tellFraction_29 : decode cX10_tellFraction 29 = .ok (.iload 6, 2) := by decide +kernel
theorem dX10_tellFraction_31 : decode cX10_tellFraction 31 = .ok (.istore 4, 2) := by decide +kernel
theorem dX10_tellFraction_33 : decode cX10_tellFraction 33 = .ok (.iinc 5 1, 3) := by decide +kernel
theorem dX10_tellFraction_36 : decode cX10_tellFraction 36 = .ok (.goto (-28), 3) := by decide +kernel
theorem dX10_tellFraction_39 : decode cX10_tellFraction 39 = .ok (.iload_n 3, 1) := by decide +kernel
theorem dX10_tellFraction_40 : decode cX10_tellFraction 40 = .ok (.ifCond .gt 4, 3) := by decide +kernel
theorem dX10_tellFraction_43 : decode cX10_tellFraction 43 = .ok (.return_, 1) := by decide +kernel
theorem dX10_tellFraction_44 : decode cX10_tellFraction 44 = .ok (.aload_n 0, 1) := by decide +kernel
theorem dX10_tellFraction_45 : decode cX10_tellFraction 45 = .ok (.iload_n 1, 1) := by decide +kernel
theorem dX10_tellFraction_46 : decode cX10_tellFraction 46 = .ok (.iload_n 3, 1) := by decide +kernel
theorem dX10_tellFraction_47 : decode cX10_tellFraction 47 = .ok (.idiv, 1) := by decide +kernel
theorem dX10_tellFraction_48 : decode cX10_tellFraction 48 = .ok (.i2l, 1) := by decide +kernel
theorem dX10_tellFraction_49 : decode cX10_tellFraction 49 = .ok (.putfield 454, 3) := by decide +kernel
theorem dX10_tellFraction_52 : decode cX10_tellFraction 52 = .ok (.aload_n 0, 1) := by decide +kernel
theorem dX10_tellFraction_53 : decode cX10_tellFraction 53 = .ok (.iload_n 2, 1) := by decide +kernel
theorem dX10_tellFraction_54 : decode cX10_tellFraction 54 = .ok (.iload_n 3, 1) := by decide +kernel
theorem dX10_tellFraction_55 : decode cX10_tellFraction 55 = .ok (.idiv, 1) := by decide +kernel
theorem dX10_tellFraction_56 : decode cX10_tellFraction 56 = .ok (.i2l, 1) := by decide +kernel
theorem dX10_tellFraction_57 : decode cX10_tellFraction 57 = .ok (.putfield 81, 3) := by decide +kernel
theorem dX10_tellFraction_60 : decode cX10_tellFraction 60 = .ok (.return_, 1) := by decide +kernel
theorem dX10_asked_0 : decode cX10_asked 0 = .ok (.aload_n 0, 1) := by decide +kernel
theorem dX10_asked_1 : decode cX10_asked 1 = .ok (.getfield 116, 3) := by decide +kernel
theorem dX10_asked_4 : decode cX10_asked 4 = .ok (.ireturn, 1) := by decide +kernel
set_option maxRecDepth 20000 in
theorem ggX10_strength_X9_power : GoodIn wsX10_strength wsX9_power := goodIn_r _ [6, 7, 8, 28, 29, 30] (by decide +kernel) (by decide +kernel)
set_option maxRecDepth 20000 in
theorem gX10_strength_X9_power : GoodIn wsX10_strength (wsV RX10 351 RX9 yX9_power wsX9_power) := goodIn_app (goodIn_of _ (by decide +kernel)) ggX10_strength_X9_power
theorem dX10_strength_0 : decode cX10_strength 0 = .ok (.aload_n 0, 1) := by decide +kernel
theorem dX10_strength_1 : decode cX10_strength 1 = .ok (.getfield 68, 3) := by decide +kernel
theorem dX10_strength_4 : decode cX10_strength 4 = .ok (.invokevirtual 351, 3) := by decide +kernel
theorem dX10_strength_7 : decode cX10_strength 7 = .ok (.lreturn, 1) := by decide +kernel
theorem dX10_upper_0 : decode cX10_upper 0 = .ok (.aload_n 0, 1) := by decide +kernel
theorem dX10_upper_1 : decode cX10_upper 1 = .ok (.getfield 454, 3) := by decide +kernel
theorem dX10_upper_4 : decode cX10_upper 4 = .ok (.lreturn, 1) := by decide +kernel
theorem dX10_lower_0 : decode cX10_lower 0 = .ok (.aload_n 0, 1) := by decide +kernel
theorem dX10_lower_1 : decode cX10_lower 1 = .ok (.getfield 81, 3) := by decide +kernel
theorem dX10_lower_4 : decode cX10_lower 4 = .ok (.lreturn, 1) := by decide +kernel
set_option maxRecDepth 20000 in
theorem ggX10_count_X7_howMany : GoodIn wsX10_count wsX7_howMany := goodIn_r _ [11, 12, 13, 14, 15, 10, 16, 68, 69] (by decide +kernel) (by decide +kernel)
set_option maxRecDepth 20000 in
theorem gX10_count_X7_howMany : GoodIn wsX10_count (wsV RX10 457 RX7 yX7_howMany wsX7_howMany) := goodIn_app (goodIn_of _ (by decide +kernel)) ggX10_count_X7_howMany
set_option maxRecDepth 20000 in
theorem ggX10_count_X10_within : GoodIn wsX10_count wsX10_within := goodIn_r _ [20] (by decide +kernel) (by decide +kernel)
set_option maxRecDepth 20000 in
theorem gX10_count_X10_within : GoodIn wsX10_count (va_wsS RX10 101 yX10_within wsX10_within) := goodIn_app (goodIn_of _ (by decide +kernel)) ggX10_count_X10_within
theorem dX10_count_0 : decode cX10_count 0 = .ok (.iload_n 1, 1) := by decide +kernel
theorem dX10_count_1 : decode cX10_count 1 = .ok (.ifCond .ne 11, 3) := by decide +kernel
theorem dX10_count_4 : decode cX10_count 4 = .ok (.aload_n 0, 1) := by decide +kernel
theorem dX10_count_5 : decode cX10_count 5 = .ok (.getfield 14, 3) := by decide +kernel
theorem dX10_count_8 : decode cX10_count 8 = .ok (.invokevirtual 457, 3) := by decide +kernel
theorem dX10_count_11 : decode cX10_count 11 = .ok (.ireturn, 1) := by decide +kernel
theorem dX10_count_12 : decode cX10_count 12 = .ok (.iload_n 1, 1) := by decide +kernel
theorem dX10_count_13 : decode cX10_count 13 = .ok (.iconst 1, 1) := by decide +kernel
theorem dX10_count_14 : decode cX10_count 14 = .ok (.if_icmp .ne 11, 3) := by decide +kernel
theorem dX10_count_17 : decode cX10_count 17 = .ok (.aload_n 0, 1) := by decide +kernel
theorem dX10_count_18 : decode cX10_count 18 = .ok (.getfield 18, 3) := by decide +kernel
theorem dX10_count_21 : decode cX10_count 21 = .ok (.invokevirtual 457, 3) := by decide +kernel
theorem dX10_count_24 : decode cX10_count 24 = .ok (.ireturn, 1) := by decide +kernel
theorem dX10_count_25 : decode cX10_count 25 = .ok (.iload_n 1, 1) := by decide +kernel
theorem dX10_count_26 : decode cX10_count 26 = .ok (.iconst 5, 1) := by decide +kernel
theorem dX10_count_27 : decode cX10_count 27 = .ok (.if_icmp .ne 8, 3) := by decide +kernel
theorem dX10_count_30 : decode cX10_count 30 = .ok (.aload_n 0, 1) := by decide +kernel
theorem dX10_count_31 : decode cX10_count 31 = .ok (.getfield 412, 3) := by decide +kernel
theorem dX10_count_34 : decode cX10_count 34 = .ok (.ireturn, 1) := by decide +kernel
theorem dX10_count_35 : decode cX10_count 35 = .ok (.iload_n 1, 1) := by decide +kernel
theorem dX10_count_36 : decode cX10_count 36 = .ok (.iconst 2, 1) := by decide +kernel
theorem dX10_count_37 : decode cX10_count 37 = .ok (.iconst 4, 1) := by decide +kernel
theorem dX10_count_38 : decode cX10_count 38 = .ok (.invokestatic 101, 3) := by decide +kernel
theorem dX10_count_41 : decode cX10_count 41 = .ok (.ifCond .ne 5, 3) := by decide +kernel
theorem dX10_count_44 : decode cX10_count 44 = .ok (.iconst (-1), 1) := by decide +kernel
theorem dX10_count_45 : decode cX10_count 45 = .ok (.ireturn, 1) := by decide +kernel
theorem dX10_count_46 : decode cX10_count 46 = .ok (.iconst 0, 1) := by decide +kernel
theorem dX10_count_47 : decode cX10_count 47 = .ok (.istore_n 2, 1) := by decide +kernel
theorem dX10_count_48 : decode cX10_count 48 = .ok (.iload_n 1, 1) := by decide +kernel
theorem dX10_count_49 : decode cX10_count 49 = .ok (.iconst 2, 1) := by decide +kernel
theorem dX10_count_50 : decode cX10_count 50 = .ok (.if_icmp .ne 40, 3) := by decide +kernel
theorem dX10_count_53 : decode cX10_count 53 = .ok (.iconst 0, 1) := by decide +kernel
theorem dX10_count_54 : decode cX10_count 54 = .ok (.istore_n 3, 1) := by decide +kernel
theorem dX10_count_55 : decode cX10_count 55 = .ok (.iload_n 3, 1) := by decide +kernel
theorem dX10_count_56 : decode cX10_count 56 = .ok (.bipush 6, 2) := by decide +kernel
theorem dX10_count_58 : decode cX10_count 58 = .ok (.if_icmp .ge 29, 3) := by decide +kernel
theorem dX10_count_61 : decode cX10_count 61 = .ok (.iload_n 2, 1) := by decide +kernel
theorem dX10_count_62 : decode cX10_count 62 = .ok (.aload_n 0, 1) := by decide +kernel
theorem dX10_count_63 : decode cX10_count 63 = .ok (.getfield 30, 3) := by decide +kernel
theorem dX10_count_66 : decode cX10_count 66 = .ok (.iload_n 3, 1) := by decide +kernel
theorem dX10_count_67 : decode cX10_count 67 = .ok (.aaload, 1) := by decide +kernel
theorem dX10_count_68 : decode cX10_count 68 = .ok (.getfield 305, 3) := by decide +kernel
theorem dX10_count_71 : decode cX10_count 71 = .ok (.ifCond .eq 7, 3) := by decide +kernel
theorem dX10_count_74 : decode cX10_count 74 = .ok (.iconst 1, 1) := by decide +kernel
theorem dX10_count_75 : decode cX10_count 75 = .ok (.goto 4, 3) := by decide +kernel
theorem dX10_count_78 : decode cX10_count 78 = .ok (.iconst 0, 1) := by decide +kernel
theorem dX10_count_79 : decode cX10_count 79 = .ok (.iadd, 1) := by decide +kernel
theorem dX10_count_80 : decode cX10_count 80 = .ok (.istore_n 2, 1) := by decide +kernel
theorem dX10_count_81 : decode cX10_count 81 = .ok (.iinc 3 1, 3) := by decide +kernel
theorem dX10_count_84 : decode cX10_count 84 = .ok (.goto (-29), 3) := by decide +kernel
theorem dX10_count_87 : decode cX10_count 87 = .ok (.goto 83, 3) := by decide +kernel
theorem dX10_count_90 : decode cX10_count 90 = .ok (.iload_n 1, 1) := by decide +kernel
theorem dX10_count_91 : decode cX10_count 91 = .ok (.iconst 3, 1) := by decide +kernel
theorem dX10_count_92 : decode cX10_count 92 = .ok (.if_icmp .ne 42, 3) := by decide +kernel
theorem dX10_count_95 : decode cX10_count 95 = .ok (.iconst 0, 1) := by decide +kernel
theorem dX10_count_96 : decode cX10_count 96 = .ok (.istore_n 3, 1) := by decide +kernel
theorem dX10_count_97 : decode cX10_count 97 = .ok (.iload_n 3, 1) := by decide +kernel
theorem dX10_count_98 : decode cX10_count 98 = .ok (.bipush 8, 2) := by decide +kernel
theorem dX10_count_100 : decode cX10_count 100 = .ok (.if_icmp .ge 31, 3) := by decide +kernel
theorem dX10_count_103 : decode cX10_count 103 = .ok (.iload_n 2, 1) := by decide +kernel
theorem dX10_count_104 : decode cX10_count 104 = .ok (.aload_n 0, 1) := by decide +kernel
theorem dX10_count_105 : decode cX10_count 105 = .ok (.getfield 55, 3) := by decide +kernel
theorem dX10_count_108 : decode cX10_count 108 = .ok (.iload_n 3, 1) := by decide +kernel
theorem dX10_count_109 : decode cX10_count 109 = .ok (.aaload, 1) := by decide +kernel
theorem dX10_count_110 : decode cX10_count 110 = .ok (.getfield 285, 3) := by decide +kernel
theorem dX10_count_113 : decode cX10_count 113 = .ok (.bipush (-9), 2) := by decide +kernel
theorem dX10_count_115 : decode cX10_count 115 = .ok (.if_icmp .ne 7, 3) := by decide +kernel
theorem dX10_count_118 : decode cX10_count 118 = .ok (.iconst 0, 1) := by decide +kernel
theorem dX10_count_119 : decode cX10_count 119 = .ok (.goto 4, 3) := by decide +kernel
theorem dX10_count_122 : decode cX10_count 122 = .ok (.iconst 1, 1) := by decide +kernel
theorem dX10_count_123 : decode cX10_count 123 = .ok (.iadd, 1) := by decide +kernel
theorem dX10_count_124 : decode cX10_count 124 = .ok (.istore_n 2, 1) := by decide +kernel
theorem dX10_count_125 : decode cX10_count 125 = .ok (.iinc 3 1, 3) := by decide +kernel
theorem dX10_count_128 : decode cX10_count 128 = .ok (.goto (-31), 3) := by decide +kernel
theorem dX10_count_131 : decode cX10_count 131 = .ok (.goto 39, 3) := by decide +kernel
theorem dX10_count_134 : decode cX10_count 134 = .ok (.iconst 0, 1) := by decide +kernel
theorem dX10_count_135 : decode cX10_count 135 = .ok (.istore_n 3, 1) := by decide +kernel
theorem dX10_count_136 : decode cX10_count 136 = .ok (.iload_n 3, 1) := by decide +kernel
theorem dX10_count_137 : decode cX10_count 137 = .ok (.bipush 8, 2) := by decide +kernel
theorem dX10_count_139 : decode cX10_count 139 = .ok (.if_icmp .ge 31, 3) := by decide +kernel
theorem dX10_count_142 : decode cX10_count 142 = .ok (.iload_n 2, 1) := by decide +kernel
theorem dX10_count_143 : decode cX10_count 143 = .ok (.aload_n 0, 1) := by decide +kernel
theorem dX10_count_144 : decode cX10_count 144 = .ok (.getfield 61, 3) := by decide +kernel
theorem dX10_count_147 : decode cX10_count 147 = .ok (.iload_n 3, 1) := by decide +kernel
theorem dX10_count_148 : decode cX10_count 148 = .ok (.aaload, 1) := by decide +kernel
theorem dX10_count_149 : decode cX10_count 149 = .ok (.getfield 293, 3) := by decide +kernel
theorem dX10_count_152 : decode cX10_count 152 = .ok (.bipush (-9), 2) := by decide +kernel
theorem dX10_count_154 : decode cX10_count 154 = .ok (.if_icmp .ne 7, 3) := by decide +kernel
theorem dX10_count_157 : decode cX10_count 157 = .ok (.iconst 0, 1) := by decide +kernel
theorem dX10_count_158 : decode cX10_count 158 = .ok (.goto 4, 3) := by decide +kernel
theorem dX10_count_161 : decode cX10_count 161 = .ok (.iconst 1, 1) := by decide +kernel
theorem dX10_count_162 : decode cX10_count 162 = .ok (.iadd, 1) := by decide +kernel
theorem dX10_count_163 : decode cX10_count 163 = .ok (.istore_n 2, 1) := by decide +kernel
theorem dX10_count_164 : decode cX10_count 164 = .ok (.iinc 3 1, 3) := by decide +kernel
theorem dX10_count_167 : decode cX10_count 167 = .ok (.goto (-31), 3) := by decide +kernel
theorem dX10_count_170 : decode cX10_count 170 = .ok (.iload_n 2, 1) := by decide +kernel
theorem dX10_count_171 : decode cX10_count 171 = .ok (.ireturn, 1) := by decide +kernel
theorem dX10_finding_0 : decode cX10_finding 0 = .ok (.aload_n 0, 1) := by decide +kernel
theorem dX10_finding_1 : decode cX10_finding 1 = .ok (.getfield 460, 3) := by decide +kernel
theorem dX10_finding_4 : decode cX10_finding 4 = .ok (.ireturn, 1) := by decide +kernel
set_option maxRecDepth 20000 in
theorem ggX10_findings_X10_within : GoodIn wsX10_findings wsX10_within := goodIn_r _ [5] (by decide +kernel) (by decide +kernel)
set_option maxRecDepth 20000 in
theorem gX10_findings_X10_within : GoodIn wsX10_findings (va_wsS RX10 101 yX10_within wsX10_within) := goodIn_app (goodIn_of _ (by decide +kernel)) ggX10_findings_X10_within
theorem dX10_findings_0 : decode cX10_findings 0 = .ok (.iload_n 1, 1) := by decide +kernel
theorem dX10_findings_1 : decode cX10_findings 1 = .ok (.iconst 1, 1) := by decide +kernel
theorem dX10_findings_2 : decode cX10_findings 2 = .ok (.iconst 5, 1) := by decide +kernel
theorem dX10_findings_3 : decode cX10_findings 3 = .ok (.invokestatic 101, 3) := by decide +kernel
theorem dX10_findings_6 : decode cX10_findings 6 = .ok (.ifCond .eq 12, 3) := by decide +kernel
theorem dX10_findings_9 : decode cX10_findings 9 = .ok (.aload_n 0, 1) := by decide +kernel
theorem dX10_findings_10 : decode cX10_findings 10 = .ok (.getfield 78, 3) := by decide +kernel
theorem dX10_findings_13 : decode cX10_findings 13 = .ok (.iload_n 1, 1) := by decide +kernel
theorem dX10_findings_14 : decode cX10_findings 14 = .ok (.iaload, 1) := by decide +kernel
theorem dX10_findings_15 : decode cX10_findings 15 = .ok (.goto 4, 3) := by decide +kernel
theorem dX10_findings_18 : decode cX10_findings 18 = .ok (.iconst (-1), 1) := by decide +kernel
theorem dX10_findings_19 : decode cX10_findings 19 = .ok (.ireturn, 1) := by decide +kernel
set_option maxRecDepth 20000 in
theorem ggX10_digest_X0_digested : GoodIn wsX10_digest wsX0_digested := goodIn_r _ [11, 12, 13, 14, 15, 16, 17, 18, 19, 20, 21, 10, 22, 23, 24, 25, 26, 27, 28, 29, 30, 31, 32, 33, 34, 35, 36, 37, 38, 39, 40, 41, 42, 43, 44, 97, 98, 99, 100, 101, 102, 103, 104, 105, 106, 107, 108, 109, 110, 111, 112, 113, 114, 115] (by decide +kernel) (by decide +kernel)
set_option maxRecDepth 20000 in
theorem gX10_digest_X0_digested : GoodIn wsX10_digest (wsV RX10 465 RX0 yX0_digested wsX0_digested) := goodIn_app (goodIn_of _ (by decide +kernel)) ggX10_digest_X0_digested
set_option maxRecDepth 20000 in
theorem ggX10_digest_X1_digested : GoodIn wsX10_digest wsX1_digested := goodIn_r _ [49, 50, 51, 52, 53, 116, 117, 118] (by decide +kernel) (by decide +kernel)
set_option maxRecDepth 20000 in
theorem gX10_digest_X1_digested : GoodIn wsX10_digest (wsV RX10 469 RX1 yX1_digested wsX1_digested) := goodIn_app (goodIn_of _ (by decide +kernel)) ggX10_digest_X1_digested
set_option maxRecDepth 20000 in
theorem ggX10_digest_X2_digested : GoodIn wsX10_digest wsX2_digested := goodIn_r _ [58, 59, 60, 61, 62, 63, 64, 65, 66, 67, 57, 68, 69, 119, 120, 121, 122, 123, 124] (by decide +kernel) (by decide +kernel)
set_option maxRecDepth 20000 in
theorem gX10_digest_X2_digested : GoodIn wsX10_digest (wsV RX10 470 RX2 yX2_digested wsX2_digested) := goodIn_app (goodIn_of _ (by decide +kernel)) ggX10_digest_X2_digested
set_option maxRecDepth 20000 in
theorem ggX10_digest_X7_digested : GoodIn wsX10_digest wsX7_digested := goodIn_r _ [74, 75, 76, 77, 125, 126] (by decide +kernel) (by decide +kernel)
set_option maxRecDepth 20000 in
theorem gX10_digest_X7_digested : GoodIn wsX10_digest (wsV RX10 471 RX7 yX7_digested wsX7_digested) := goodIn_app (goodIn_of _ (by decide +kernel)) ggX10_digest_X7_digested
theorem dX10_digest_0 : decode cX10_digest 0 = .ok (.ldc2_w 463, 3) := by decide +kernel
theorem dX10_digest_3 : decode cX10_digest 3 = .ok (.lstore_n 1, 1) := by decide +kernel
theorem dX10_digest_4 : decode cX10_digest 4 = .ok (.iconst 0, 1) := by decide +kernel
theorem dX10_digest_5 : decode cX10_digest 5 = .ok (.istore_n 3, 1) := by decide +kernel
theorem dX10_digest_6 : decode cX10_digest 6 = .ok (.iload_n 3, 1) := by decide +kernel
theorem dX10_digest_7 : decode cX10_digest 7 = .ok (.bipush 6, 2) := by decide +kernel
theorem dX10_digest_9 : decode cX10_digest 9 = .ok (.if_icmp .ge 20, 3) := by decide +kernel
theorem dX10_digest_12 : decode cX10_digest 12 = .ok (.aload_n 0, 1) := by decide +kernel
theorem dX10_digest_13 : decode cX10_digest 13 = .ok (.getfield 30, 3) := by decide +kernel
theorem dX10_digest_16 : decode cX10_digest 16 = .ok (.iload_n 3, 1) := by decide +kernel
theorem dX10_digest_17 : decode cX10_digest 17 = .ok (.aaload, 1) := by decide +kernel
theorem dX10_digest_18 : decode cX10_digest 18 = .ok (.lload_n 1, 1) := by decide +kernel
theorem dX10_digest_19 : decode cX10_digest 19 = .ok (.invokevirtual 465, 3) := by decide +kernel
theorem dX10_digest_22 : decode cX10_digest 22 = .ok (.lstore_n 1, 1) := by decide +kernel
theorem dX10_digest_23 : decode cX10_digest 23 = .ok (.iinc 3 1, 3) := by decide +kernel
theorem dX10_digest_26 : decode cX10_digest 26 = .ok (.goto (-20), 3) := by decide +kernel
theorem dX10_digest_29 : decode cX10_digest 29 = .ok (.iconst 0, 1) := by decide +kernel
theorem dX10_digest_30 : decode cX10_digest 30 = .ok (.istore_n 3, 1) := by decide +kernel
theorem dX10_digest_31 : decode cX10_digest 31 = .ok (.iload_n 3, 1) := by decide +kernel
theorem dX10_digest_32 : decode cX10_digest 32 = .ok (.bipush 8, 2) := by decide +kernel
theorem dX10_digest_34 : decode cX10_digest 34 = .ok (.if_icmp .ge 20, 3) := by decide +kernel
theorem dX10_digest_37 : decode cX10_digest 37 = .ok (.aload_n 0, 1) := by decide +kernel
theorem dX10_digest_38 : decode cX10_digest 38 = .ok (.getfield 55, 3) := by decide +kernel
theorem dX10_digest_41 : decode cX10_digest 41 = .ok (.iload_n 3, 1) := by decide +kernel
theorem dX10_digest_42 : decode cX10_digest 42 = .ok (.aaload, 1) := by decide +kernel
theorem dX10_digest_43 : decode cX10_digest 43 = .ok (.lload_n 1, 1) := by decide +kernel
theorem dX10_digest_44 : decode cX10_digest 44 = .ok (.invokevirtual 469, 3) := by decide +kernel
theorem dX10_digest_47 : decode cX10_digest 47 = .ok (.lstore_n 1, 1) := by decide +kernel
theorem dX10_digest_48 : decode cX10_digest 48 = .ok (.iinc 3 1, 3) := by decide +kernel
theorem dX10_digest_51 : decode cX10_digest 51 = .ok (.goto (-20), 3) := by decide +kernel
theorem dX10_digest_54 : decode cX10_digest 54 = .ok (.iconst 0, 1) := by decide +kernel
theorem dX10_digest_55 : decode cX10_digest 55 = .ok (.istore_n 3, 1) := by decide +kernel
theorem dX10_digest_56 : decode cX10_digest 56 = .ok (.iload_n 3, 1) := by decide +kernel
theorem dX10_digest_57 : decode cX10_digest 57 = .ok (.bipush 8, 2) := by decide +kernel
theorem dX10_digest_59 : decode cX10_digest 59 = .ok (.if_icmp .ge 20, 3) := by decide +kernel
theorem dX10_digest_62 : decode cX10_digest 62 = .ok (.aload_n 0, 1) := by decide +kernel
theorem dX10_digest_63 : decode cX10_digest 63 = .ok (.getfield 61, 3) := by decide +kernel
theorem dX10_digest_66 : decode cX10_digest 66 = .ok (.iload_n 3, 1) := by decide +kernel
theorem dX10_digest_67 : decode cX10_digest 67 = .ok (.aaload, 1) := by decide +kernel
theorem dX10_digest_68 : decode cX10_digest 68 = .ok (.lload_n 1, 1) := by decide +kernel
theorem dX10_digest_69 : decode cX10_digest 69 = .ok (.invokevirtual 470, 3) := by decide +kernel
theorem dX10_digest_72 : decode cX10_digest 72 = .ok (.lstore_n 1, 1) := by decide +kernel
theorem dX10_digest_73 : decode cX10_digest 73 = .ok (.iinc 3 1, 3) := by decide +kernel
theorem dX10_digest_76 : decode cX10_digest 76 = .ok (.goto (-20), 3) := by decide +kernel
theorem dX10_digest_79 : decode cX10_digest 79 = .ok (.aload_n 0, 1) := by decide +kernel
theorem dX10_digest_80 : decode cX10_digest 80 = .ok (.getfield 18, 3) := by decide +kernel
theorem dX10_digest_83 : decode cX10_digest 83 = .ok (.aload_n 0, 1) := by decide +kernel
theorem dX10_digest_84 : decode cX10_digest 84 = .ok (.getfield 14, 3) := by decide +kernel
theorem dX10_digest_87 : decode cX10_digest 87 = .ok (.lload_n 1, 1) := by decide +kernel
theorem dX10_digest_88 : decode cX10_digest 88 = .ok (.invokevirtual 471, 3) := by decide +kernel
theorem dX10_digest_91 : decode cX10_digest 91 = .ok (.invokevirtual 471, 3) := by decide +kernel
theorem dX10_digest_94 : decode cX10_digest 94 = .ok (.lreturn, 1) := by decide +kernel
theorem dX10_found_0 : decode cX10_found 0 = .ok (.aload_n 0, 1) := by decide +kernel
theorem dX10_found_1 : decode cX10_found 1 = .ok (.iload_n 1, 1) := by decide +kernel
theorem dX10_found_2 : decode cX10_found 2 = .ok (.putfield 460, 3) := by decide +kernel
theorem dX10_found_5 : decode cX10_found 5 = .ok (.aload_n 0, 1) := by decide +kernel
theorem dX10_found_6 : decode cX10_found 6 = .ok (.getfield 78, 3) := by decide +kernel
theorem dX10_found_9 : decode cX10_found 9 = .ok (.iload_n 1, 1) := by decide +kernel
theorem dX10_found_10 : decode cX10_found 10 = .ok (.dup2, 1) := by decide +kernel
theorem dX10_found_11 : decode cX10_found 11 = .ok (.iaload, 1) := by decide +kernel
theorem dX10_found_12 : decode cX10_found 12 = .ok (.iconst 1, 1) := by decide +kernel
theorem dX10_found_13 : decode cX10_found 13 = .ok (.iadd, 1) := by decide +kernel
theorem dX10_found_14 : decode cX10_found 14 = .ok (.iastore, 1) := by decide +kernel
theorem dX10_found_15 : decode cX10_found 15 = .ok (.bipush (-3), 2) := by decide +kernel
theorem dX10_found_17 : decode cX10_found 17 = .ok (.ireturn, 1) := by decide +kernel
set_option maxRecDepth 20000 in
theorem ggX10_boardRefused_X10_isBoard : GoodIn wsX10_boardRefused wsX10_isBoard := goodIn_r _ [5] (by decide +kernel) (by decide +kernel)
set_option maxRecDepth 20000 in
theorem gX10_boardRefused_X10_isBoard : GoodIn wsX10_boardRefused (va_wsS RX10 157 yX10_isBoard wsX10_isBoard) := goodIn_app (goodIn_of _ (by decide +kernel)) ggX10_boardRefused_X10_isBoard
set_option maxRecDepth 20000 in
theorem ggX10_boardRefused_X10_found : GoodIn wsX10_boardRefused wsX10_found := goodIn_r _ [9, 10, 11, 12, 13, 14, 15, 16, 17, 18, 19, 20, 21, 22, 23, 24, 25, 26, 27, 28, 29, 30] (by decide +kernel) (by decide +kernel)
set_option maxRecDepth 20000 in
theorem gX10_boardRefused_X10_found : GoodIn wsX10_boardRefused (wsV RX10 91 RX10 yX10_found wsX10_found) := goodIn_app (goodIn_of _ (by decide +kernel)) ggX10_boardRefused_X10_found
theorem dX10_boardRefused_0 : decode cX10_boardRefused 0 = .ok (.iload_n 1, 1) := by decide +kernel
theorem dX10_boardRefused_1 : decode cX10_boardRefused 1 = .ok (.ifCond .eq 10, 3) := by decide +kernel
theorem dX10_boardRefused_4 : decode cX10_boardRefused 4 = .ok (.iload_n 2, 1) := by decide +kernel
theorem dX10_boardRefused_5 : decode cX10_boardRefused 5 = .ok (.invokestatic 157, 3) := by decide +kernel
theorem dX10_boardRefused_8 : decode cX10_boardRefused 8 = .ok (.ifCond .ne 5, 3) := by decide +kernel
theorem dX10_boardRefused_11 : decode cX10_boardRefused 11 = .ok (.iconst (-1), 1) := by decide +kernel
theorem dX10_boardRefused_12 : decode cX10_boardRefused 12 = .ok (.ireturn, 1) := by decide +kernel
theorem dX10_boardRefused_13 : decode cX10_boardRefused 13 = .ok (.aload_n 0, 1) := by decide +kernel
theorem dX10_boardRefused_14 : decode cX10_boardRefused 14 = .ok (.getfield 30, 3) := by decide +kernel
theorem dX10_boardRefused_17 : decode cX10_boardRefused 17 = .ok (.iload_n 2, 1) := by decide +kernel
theorem dX10_boardRefused_18 : decode cX10_boardRefused 18 = .ok (.aaload, 1) := by decide +kernel
theorem dX10_boardRefused_19 : decode cX10_boardRefused 19 = .ok (.getfield 305, 3) := by decide +kernel
theorem dX10_boardRefused_22 : decode cX10_boardRefused 22 = .ok (.ifCond .eq 7, 3) := by decide +kernel
theorem dX10_boardRefused_25 : decode cX10_boardRefused 25 = .ok (.iconst 0, 1) := by decide +kernel
theorem dX10_boardRefused_26 : decode cX10_boardRefused 26 = .ok (.goto 8, 3) := by decide +kernel
theorem dX10_boardRefused_29 : decode cX10_boardRefused 29 = .ok (.aload_n 0, 1) := by decide +kernel
theorem dX10_boardRefused_30 : decode cX10_boardRefused 30 = .ok (.iconst 1, 1) := by decide +kernel
theorem dX10_boardRefused_31 : decode cX10_boardRefused 31 = .ok (.invokevirtual 91, 3) := by decide +kernel
theorem dX10_boardRefused_34 : decode cX10_boardRefused 34 = .ok (.ireturn, 1) := by decide +kernel
set_option maxRecDepth 20000 in
theorem ggX10_cellRefused_X10_boardRefused : GoodIn wsX10_cellRefused wsX10_boardRefused := goodIn_r _ [6, 1, 7, 8, 5, 9, 10, 11, 12, 13, 14, 15, 23, 24, 25, 26, 27, 28, 29, 30, 31, 32, 33, 34, 35, 36, 37, 38, 39, 40, 41, 42, 43, 44, 45, 46, 47, 48, 49, 50, 51, 52, 53, 54, 55, 56, 57, 58, 59, 60] (by decide +kernel) (by decide +kernel)
set_option maxRecDepth 20000 in
theorem gX10_cellRefused_X10_boardRefused : GoodIn wsX10_cellRefused (wsV RX10 170 RX10 yX10_boardRefused wsX10_boardRefused) := goodIn_app (goodIn_of _ (by decide +kernel)) ggX10_cellRefused_X10_boardRefused
set_option maxRecDepth 20000 in
theorem ggX10_cellRefused_X0_hasCell : GoodIn wsX10_cellRefused wsX0_hasCell := goodIn_r _ [20, 21, 22, 42, 43, 44, 45, 46, 47, 48, 49, 50, 51, 52, 53, 54, 55, 56, 57, 58, 59, 60] (by decide +kernel) (by decide +kernel)
set_option maxRecDepth 20000 in
theorem gX10_cellRefused_X0_hasCell : GoodIn wsX10_cellRefused (wsV RX10 228 RX0 yX0_hasCell wsX0_hasCell) := goodIn_app (goodIn_of _ (by decide +kernel)) ggX10_cellRefused_X0_hasCell
set_option maxRecDepth 20000 in
theorem ggX10_cellRefused_X10_found : GoodIn wsX10_cellRefused wsX10_found := goodIn_r _ [13, 14, 15, 23, 24, 25, 26, 27, 28, 29, 30, 31, 32, 33, 34, 35, 36, 37, 38, 39, 40, 41] (by decide +kernel) (by decide +kernel)
set_option maxRecDepth 20000 in
theorem gX10_cellRefused_X10_found : GoodIn wsX10_cellRefused (wsV RX10 91 RX10 yX10_found wsX10_found) := goodIn_app (goodIn_of _ (by decide +kernel)) ggX10_cellRefused_X10_found
theorem dX10_cellRefused_0 : decode cX10_cellRefused 0 = .ok (.aload_n 0, 1) := by decide +kernel
theorem dX10_cellRefused_1 : decode cX10_cellRefused 1 = .ok (.iload_n 1, 1) := by decide +kernel
theorem dX10_cellRefused_2 : decode cX10_cellRefused 2 = .ok (.iload_n 2, 1) := by decide +kernel
theorem dX10_cellRefused_3 : decode cX10_cellRefused 3 = .ok (.invokevirtual 170, 3) := by decide +kernel
theorem dX10_cellRefused_6 : decode cX10_cellRefused 6 = .ok (.istore 4, 2) := by decide +kernel
theorem dX10_cellRefused_8 : decode cX10_cellRefused 8 = .ok (.iload 4, 2) := by decide +kernel
theorem dX10_cellRefused_10 : decode cX10_cellRefused 10 = .ok (.ifCond .eq 6, 3) := by decide +kernel
theorem dX10_cellRefused_13 : decode cX10_cellRefused 13 = .ok (.iload 4, 2) := by decide +kernel
theorem dX10_cellRefused_15 : decode cX10_cellRefused 15 = .ok (.ireturn, 1) := by decide +kernel
theorem dX10_cellRefused_16 : decode cX10_cellRefused 16 = .ok (.aload_n 0, 1) := by decide +kernel
theorem dX10_cellRefused_17 : decode cX10_cellRefused 17 = .ok (.getfield 30, 3) := by decide +kernel
theorem dX10_cellRefused_20 : decode cX10_cellRefused 20 = .ok (.iload_n 2, 1) := by decide +kernel
theorem dX10_cellRefused_21 : decode cX10_cellRefused 21 = .ok (.aaload, 1) := by decide +kernel
theorem dX10_cellRefused_22 : decode cX10_cellRefused 22 = .ok (.iload_n 3, 1) := by decide +kernel
theorem dX10_cellRefused_23 : decode cX10_cellRefused 23 = .ok (.invokevirtual 228, 3) := by decide +kernel
theorem dX10_cellRefused_26 : decode cX10_cellRefused 26 = .ok (.ifCond .eq 7, 3) := by decide +kernel
theorem dX10_cellRefused_29 : decode cX10_cellRefused 29 = .ok (.iconst 0, 1) := by decide +kernel
theorem dX10_cellRefused_30 : decode cX10_cellRefused 30 = .ok (.goto 8, 3) := by decide +kernel
theorem dX10_cellRefused_33 : decode cX10_cellRefused 33 = .ok (.aload_n 0, 1) := by decide +kernel
theorem dX10_cellRefused_34 : decode cX10_cellRefused 34 = .ok (.iconst 2, 1) := by decide +kernel
theorem dX10_cellRefused_35 : decode cX10_cellRefused 35 = .ok (.invokevirtual 91, 3) := by decide +kernel
theorem dX10_cellRefused_38 : decode cX10_cellRefused 38 = .ok (.ireturn, 1) := by decide +kernel
set_option maxRecDepth 20000 in
theorem ggX10_sideRefused_X10_boardRefused : GoodIn wsX10_sideRefused wsX10_boardRefused := goodIn_r _ [6, 1, 7, 8, 5, 9, 10, 11, 12, 13, 14, 15, 23, 24, 25, 26, 27, 28, 29, 30, 31, 32, 33, 34, 35, 36, 37, 38, 39, 40, 41, 42, 43, 44, 45, 46, 47, 48, 49, 50, 51, 52, 53, 54, 55, 56, 57, 58, 59, 60] (by decide +kernel) (by decide +kernel)
set_option maxRecDepth 20000 in
theorem gX10_sideRefused_X10_boardRefused : GoodIn wsX10_sideRefused (wsV RX10 170 RX10 yX10_boardRefused wsX10_boardRefused) := goodIn_app (goodIn_of _ (by decide +kernel)) ggX10_sideRefused_X10_boardRefused
set_option maxRecDepth 20000 in
theorem ggX10_sideRefused_X0_hasSide : GoodIn wsX10_sideRefused wsX0_hasSide := goodIn_r _ [20, 21, 22, 42, 43, 44, 45, 46, 47, 48, 49, 50, 51, 52, 53, 54, 55, 56, 57, 58, 59, 60] (by decide +kernel) (by decide +kernel)
set_option maxRecDepth 20000 in
theorem gX10_sideRefused_X0_hasSide : GoodIn wsX10_sideRefused (wsV RX10 472 RX0 yX0_hasSide wsX0_hasSide) := goodIn_app (goodIn_of _ (by decide +kernel)) ggX10_sideRefused_X0_hasSide
set_option maxRecDepth 20000 in
theorem ggX10_sideRefused_X10_found : GoodIn wsX10_sideRefused wsX10_found := goodIn_r _ [13, 14, 15, 23, 24, 25, 26, 27, 28, 29, 30, 31, 32, 33, 34, 35, 36, 37, 38, 39, 40, 41] (by decide +kernel) (by decide +kernel)
set_option maxRecDepth 20000 in
theorem gX10_sideRefused_X10_found : GoodIn wsX10_sideRefused (wsV RX10 91 RX10 yX10_found wsX10_found) := goodIn_app (goodIn_of _ (by decide +kernel)) ggX10_sideRefused_X10_found
theorem dX10_sideRefused_0 : decode cX10_sideRefused 0 = .ok (.aload_n 0, 1) := by decide +kernel
theorem dX10_sideRefused_1 : decode cX10_sideRefused 1 = .ok (.iconst 1, 1) := by decide +kernel
theorem dX10_sideRefused_2 : decode cX10_sideRefused 2 = .ok (.iload_n 1, 1) := by decide +kernel
theorem dX10_sideRefused_3 : decode cX10_sideRefused 3 = .ok (.invokevirtual 170, 3) := by decide +kernel
theorem dX10_sideRefused_6 : decode cX10_sideRefused 6 = .ok (.istore_n 3, 1) := by decide +kernel
theorem dX10_sideRefused_7 : decode cX10_sideRefused 7 = .ok (.iload_n 3, 1) := by decide +kernel
theorem dX10_sideRefused_8 : decode cX10_sideRefused 8 = .ok (.ifCond .eq 5, 3) := by decide +kernel
theorem dX10_sideRefused_11 : decode cX10_sideRefused 11 = .ok (.iload_n 3, 1) := by decide +kernel
theorem dX10_sideRefused_12 : decode cX10_sideRefused 12 = .ok (.ireturn, 1) := by decide +kernel
theorem dX10_sideRefused_13 : decode cX10_sideRefused 13 = .ok (.aload_n 0, 1) := by decide +kernel
theorem dX10_sideRefused_14 : decode cX10_sideRefused 14 = .ok (.getfield 30, 3) := by decide +kernel
theorem dX10_sideRefused_17 : decode cX10_sideRefused 17 = .ok (.iload_n 1, 1) := by decide +kernel
theorem dX10_sideRefused_18 : decode cX10_sideRefused 18 = .ok (.aaload, 1) := by decide +kernel
theorem dX10_sideRefused_19 : decode cX10_sideRefused 19 = .ok (.iload_n 2, 1) := by decide +kernel
theorem dX10_sideRefused_20 : decode cX10_sideRefused 20 = .ok (.invokevirtual 472, 3) := by decide +kernel
theorem dX10_sideRefused_23 : decode cX10_sideRefused 23 = .ok (.ifCond .eq 7, 3) := by decide +kernel
theorem dX10_sideRefused_26 : decode cX10_sideRefused 26 = .ok (.iconst 0, 1) := by decide +kernel
theorem dX10_sideRefused_27 : decode cX10_sideRefused 27 = .ok (.goto 8, 3) := by decide +kernel
theorem dX10_sideRefused_30 : decode cX10_sideRefused 30 = .ok (.aload_n 0, 1) := by decide +kernel
theorem dX10_sideRefused_31 : decode cX10_sideRefused 31 = .ok (.iconst 2, 1) := by decide +kernel
theorem dX10_sideRefused_32 : decode cX10_sideRefused 32 = .ok (.invokevirtual 91, 3) := by decide +kernel
theorem dX10_sideRefused_35 : decode cX10_sideRefused 35 = .ok (.ireturn, 1) := by decide +kernel
theorem dX10_within_0 : decode cX10_within 0 = .ok (.iload_n 0, 1) := by decide +kernel
theorem dX10_within_1 : decode cX10_within 1 = .ok (.iload_n 1, 1) := by decide +kernel
theorem dX10_within_2 : decode cX10_within 2 = .ok (.if_icmp .lt 12, 3) := by decide +kernel
theorem dX10_within_5 : decode cX10_within 5 = .ok (.iload_n 0, 1) := by decide +kernel
theorem dX10_within_6 : decode cX10_within 6 = .ok (.iload_n 2, 1) := by decide +kernel
theorem dX10_within_7 : decode cX10_within 7 = .ok (.if_icmp .gt 7, 3) := by decide +kernel
theorem dX10_within_10 : decode cX10_within 10 = .ok (.iconst 1, 1) := by decide +kernel
theorem dX10_within_11 : decode cX10_within 11 = .ok (.goto 4, 3) := by decide +kernel
theorem dX10_within_14 : decode cX10_within 14 = .ok (.iconst 0, 1) := by decide +kernel
theorem dX10_within_15 : decode cX10_within 15 = .ok (.ireturn, 1) := by decide +kernel
theorem dX10_isBoard_0 : decode cX10_isBoard 0 = .ok (.iload_n 0, 1) := by decide +kernel
theorem dX10_isBoard_1 : decode cX10_isBoard 1 = .ok (.ifCond .lt 13, 3) := by decide +kernel
theorem dX10_isBoard_4 : decode cX10_isBoard 4 = .ok (.iload_n 0, 1) := by decide +kernel
theorem dX10_isBoard_5 : decode cX10_isBoard 5 = .ok (.bipush 6, 2) := by decide +kernel
theorem dX10_isBoard_7 : decode cX10_isBoard 7 = .ok (.if_icmp .ge 7, 3) := by decide +kernel
theorem dX10_isBoard_10 : decode cX10_isBoard 10 = .ok (.iconst 1, 1) := by decide +kernel
theorem dX10_isBoard_11 : decode cX10_isBoard 11 = .ok (.goto 4, 3) := by decide +kernel
theorem dX10_isBoard_14 : decode cX10_isBoard 14 = .ok (.iconst 0, 1) := by decide +kernel
theorem dX10_isBoard_15 : decode cX10_isBoard 15 = .ok (.ireturn, 1) := by decide +kernel
theorem dX10_isGauge_0 : decode cX10_isGauge 0 = .ok (.iload_n 0, 1) := by decide +kernel
theorem dX10_isGauge_1 : decode cX10_isGauge 1 = .ok (.ifCond .lt 13, 3) := by decide +kernel
theorem dX10_isGauge_4 : decode cX10_isGauge 4 = .ok (.iload_n 0, 1) := by decide +kernel
theorem dX10_isGauge_5 : decode cX10_isGauge 5 = .ok (.bipush 8, 2) := by decide +kernel
theorem dX10_isGauge_7 : decode cX10_isGauge 7 = .ok (.if_icmp .ge 7, 3) := by decide +kernel
theorem dX10_isGauge_10 : decode cX10_isGauge 10 = .ok (.iconst 1, 1) := by decide +kernel
theorem dX10_isGauge_11 : decode cX10_isGauge 11 = .ok (.goto 4, 3) := by decide +kernel
theorem dX10_isGauge_14 : decode cX10_isGauge 14 = .ok (.iconst 0, 1) := by decide +kernel
theorem dX10_isGauge_15 : decode cX10_isGauge 15 = .ok (.ireturn, 1) := by decide +kernel
