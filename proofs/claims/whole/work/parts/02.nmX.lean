set_option maxRecDepth 20000 in
theorem ggX0_init_X3_init : GoodIn wsX0_init wsX3_init := goodIn_r _ [28, 29, 2, 3, 30, 31, 62, 63, 64, 65] (by decide +kernel) (by decide +kernel)
set_option maxRecDepth 20000 in
theorem gX0_init_X3_init_n30 : GoodIn wsX0_init (wsX3_init) := ggX0_init_X3_init
set_option maxRecDepth 20000 in
theorem ggX0_init_X5_init : GoodIn wsX0_init wsX5_init := goodIn_r _ [33, 34, 2, 3, 4, 35, 36, 66, 67, 68] (by decide +kernel) (by decide +kernel)
set_option maxRecDepth 20000 in
theorem gX0_init_X5_init_n37 : GoodIn wsX0_init (wsX5_init) := ggX0_init_X5_init
set_option maxRecDepth 20000 in
theorem ggX0_init_X4_init : GoodIn wsX0_init wsX4_init := goodIn_r _ [38, 39, 2, 3, 4, 40, 41, 42, 69, 70, 71, 72, 73] (by decide +kernel) (by decide +kernel)
set_option maxRecDepth 20000 in
theorem gX0_init_X4_init_n44 : GoodIn wsX0_init (wsX4_init) := ggX0_init_X4_init
theorem dX0_init_0 : decode cX0_init 0 = .ok (.aload_n 0, 1) := by decide +kernel
theorem dX0_init_1 : decode cX0_init 1 = .ok (.invokespecial 3, 3) := by decide +kernel
theorem dX0_init_4 : decode cX0_init 4 = .ok (.aload_n 0, 1) := by decide +kernel
theorem dX0_init_5 : decode cX0_init 5 = .ok (.bipush 48, 2) := by decide +kernel
theorem dX0_init_7 : decode cX0_init 7 = .ok (.newarray .int, 2) := by decide +kernel
theorem dX0_init_9 : decode cX0_init 9 = .ok (.putfield 9, 3) := by decide +kernel
theorem dX0_init_12 : decode cX0_init 12 = .ok (.aload_n 0, 1) := by decide +kernel
theorem dX0_init_13 : decode cX0_init 13 = .ok (.bipush 48, 2) := by decide +kernel
theorem dX0_init_15 : decode cX0_init 15 = .ok (.newarray .int, 2) := by decide +kernel
theorem dX0_init_17 : decode cX0_init 17 = .ok (.putfield 15, 3) := by decide +kernel
theorem dX0_init_20 : decode cX0_init 20 = .ok (.aload_n 0, 1) := by decide +kernel
theorem dX0_init_21 : decode cX0_init 21 = .ok (.sipush 144, 3) := by decide +kernel
theorem dX0_init_24 : decode cX0_init 24 = .ok (.newarray .int, 2) := by decide +kernel
theorem dX0_init_26 : decode cX0_init 26 = .ok (.putfield 18, 3) := by decide +kernel
theorem dX0_init_29 : decode cX0_init 29 = .ok (.aload_n 0, 1) := by decide +kernel
theorem dX0_init_30 : decode cX0_init 30 = .ok (.bipush 96, 2) := by decide +kernel
theorem dX0_init_32 : decode cX0_init 32 = .ok (.newarray .int, 2) := by decide +kernel
theorem dX0_init_34 : decode cX0_init 34 = .ok (.putfield 21, 3) := by decide +kernel
theorem dX0_init_37 : decode cX0_init 37 = .ok (.aload_n 0, 1) := by decide +kernel
theorem dX0_init_38 : decode cX0_init 38 = .ok (.bipush 96, 2) := by decide +kernel
theorem dX0_init_40 : decode cX0_init 40 = .ok (.newarray .boolean, 2) := by decide +kernel
theorem dX0_init_42 : decode cX0_init 42 = .ok (.putfield 24, 3) := by decide +kernel
theorem dX0_init_45 : decode cX0_init 45 = .ok (.aload_n 0, 1) := by decide +kernel
theorem dX0_init_46 : decode cX0_init 46 = .ok (.new 28, 3) := by decide +kernel
theorem dX0_init_49 : decode cX0_init 49 = .ok (.dup, 1) := by decide +kernel
theorem dX0_init_50 : decode cX0_init 50 = .ok (.invokespecial 30, 3) := by decide +kernel
theorem dX0_init_53 : decode cX0_init 53 = .ok (.putfield 31, 3) := by decide +kernel
theorem dX0_init_56 : decode cX0_init 56 = .ok (.aload_n 0, 1) := by decide +kernel
theorem dX0_init_57 : decode cX0_init 57 = .ok (.new 35, 3) := by decide +kernel
theorem dX0_init_60 : decode cX0_init 60 = .ok (.dup, 1) := by decide +kernel
theorem dX0_init_61 : decode cX0_init 61 = .ok (.invokespecial 37, 3) := by decide +kernel
theorem dX0_init_64 : decode cX0_init 64 = .ok (.putfield 38, 3) := by decide +kernel
theorem dX0_init_67 : decode cX0_init 67 = .ok (.aload_n 0, 1) := by decide +kernel
theorem dX0_init_68 : decode cX0_init 68 = .ok (.new 42, 3) := by decide +kernel
theorem dX0_init_71 : decode cX0_init 71 = .ok (.dup, 1) := by decide +kernel
theorem dX0_init_72 : decode cX0_init 72 = .ok (.invokespecial 44, 3) := by decide +kernel
theorem dX0_init_75 : decode cX0_init 75 = .ok (.putfield 45, 3) := by decide +kernel
theorem dX0_init_78 : decode cX0_init 78 = .ok (.aload_n 0, 1) := by decide +kernel
theorem dX0_init_79 : decode cX0_init 79 = .ok (.iconst 4, 1) := by decide +kernel
theorem dX0_init_80 : decode cX0_init 80 = .ok (.newarray .int, 2) := by decide +kernel
theorem dX0_init_82 : decode cX0_init 82 = .ok (.putfield 49, 3) := by decide +kernel
theorem dX0_init_85 : decode cX0_init 85 = .ok (.aload_n 0, 1) := by decide +kernel
theorem dX0_init_86 : decode cX0_init 86 = .ok (.iconst 2, 1) := by decide +kernel
theorem dX0_init_87 : decode cX0_init 87 = .ok (.putfield 52, 3) := by decide +kernel
theorem dX0_init_90 : decode cX0_init 90 = .ok (.aload_n 0, 1) := by decide +kernel
theorem dX0_init_91 : decode cX0_init 91 = .ok (.iconst 1, 1) := by decide +kernel
theorem dX0_init_92 : decode cX0_init 92 = .ok (.putfield 56, 3) := by decide +kernel
theorem dX0_init_95 : decode cX0_init 95 = .ok (.aload_n 0, 1) := by decide +kernel
theorem dX0_init_96 : decode cX0_init 96 = .ok (.bipush (-9), 2) := by decide +kernel
theorem dX0_init_98 : decode cX0_init 98 = .ok (.putfield 59, 3) := by decide +kernel
theorem dX0_init_101 : decode cX0_init 101 = .ok (.return_, 1) := by decide +kernel
set_option maxRecDepth 20000 in
theorem ggX0_reset_X3_reset : GoodIn wsX0_reset wsX3_reset := goodIn_r _ [23, 24, 25, 26, 27, 55, 56, 57, 58] (by decide +kernel) (by decide +kernel)
set_option maxRecDepth 20000 in
theorem gX0_reset_X3_reset : GoodIn wsX0_reset (wsV RX0 87 RX3 yX3_reset wsX3_reset) := goodIn_app (goodIn_of _ (by decide +kernel)) ggX0_reset_X3_reset
theorem dX0_reset_0 : decode cX0_reset 0 = .ok (.aload_n 0, 1) := by decide +kernel
theorem dX0_reset_1 : decode cX0_reset 1 = .ok (.iconst 1, 1) := by decide +kernel
theorem dX0_reset_2 : decode cX0_reset 2 = .ok (.putfield 62, 3) := by decide +kernel
theorem dX0_reset_5 : decode cX0_reset 5 = .ok (.aload_n 0, 1) := by decide +kernel
theorem dX0_reset_6 : decode cX0_reset 6 = .ok (.iload_n 1, 1) := by decide +kernel
theorem dX0_reset_7 : decode cX0_reset 7 = .ok (.putfield 66, 3) := by decide +kernel
theorem dX0_reset_10 : decode cX0_reset 10 = .ok (.aload_n 0, 1) := by decide +kernel
theorem dX0_reset_11 : decode cX0_reset 11 = .ok (.iload_n 2, 1) := by decide +kernel
theorem dX0_reset_12 : decode cX0_reset 12 = .ok (.putfield 52, 3) := by decide +kernel
theorem dX0_reset_15 : decode cX0_reset 15 = .ok (.aload_n 0, 1) := by decide +kernel
theorem dX0_reset_16 : decode cX0_reset 16 = .ok (.iload_n 3, 1) := by decide +kernel
theorem dX0_reset_17 : decode cX0_reset 17 = .ok (.putfield 56, 3) := by decide +kernel
theorem dX0_reset_20 : decode cX0_reset 20 = .ok (.aload_n 0, 1) := by decide +kernel
theorem dX0_reset_21 : decode cX0_reset 21 = .ok (.iconst 0, 1) := by decide +kernel
theorem dX0_reset_22 : decode cX0_reset 22 = .ok (.putfield 69, 3) := by decide +kernel
theorem dX0_reset_25 : decode cX0_reset 25 = .ok (.aload_n 0, 1) := by decide +kernel
theorem dX0_reset_26 : decode cX0_reset 26 = .ok (.iconst 0, 1) := by decide +kernel
theorem dX0_reset_27 : decode cX0_reset 27 = .ok (.putfield 72, 3) := by decide +kernel
theorem dX0_reset_30 : decode cX0_reset 30 = .ok (.aload_n 0, 1) := by decide +kernel
theorem dX0_reset_31 : decode cX0_reset 31 = .ok (.iconst 0, 1) := by decide +kernel
theorem dX0_reset_32 : decode cX0_reset 32 = .ok (.putfield 75, 3) := by decide +kernel
theorem dX0_reset_35 : decode cX0_reset 35 = .ok (.aload_n 0, 1) := by decide +kernel
theorem dX0_reset_36 : decode cX0_reset 36 = .ok (.bipush (-9), 2) := by decide +kernel
theorem dX0_reset_38 : decode cX0_reset 38 = .ok (.putfield 59, 3) := by decide +kernel
theorem dX0_reset_41 : decode cX0_reset 41 = .ok (.aload_n 0, 1) := by decide +kernel
theorem dX0_reset_42 : decode cX0_reset 42 = .ok (.iconst 0, 1) := by decide +kernel
theorem dX0_reset_43 : decode cX0_reset 43 = .ok (.putfield 78, 3) := by decide +kernel
theorem dX0_reset_46 : decode cX0_reset 46 = .ok (.aload_n 0, 1) := by decide +kernel
theorem dX0_reset_47 : decode cX0_reset 47 = .ok (.iconst 0, 1) := by decide +kernel
theorem dX0_reset_48 : decode cX0_reset 48 = .ok (.putfield 81, 3) := by decide +kernel
theorem dX0_reset_51 : decode cX0_reset 51 = .ok (.aload_n 0, 1) := by decide +kernel
theorem dX0_reset_52 : decode cX0_reset 52 = .ok (.getfield 38, 3) := by decide +kernel
theorem dX0_reset_55 : decode cX0_reset 55 = .ok (.iconst 0, 1) := by decide +kernel
theorem dX0_reset_56 : decode cX0_reset 56 = .ok (.putfield 84, 3) := by decide +kernel
theorem dX0_reset_59 : decode cX0_reset 59 = .ok (.aload_n 0, 1) := by decide +kernel
theorem dX0_reset_60 : decode cX0_reset 60 = .ok (.getfield 31, 3) := by decide +kernel
theorem dX0_reset_63 : decode cX0_reset 63 = .ok (.invokevirtual 87, 3) := by decide +kernel
theorem dX0_reset_66 : decode cX0_reset 66 = .ok (.aload_n 0, 1) := by decide +kernel
theorem dX0_reset_67 : decode cX0_reset 67 = .ok (.getfield 45, 3) := by decide +kernel
theorem dX0_reset_70 : decode cX0_reset 70 = .ok (.bipush (-9), 2) := by decide +kernel
theorem dX0_reset_72 : decode cX0_reset 72 = .ok (.putfield 90, 3) := by decide +kernel
theorem dX0_reset_75 : decode cX0_reset 75 = .ok (.iconst 0, 1) := by decide +kernel
theorem dX0_reset_76 : decode cX0_reset 76 = .ok (.istore 4, 2) := by decide +kernel
theorem dX0_reset_78 : decode cX0_reset 78 = .ok (.iload 4, 2) := by decide +kernel
theorem dX0_reset_80 : decode cX0_reset 80 = .ok (.bipush 48, 2) := by decide +kernel
theorem dX0_reset_82 : decode cX0_reset 82 = .ok (.if_icmp .ge 25, 3) := by decide +kernel
theorem dX0_reset_85 : decode cX0_reset 85 = .ok (.aload_n 0, 1) := by decide +kernel
theorem dX0_reset_86 : decode cX0_reset 86 = .ok (.getfield 9, 3) := by decide +kernel
theorem dX0_reset_89 : decode cX0_reset 89 = .ok (.iload 4, 2) := by decide +kernel
theorem dX0_reset_91 : decode cX0_reset 91 = .ok (.iconst 0, 1) := by decide +kernel
theorem dX0_reset_92 : decode cX0_reset 92 = .ok (.iastore, 1) := by decide +kernel
theorem dX0_reset_93 : decode cX0_reset 93 = .ok (.aload_n 0, 1) := by decide +kernel
theorem dX0_reset_94 : decode cX0_reset 94 = .ok (.getfield 15, 3) := by decide +kernel
theorem dX0_reset_97 : decode cX0_reset 97 = .ok (.iload 4, 2) := by decide +kernel
theorem dX0_reset_99 : decode cX0_reset 99 = .ok (.iconst 0, 1) := by decide +kernel
theorem dX0_reset_100 : decode cX0_reset 100 = .ok (.iastore, 1) := by decide +kernel
theorem dX0_reset_101 : decode cX0_reset 101 = .ok (.iinc 4 1, 3) := by decide +kernel
theorem dX0_reset_104 : decode cX0_reset 104 = .ok (.goto (-26), 3) := by decide +kernel
theorem dX0_reset_107 : decode cX0_reset 107 = .ok (.iconst 0, 1) := by decide +kernel
theorem dX0_reset_108 : decode cX0_reset 108 = .ok (.istore 4, 2) := by decide +kernel
theorem dX0_reset_110 : decode cX0_reset 110 = .ok (.iload 4, 2) := by decide +kernel
theorem dX0_reset_112 : decode cX0_reset 112 = .ok (.sipush 144, 3) := by decide +kernel
theorem dX0_reset_115 : decode cX0_reset 115 = .ok (.if_icmp .ge 17, 3) := by decide +kernel
theorem dX0_reset_118 : decode cX0_reset 118 = .ok (.aload_n 0, 1) := by decide +kernel
theorem dX0_reset_119 : decode cX0_reset 119 = .ok (.getfield 18, 3) := by decide +kernel
theorem dX0_reset_122 : decode cX0_reset 122 = .ok (.iload 4, 2) := by decide +kernel
theorem dX0_reset_124 : decode cX0_reset 124 = .ok (.iconst 0, 1) := by decide +kernel
theorem dX0_reset_125 : decode cX0_reset 125 = .ok (.iastore, 1) := by decide +kernel
theorem dX0_reset_126 : decode cX0_reset 126 = .ok (.iinc 4 1, 3) := by decide +kernel
theorem dX0_reset_129 : decode cX0_reset 129 = .ok (.goto (-19), 3) := by decide +kernel
theorem dX0_reset_132 : decode cX0_reset 132 = .ok (.iconst 0, 1) := by decide +kernel
theorem dX0_reset_133 : decode cX0_reset 133 = .ok (.istore 4, 2) := by decide +kernel
theorem dX0_reset_135 : decode cX0_reset 135 = .ok (.iload 4, 2) := by decide +kernel
theorem dX0_reset_137 : decode cX0_reset 137 = .ok (.bipush 96, 2) := by decide +kernel
theorem dX0_reset_139 : decode cX0_reset 139 = .ok (.if_icmp .ge 25, 3) := by decide +kernel
theorem dX0_reset_142 : decode cX0_reset 142 = .ok (.aload_n 0, 1) := by decide +kernel
theorem dX0_reset_143 : decode cX0_reset 143 = .ok (.getfield 21, 3) := by decide +kernel
theorem dX0_reset_146 : decode cX0_reset 146 = .ok (.iload 4, 2) := by decide +kernel
theorem dX0_reset_148 : decode cX0_reset 148 = .ok (.iconst 0, 1) := by decide +kernel
theorem dX0_reset_149 : decode cX0_reset 149 = .ok (.iastore, 1) := by decide +kernel
theorem dX0_reset_150 : decode cX0_reset 150 = .ok (.aload_n 0, 1) := by decide +kernel
theorem dX0_reset_151 : decode cX0_reset 151 = .ok (.getfield 24, 3) := by decide +kernel
theorem dX0_reset_154 : decode cX0_reset 154 = .ok (.iload 4, 2) := by decide +kernel
theorem dX0_reset_156 : decode cX0_reset 156 = .ok (.iconst 0, 1) := by decide +kernel
theorem dX0_reset_157 : decode cX0_reset 157 = .ok (.bastore, 1) := by decide +kernel
theorem dX0_reset_158 : decode cX0_reset 158 = .ok (.iinc 4 1, 3) := by decide +kernel
theorem dX0_reset_161 : decode cX0_reset 161 = .ok (.goto (-26), 3) := by decide +kernel
theorem dX0_reset_164 : decode cX0_reset 164 = .ok (.return_, 1) := by decide +kernel
set_option maxRecDepth 20000 in
theorem ggX0_takeOver_X5_takeOver : GoodIn wsX0_takeOver wsX5_takeOver := goodIn_r _ [28, 29, 30, 31, 65, 66, 67] (by decide +kernel) (by decide +kernel)
set_option maxRecDepth 20000 in
theorem gX0_takeOver_X5_takeOver : GoodIn wsX0_takeOver (wsV RX0 93 RX5 yX5_takeOver wsX5_takeOver) := goodIn_app (goodIn_of _ (by decide +kernel)) ggX0_takeOver_X5_takeOver
set_option maxRecDepth 20000 in
theorem ggX0_takeOver_X3_takeOver : GoodIn wsX0_takeOver wsX3_takeOver := goodIn_r _ [36, 37, 38, 39, 40, 68, 69, 70, 71] (by decide +kernel) (by decide +kernel)
set_option maxRecDepth 20000 in
theorem gX0_takeOver_X3_takeOver : GoodIn wsX0_takeOver (wsV RX0 97 RX3 yX3_takeOver wsX3_takeOver) := goodIn_app (goodIn_of _ (by decide +kernel)) ggX0_takeOver_X3_takeOver
theorem dX0_takeOver_0 : decode cX0_takeOver 0 = .ok (.aload_n 0, 1) := by decide +kernel
theorem dX0_takeOver_1 : decode cX0_takeOver 1 = .ok (.aload_n 1, 1) := by decide +kernel
theorem dX0_takeOver_2 : decode cX0_takeOver 2 = .ok (.getfield 62, 3) := by decide +kernel
theorem dX0_takeOver_5 : decode cX0_takeOver 5 = .ok (.putfield 62, 3) := by decide +kernel
theorem dX0_takeOver_8 : decode cX0_takeOver 8 = .ok (.aload_n 0, 1) := by decide +kernel
theorem dX0_takeOver_9 : decode cX0_takeOver 9 = .ok (.aload_n 1, 1) := by decide +kernel
theorem dX0_takeOver_10 : decode cX0_takeOver 10 = .ok (.getfield 66, 3) := by decide +kernel
theorem dX0_takeOver_13 : decode cX0_takeOver 13 = .ok (.putfield 66, 3) := by decide +kernel
theorem dX0_takeOver_16 : decode cX0_takeOver 16 = .ok (.aload_n 0, 1) := by decide +kernel
theorem dX0_takeOver_17 : decode cX0_takeOver 17 = .ok (.aload_n 1, 1) := by decide +kernel
theorem dX0_takeOver_18 : decode cX0_takeOver 18 = .ok (.getfield 52, 3) := by decide +kernel
theorem dX0_takeOver_21 : decode cX0_takeOver 21 = .ok (.putfield 52, 3) := by decide +kernel
theorem dX0_takeOver_24 : decode cX0_takeOver 24 = .ok (.aload_n 0, 1) := by decide +kernel
theorem dX0_takeOver_25 : decode cX0_takeOver 25 = .ok (.aload_n 1, 1) := by decide +kernel
theorem dX0_takeOver_26 : decode cX0_takeOver 26 = .ok (.getfield 56, 3) := by decide +kernel
theorem dX0_takeOver_29 : decode cX0_takeOver 29 = .ok (.putfield 56, 3) := by decide +kernel
theorem dX0_takeOver_32 : decode cX0_takeOver 32 = .ok (.aload_n 0, 1) := by decide +kernel
theorem dX0_takeOver_33 : decode cX0_takeOver 33 = .ok (.aload_n 1, 1) := by decide +kernel
theorem dX0_takeOver_34 : decode cX0_takeOver 34 = .ok (.getfield 69, 3) := by decide +kernel
theorem dX0_takeOver_37 : decode cX0_takeOver 37 = .ok (.putfield 69, 3) := by decide +kernel
theorem dX0_takeOver_40 : decode cX0_takeOver 40 = .ok (.aload_n 0, 1) := by decide +kernel
theorem dX0_takeOver_41 : decode cX0_takeOver 41 = .ok (.aload_n 1, 1) := by decide +kernel
theorem dX0_takeOver_42 : decode cX0_takeOver 42 = .ok (.getfield 72, 3) := by decide +kernel
theorem dX0_takeOver_45 : decode cX0_takeOver 45 = .ok (.putfield 72, 3) := by decide +kernel
theorem dX0_takeOver_48 : decode cX0_takeOver 48 = .ok (.aload_n 0, 1) := by decide +kernel
theorem dX0_takeOver_49 : decode cX0_takeOver 49 = .ok (.aload_n 1, 1) := by decide +kernel
theorem dX0_takeOver_50 : decode cX0_takeOver 50 = .ok (.getfield 75, 3) := by decide +kernel
theorem dX0_takeOver_53 : decode cX0_takeOver 53 = .ok (.putfield 75, 3) := by decide +kernel
theorem dX0_takeOver_56 : decode cX0_takeOver 56 = .ok (.aload_n 0, 1) := by decide +kernel
theorem dX0_takeOver_57 : decode cX0_takeOver 57 = .ok (.aload_n 1, 1) := by decide +kernel
theorem dX0_takeOver_58 : decode cX0_takeOver 58 = .ok (.getfield 59, 3) := by decide +kernel
theorem dX0_takeOver_61 : decode cX0_takeOver 61 = .ok (.putfield 59, 3) := by decide +kernel
theorem dX0_takeOver_64 : decode cX0_takeOver 64 = .ok (.aload_n 0, 1) := by decide +kernel
theorem dX0_takeOver_65 : decode cX0_takeOver 65 = .ok (.aload_n 1, 1) := by decide +kernel
theorem dX0_takeOver_66 : decode cX0_takeOver 66 = .ok (.getfield 78, 3) := by decide +kernel
theorem dX0_takeOver_69 : decode cX0_takeOver 69 = .ok (.putfield 78, 3) := by decide +kernel
theorem dX0_takeOver_72 : decode cX0_takeOver 72 = .ok (.aload_n 0, 1) := by decide +kernel
theorem dX0_takeOver_73 : decode cX0_takeOver 73 = .ok (.aload_n 1, 1) := by decide +kernel
theorem dX0_takeOver_74 : decode cX0_takeOver 74 = .ok (.getfield 81, 3) := by decide +kernel
theorem dX0_takeOver_77 : decode cX0_takeOver 77 = .ok (.putfield 81, 3) := by decide +kernel
theorem dX0_takeOver_80 : decode cX0_takeOver 80 = .ok (.aload_n 0, 1) := by decide +kernel
theorem dX0_takeOver_81 : decode cX0_takeOver 81 = .ok (.getfield 38, 3) := by decide +kernel
theorem dX0_takeOver_84 : decode cX0_takeOver 84 = .ok (.aload_n 1, 1) := by decide +kernel
theorem dX0_takeOver_85 : decode cX0_takeOver 85 = .ok (.getfield 38, 3) := by decide +kernel
theorem dX0_takeOver_88 : decode cX0_takeOver 88 = .ok (.invokevirtual 93, 3) := by decide +kernel
theorem dX0_takeOver_91 : decode cX0_takeOver 91 = .ok (.aload_n 0, 1) := by decide +kernel
theorem dX0_takeOver_92 : decode cX0_takeOver 92 = .ok (.getfield 31, 3) := by decide +kernel
theorem dX0_takeOver_95 : decode cX0_takeOver 95 = .ok (.aload_n 1, 1) := by decide +kernel
theorem dX0_takeOver_96 : decode cX0_takeOver 96 = .ok (.getfield 31, 3) := by decide +kernel
theorem dX0_takeOver_99 : decode cX0_takeOver 99 = .ok (.invokevirtual 97, 3) := by decide +kernel
theorem dX0_takeOver_102 : decode cX0_takeOver 102 = .ok (.aload_n 0, 1) := by decide +kernel
theorem dX0_takeOver_103 : decode cX0_takeOver 103 = .ok (.getfield 45, 3) := by decide +kernel
theorem dX0_takeOver_106 : decode cX0_takeOver 106 = .ok (.bipush (-9), 2) := by decide +kernel
theorem dX0_takeOver_108 : decode cX0_takeOver 108 = .ok (.putfield 90, 3) := by decide +kernel
theorem dX0_takeOver_111 : decode cX0_takeOver 111 = .ok (.aload_n 1, 1) := by decide +kernel
theorem dX0_takeOver_112 : decode cX0_takeOver 112 = .ok (.getfield 9, 3) := by decide +kernel
theorem dX0_takeOver_115 : decode cX0_takeOver 115 = .ok (.iconst 0, 1) := by decide +kernel
theorem dX0_takeOver_116 : decode cX0_takeOver 116 = .ok (.aload_n 0, 1) := by decide +kernel
theorem dX0_takeOver_117 : decode cX0_takeOver 117 = .ok (.getfield 9, 3) := by decide +kernel
theorem dX0_takeOver_120 : decode cX0_takeOver 120 = .ok (.iconst 0, 1) := by decide +kernel
theorem dX0_takeOver_121 : decode cX0_takeOver 121 = .ok (.bipush 48, 2) := by decide +kernel
theorem dX0_takeOver_123 : decode cX0_takeOver 123 = .ok (.invokestatic 100, 3) := by decide +kernel
theorem dX0_takeOver_126 : decode cX0_takeOver 126 = .ok (.aload_n 1, 1) := by decide +kernel
theorem dX0_takeOver_127 : decode cX0_takeOver 127 = .ok (.getfield 15, 3) := by decide +kernel
theorem dX0_takeOver_130 : decode cX0_takeOver 130 = .ok (.iconst 0, 1) := by decide +kernel
theorem dX0_takeOver_131 : decode cX0_takeOver 131 = .ok (.aload_n 0, 1) := by decide +kernel
theorem dX0_takeOver_132 : decode cX0_takeOver 132 = .ok (.getfield 15, 3) := by decide +kernel
theorem dX0_takeOver_135 : decode cX0_takeOver 135 = .ok (.iconst 0, 1) := by decide +kernel
theorem dX0_takeOver_136 : decode cX0_takeOver 136 = .ok (.bipush 48, 2) := by decide +kernel
theorem dX0_takeOver_138 : decode cX0_takeOver 138 = .ok (.invokestatic 100, 3) := by decide +kernel
theorem dX0_takeOver_141 : decode cX0_takeOver 141 = .ok (.aload_n 1, 1) := by decide +kernel
theorem dX0_takeOver_142 : decode cX0_takeOver 142 = .ok (.getfield 18, 3) := by decide +kernel
theorem dX0_takeOver_145 : decode cX0_takeOver 145 = .ok (.iconst 0, 1) := by decide +kernel
theorem dX0_takeOver_146 : decode cX0_takeOver 146 = .ok (.aload_n 0, 1) := by decide +kernel
theorem dX0_takeOver_147 : decode cX0_takeOver 147 = .ok (.getfield 18, 3) := by decide +kernel
theorem dX0_takeOver_150 : decode cX0_takeOver 150 = .ok (.iconst 0, 1) := by decide +kernel
theorem dX0_takeOver_151 : decode cX0_takeOver 151 = .ok (.sipush 144, 3) := by decide +kernel
theorem dX0_takeOver_154 : decode cX0_takeOver 154 = .ok (.invokestatic 100, 3) := by decide +kernel
theorem dX0_takeOver_157 : decode cX0_takeOver 157 = .ok (.aload_n 1, 1) := by decide +kernel
theorem dX0_takeOver_158 : decode cX0_takeOver 158 = .ok (.getfield 21, 3) := by decide +kernel
theorem dX0_takeOver_161 : decode cX0_takeOver 161 = .ok (.iconst 0, 1) := by decide +kernel
theorem dX0_takeOver_162 : decode cX0_takeOver 162 = .ok (.aload_n 0, 1) := by decide +kernel
theorem dX0_takeOver_163 : decode cX0_takeOver 163 = .ok (.getfield 21, 3) := by decide +kernel
theorem dX0_takeOver_166 : decode cX0_takeOver 166 = .ok (.iconst 0, 1) := by decide +kernel
theorem dX0_takeOver_167 : decode cX0_takeOver 167 = .ok (.bipush 96, 2) := by decide +kernel
theorem dX0_takeOver_169 : decode cX0_takeOver 169 = .ok (.invokestatic 100, 3) := by decide +kernel
theorem dX0_takeOver_172 : decode cX0_takeOver 172 = .ok (.aload_n 1, 1) := by decide +kernel
theorem dX0_takeOver_173 : decode cX0_takeOver 173 = .ok (.getfield 49, 3) := by decide +kernel
theorem dX0_takeOver_176 : decode cX0_takeOver 176 = .ok (.iconst 0, 1) := by decide +kernel
theorem dX0_takeOver_177 : decode cX0_takeOver 177 = .ok (.aload_n 0, 1) := by decide +kernel
theorem dX0_takeOver_178 : decode cX0_takeOver 178 = .ok (.getfield 49, 3) := by decide +kernel
theorem dX0_takeOver_181 : decode cX0_takeOver 181 = .ok (.iconst 0, 1) := by decide +kernel
theorem dX0_takeOver_182 : decode cX0_takeOver 182 = .ok (.iconst 4, 1) := by decide +kernel
theorem dX0_takeOver_183 : decode cX0_takeOver 183 = .ok (.invokestatic 100, 3) := by decide +kernel
theorem dX0_takeOver_186 : decode cX0_takeOver 186 = .ok (.iconst 0, 1) := by decide +kernel
theorem dX0_takeOver_187 : decode cX0_takeOver 187 = .ok (.istore_n 2, 1) := by decide +kernel
theorem dX0_takeOver_188 : decode cX0_takeOver 188 = .ok (.iload_n 2, 1) := by decide +kernel
theorem dX0_takeOver_189 : decode cX0_takeOver 189 = .ok (.bipush 96, 2) := by decide +kernel
theorem dX0_takeOver_191 : decode cX0_takeOver 191 = .ok (.if_icmp .ge 21, 3) := by decide +kernel
theorem dX0_takeOver_194 : decode cX0_takeOver 194 = .ok (.aload_n 0, 1) := by decide +kernel
theorem dX0_takeOver_195 : decode cX0_takeOver 195 = .ok (.getfield 24, 3) := by decide +kernel
theorem dX0_takeOver_198 : decode cX0_takeOver 198 = .ok (.iload_n 2, 1) := by decide +kernel
theorem dX0_takeOver_199 : decode cX0_takeOver 199 = .ok (.aload_n 1, 1) := by decide +kernel
theorem dX0_takeOver_200 : decode cX0_takeOver 200 = .ok (.getfield 24, 3) := by decide +kernel
theorem dX0_takeOver_203 : decode cX0_takeOver 203 = .ok (.iload_n 2, 1) := by decide +kernel
theorem dX0_takeOver_204 : decode cX0_takeOver 204 = .ok (.baload, 1) := by decide +kernel
theorem dX0_takeOver_205 : decode cX0_takeOver 205 = .ok (.bastore, 1) := by decide +kernel
theorem dX0_takeOver_206 : decode cX0_takeOver 206 = .ok (.iinc 2 1, 3) := by decide +kernel
theorem dX0_takeOver_209 : decode cX0_takeOver 209 = .ok (.goto (-21), 3) := by decide +kernel
theorem dX0_takeOver_212 : decode cX0_takeOver 212 = .ok (.return_, 1) := by decide +kernel
theorem dX0_cells_0 : decode cX0_cells 0 = .ok (.aload_n 0, 1) := by decide +kernel
theorem dX0_cells_1 : decode cX0_cells 1 = .ok (.getfield 52, 3) := by decide +kernel
theorem dX0_cells_4 : decode cX0_cells 4 = .ok (.aload_n 0, 1) := by decide +kernel
theorem dX0_cells_5 : decode cX0_cells 5 = .ok (.getfield 56, 3) := by decide +kernel
theorem dX0_cells_8 : decode cX0_cells 8 = .ok (.imul, 1) := by decide +kernel
theorem dX0_cells_9 : decode cX0_cells 9 = .ok (.ireturn, 1) := by decide +kernel
theorem dX0_hasCell_0 : decode cX0_hasCell 0 = .ok (.iload_n 1, 1) := by decide +kernel
theorem dX0_hasCell_1 : decode cX0_hasCell 1 = .ok (.ifCond .lt 20, 3) := by decide +kernel
theorem dX0_hasCell_4 : decode cX0_hasCell 4 = .ok (.iload_n 1, 1) := by decide +kernel
theorem dX0_hasCell_5 : decode cX0_hasCell 5 = .ok (.aload_n 0, 1) := by decide +kernel
theorem dX0_hasCell_6 : decode cX0_hasCell 6 = .ok (.getfield 52, 3) := by decide +kernel
theorem dX0_hasCell_9 : decode cX0_hasCell 9 = .ok (.aload_n 0, 1) := by decide +kernel
theorem dX0_hasCell_10 : decode cX0_hasCell 10 = .ok (.getfield 56, 3) := by decide +kernel
theorem dX0_hasCell_13 : decode cX0_hasCell 13 = .ok (.imul, 1) := by decide +kernel
theorem dX0_hasCell_14 : decode cX0_hasCell 14 = .ok (.if_icmp .ge 7, 3) := by decide +kernel
theorem dX0_hasCell_17 : decode cX0_hasCell 17 = .ok (.iconst 1, 1) := by decide +kernel
theorem dX0_hasCell_18 : decode cX0_hasCell 18 = .ok (.goto 4, 3) := by decide +kernel
theorem dX0_hasCell_21 : decode cX0_hasCell 21 = .ok (.iconst 0, 1) := by decide +kernel
theorem dX0_hasCell_22 : decode cX0_hasCell 22 = .ok (.ireturn, 1) := by decide +kernel
theorem dX0_hasSide_0 : decode cX0_hasSide 0 = .ok (.iload_n 1, 1) := by decide +kernel
theorem dX0_hasSide_1 : decode cX0_hasSide 1 = .ok (.ifCond .lt 18, 3) := by decide +kernel
theorem dX0_hasSide_4 : decode cX0_hasSide 4 = .ok (.iload_n 1, 1) := by decide +kernel
theorem dX0_hasSide_5 : decode cX0_hasSide 5 = .ok (.iconst 2, 1) := by decide +kernel
theorem dX0_hasSide_6 : decode cX0_hasSide 6 = .ok (.aload_n 0, 1) := by decide +kernel
theorem dX0_hasSide_7 : decode cX0_hasSide 7 = .ok (.getfield 52, 3) := by decide +kernel
theorem dX0_hasSide_10 : decode cX0_hasSide 10 = .ok (.imul, 1) := by decide +kernel
theorem dX0_hasSide_11 : decode cX0_hasSide 11 = .ok (.aload_n 0, 1) := by decide +kernel
theorem dX0_hasSide_12 : decode cX0_hasSide 12 = .ok (.getfield 56, 3) := by decide +kernel
theorem dX0_hasSide_15 : decode cX0_hasSide 15 = .ok (.imul, 1) := by decide +kernel
theorem dX0_hasSide_16 : decode cX0_hasSide 16 = .ok (.if_icmp .lt 5, 3) := by decide +kernel
theorem dX0_hasSide_19 : decode cX0_hasSide 19 = .ok (.iconst 0, 1) := by decide +kernel
theorem dX0_hasSide_20 : decode cX0_hasSide 20 = .ok (.ireturn, 1) := by decide +kernel
theorem dX0_hasSide_21 : decode cX0_hasSide 21 = .ok (.iload_n 1, 1) := by decide +kernel
theorem dX0_hasSide_22 : decode cX0_hasSide 22 = .ok (.iconst 2, 1) := by decide +kernel
theorem dX0_hasSide_23 : decode cX0_hasSide 23 = .ok (.idiv, 1) := by decide +kernel
theorem dX0_hasSide_24 : decode cX0_hasSide 24 = .ok (.istore_n 2, 1) := by decide +kernel
theorem dX0_hasSide_25 : decode cX0_hasSide 25 = .ok (.iload_n 1, 1) := by decide +kernel
theorem dX0_hasSide_26 : decode cX0_hasSide 26 = .ok (.iconst 2, 1) := by decide +kernel
theorem dX0_hasSide_27 : decode cX0_hasSide 27 = .ok (.irem, 1) := by decide +kernel
theorem dX0_hasSide_28 : decode cX0_hasSide 28 = .ok (.iconst 1, 1) := by decide +kernel
theorem dX0_hasSide_29 : decode cX0_hasSide 29 = .ok (.if_icmp .ne 29, 3) := by decide +kernel
theorem dX0_hasSide_32 : decode cX0_hasSide 32 = .ok (.iload_n 2, 1) := by decide +kernel
theorem dX0_hasSide_33 : decode cX0_hasSide 33 = .ok (.aload_n 0, 1) := by decide +kernel
theorem dX0_hasSide_34 : decode cX0_hasSide 34 = .ok (.getfield 52, 3) := by decide +kernel
theorem dX0_hasSide_37 : decode cX0_hasSide 37 = .ok (.iadd, 1) := by decide +kernel
theorem dX0_hasSide_38 : decode cX0_hasSide 38 = .ok (.aload_n 0, 1) := by decide +kernel
theorem dX0_hasSide_39 : decode cX0_hasSide 39 = .ok (.getfield 52, 3) := by decide +kernel
theorem dX0_hasSide_42 : decode cX0_hasSide 42 = .ok (.aload_n 0, 1) := by decide +kernel
theorem dX0_hasSide_43 : decode cX0_hasSide 43 = .ok (.getfield 56, 3) := by decide +kernel
theorem dX0_hasSide_46 : decode cX0_hasSide 46 = .ok (.imul, 1) := by decide +kernel
theorem dX0_hasSide_47 : decode cX0_hasSide 47 = .ok (.if_icmp .ge 7, 3) := by decide +kernel
theorem dX0_hasSide_50 : decode cX0_hasSide 50 = .ok (.iconst 1, 1) := by decide +kernel
theorem dX0_hasSide_51 : decode cX0_hasSide 51 = .ok (.goto 27, 3) := by decide +kernel
theorem dX0_hasSide_54 : decode cX0_hasSide 54 = .ok (.iconst 0, 1) := by decide +kernel
theorem dX0_hasSide_55 : decode cX0_hasSide 55 = .ok (.goto 23, 3) := by decide +kernel
theorem dX0_hasSide_58 : decode cX0_hasSide 58 = .ok (.iload_n 2, 1) := by decide +kernel
theorem dX0_hasSide_59 : decode cX0_hasSide 59 = .ok (.aload_n 0, 1) := by decide +kernel
theorem dX0_hasSide_60 : decode cX0_hasSide 60 = .ok (.getfield 52, 3) := by decide +kernel
theorem dX0_hasSide_63 : decode cX0_hasSide 63 = .ok (.irem, 1) := by decide +kernel
theorem dX0_hasSide_64 : decode cX0_hasSide 64 = .ok (.aload_n 0, 1) := by decide +kernel
theorem dX0_hasSide_65 : decode cX0_hasSide 65 = .ok (.getfield 52, 3) := by decide +kernel
theorem dX0_hasSide_68 : decode cX0_hasSide 68 = .ok (.iconst 1, 1) := by decide +kernel
theorem dX0_hasSide_69 : decode cX0_hasSide 69 = .ok (.isub, 1) := by decide +kernel
theorem dX0_hasSide_70 : decode cX0_hasSide 70 = .ok (.if_icmp .ge 7, 3) := by decide +kernel
theorem dX0_hasSide_73 : decode cX0_hasSide 73 = .ok (.iconst 1, 1) := by decide +kernel
theorem dX0_hasSide_74 : decode cX0_hasSide 74 = .ok (.goto 4, 3) := by decide +kernel
theorem dX0_hasSide_77 : decode cX0_hasSide 77 = .ok (.iconst 0, 1) := by decide +kernel
theorem dX0_hasSide_78 : decode cX0_hasSide 78 = .ok (.ireturn, 1) := by decide +kernel
theorem dX0_farCell_0 : decode cX0_farCell 0 = .ok (.iload_n 1, 1) := by decide +kernel
theorem dX0_farCell_1 : decode cX0_farCell 1 = .ok (.iconst 2, 1) := by decide +kernel
theorem dX0_farCell_2 : decode cX0_farCell 2 = .ok (.irem, 1) := by decide +kernel
theorem dX0_farCell_3 : decode cX0_farCell 3 = .ok (.iconst 1, 1) := by decide +kernel
theorem dX0_farCell_4 : decode cX0_farCell 4 = .ok (.if_icmp .ne 14, 3) := by decide +kernel
theorem dX0_farCell_7 : decode cX0_farCell 7 = .ok (.iload_n 1, 1) := by decide +kernel
theorem dX0_farCell_8 : decode cX0_farCell 8 = .ok (.iconst 2, 1) := by decide +kernel
theorem dX0_farCell_9 : decode cX0_farCell 9 = .ok (.idiv, 1) := by decide +kernel
theorem dX0_farCell_10 : decode cX0_farCell 10 = .ok (.aload_n 0, 1) := by decide +kernel
theorem dX0_farCell_11 : decode cX0_farCell 11 = .ok (.getfield 52, 3) := by decide +kernel
theorem dX0_farCell_14 : decode cX0_farCell 14 = .ok (.iadd, 1) := by decide +kernel
theorem dX0_farCell_15 : decode cX0_farCell 15 = .ok (.goto 8, 3) := by decide +kernel
theorem dX0_farCell_18 : decode cX0_farCell 18 = .ok (.iload_n 1, 1) := by decide +kernel
theorem dX0_farCell_19 : decode cX0_farCell 19 = .ok (.iconst 2, 1) := by decide +kernel
theorem dX0_farCell_20 : decode cX0_farCell 20 = .ok (.idiv, 1) := by decide +kernel
theorem dX0_farCell_21 : decode cX0_farCell 21 = .ok (.iconst 1, 1) := by decide +kernel
theorem dX0_farCell_22 : decode cX0_farCell 22 = .ok (.iadd, 1) := by decide +kernel
theorem dX0_farCell_23 : decode cX0_farCell 23 = .ok (.ireturn, 1) := by decide +kernel
theorem dX0_level_0 : decode cX0_level 0 = .ok (.aload_n 0, 1) := by decide +kernel
theorem dX0_level_1 : decode cX0_level 1 = .ok (.getfield 9, 3) := by decide +kernel
theorem dX0_level_4 : decode cX0_level 4 = .ok (.iload_n 1, 1) := by decide +kernel
theorem dX0_level_5 : decode cX0_level 5 = .ok (.iaload, 1) := by decide +kernel
theorem dX0_level_6 : decode cX0_level 6 = .ok (.aload_n 0, 1) := by decide +kernel
theorem dX0_level_7 : decode cX0_level 7 = .ok (.getfield 15, 3) := by decide +kernel
theorem dX0_level_10 : decode cX0_level 10 = .ok (.iload_n 1, 1) := by decide +kernel
theorem dX0_level_11 : decode cX0_level 11 = .ok (.iaload, 1) := by decide +kernel
theorem dX0_level_12 : decode cX0_level 12 = .ok (.iadd, 1) := by decide +kernel
theorem dX0_level_13 : decode cX0_level 13 = .ok (.ireturn, 1) := by decide +kernel
theorem dX0_isTidal_0 : decode cX0_isTidal 0 = .ok (.aload_n 0, 1) := by decide +kernel
theorem dX0_isTidal_1 : decode cX0_isTidal 1 = .ok (.getfield 66, 3) := by decide +kernel
theorem dX0_isTidal_4 : decode cX0_isTidal 4 = .ok (.iconst 1, 1) := by decide +kernel
theorem dX0_isTidal_5 : decode cX0_isTidal 5 = .ok (.if_icmp .eq 11, 3) := by decide +kernel
theorem dX0_isTidal_8 : decode cX0_isTidal 8 = .ok (.aload_n 0, 1) := by decide +kernel
theorem dX0_isTidal_9 : decode cX0_isTidal 9 = .ok (.getfield 66, 3) := by decide +kernel
theorem dX0_isTidal_12 : decode cX0_isTidal 12 = .ok (.iconst 3, 1) := by decide +kernel
theorem dX0_isTidal_13 : decode cX0_isTidal 13 = .ok (.if_icmp .ne 7, 3) := by decide +kernel
theorem dX0_isTidal_16 : decode cX0_isTidal 16 = .ok (.iconst 1, 1) := by decide +kernel
theorem dX0_isTidal_17 : decode cX0_isTidal 17 = .ok (.goto 4, 3) := by decide +kernel
theorem dX0_isTidal_20 : decode cX0_isTidal 20 = .ok (.iconst 0, 1) := by decide +kernel
theorem dX0_isTidal_21 : decode cX0_isTidal 21 = .ok (.ireturn, 1) := by decide +kernel
set_option maxRecDepth 20000 in
theorem ggX0_isOf_X0_isTidal : GoodIn wsX0_isOf wsX0_isTidal := goodIn_r _ [6, 1, 7, 8, 9, 10, 11, 12, 13, 14, 15, 16, 17, 18, 19, 20, 21, 22, 23, 24, 25] (by decide +kernel) (by decide +kernel)
set_option maxRecDepth 20000 in
theorem gX0_isOf_X0_isTidal : GoodIn wsX0_isOf (wsV RX0 106 RX0 yX0_isTidal wsX0_isTidal) := goodIn_app (goodIn_of _ (by decide +kernel)) ggX0_isOf_X0_isTidal
theorem dX0_isOf_0 : decode cX0_isOf 0 = .ok (.aload_n 0, 1) := by decide +kernel
theorem dX0_isOf_1 : decode cX0_isOf 1 = .ok (.getfield 66, 3) := by decide +kernel
theorem dX0_isOf_4 : decode cX0_isOf 4 = .ok (.iload_n 1, 1) := by decide +kernel
theorem dX0_isOf_5 : decode cX0_isOf 5 = .ok (.if_icmp .eq 15, 3) := by decide +kernel
theorem dX0_isOf_8 : decode cX0_isOf 8 = .ok (.iload_n 1, 1) := by decide +kernel
theorem dX0_isOf_9 : decode cX0_isOf 9 = .ok (.iconst 1, 1) := by decide +kernel
theorem dX0_isOf_10 : decode cX0_isOf 10 = .ok (.if_icmp .ne 14, 3) := by decide +kernel
theorem dX0_isOf_13 : decode cX0_isOf 13 = .ok (.aload_n 0, 1) := by decide +kernel
theorem dX0_isOf_14 : decode cX0_isOf 14 = .ok (.invokevirtual 106, 3) := by decide +kernel
theorem dX0_isOf_17 : decode cX0_isOf 17 = .ok (.ifCond .eq 7, 3) := by decide +kernel
theorem dX0_isOf_20 : decode cX0_isOf 20 = .ok (.iconst 1, 1) := by decide +kernel
theorem dX0_isOf_21 : decode cX0_isOf 21 = .ok (.goto 4, 3) := by decide +kernel
theorem dX0_isOf_24 : decode cX0_isOf 24 = .ok (.iconst 0, 1) := by decide +kernel
theorem dX0_isOf_25 : decode cX0_isOf 25 = .ok (.ireturn, 1) := by decide +kernel
set_option maxRecDepth 20000 in
theorem ggX0_hasTide_X0_isTidal : GoodIn wsX0_hasTide wsX0_isTidal := goodIn_r _ [6, 7, 14, 15, 16, 17, 18, 19, 20, 21, 22, 23, 24, 25, 26, 27, 28, 29, 30, 31, 32] (by decide +kernel) (by decide +kernel)
set_option maxRecDepth 20000 in
theorem gX0_hasTide_X0_isTidal : GoodIn wsX0_hasTide (wsV RX0 106 RX0 yX0_isTidal wsX0_isTidal) := goodIn_app (goodIn_of _ (by decide +kernel)) ggX0_hasTide_X0_isTidal
set_option maxRecDepth 20000 in
theorem ggX0_hasTide_X7_isNumber : GoodIn wsX0_hasTide wsX7_isNumber := goodIn_r _ [12, 13, 33, 34] (by decide +kernel) (by decide +kernel)
set_option maxRecDepth 20000 in
theorem gX0_hasTide_X7_isNumber : GoodIn wsX0_hasTide (wsV RX0 110 RX7 yX7_isNumber wsX7_isNumber) := goodIn_app (goodIn_of _ (by decide +kernel)) ggX0_hasTide_X7_isNumber
theorem dX0_hasTide_0 : decode cX0_hasTide 0 = .ok (.aload_n 0, 1) := by decide +kernel
theorem dX0_hasTide_1 : decode cX0_hasTide 1 = .ok (.invokevirtual 106, 3) := by decide +kernel
theorem dX0_hasTide_4 : decode cX0_hasTide 4 = .ok (.ifCond .eq 30, 3) := by decide +kernel
theorem dX0_hasTide_7 : decode cX0_hasTide 7 = .ok (.aload_n 1, 1) := by decide +kernel
theorem dX0_hasTide_8 : decode cX0_hasTide 8 = .ok (.aload_n 0, 1) := by decide +kernel
theorem dX0_hasTide_9 : decode cX0_hasTide 9 = .ok (.getfield 59, 3) := by decide +kernel
theorem dX0_hasTide_12 : decode cX0_hasTide 12 = .ok (.invokevirtual 110, 3) := by decide +kernel
theorem dX0_hasTide_15 : decode cX0_hasTide 15 = .ok (.ifCond .eq 19, 3) := by decide +kernel
theorem dX0_hasTide_18 : decode cX0_hasTide 18 = .ok (.aload_n 1, 1) := by decide +kernel
theorem dX0_hasTide_19 : decode cX0_hasTide 19 = .ok (.getfield 116, 3) := by decide +kernel
theorem dX0_hasTide_22 : decode cX0_hasTide 22 = .ok (.aload_n 0, 1) := by decide +kernel
theorem dX0_hasTide_23 : decode cX0_hasTide 23 = .ok (.getfield 59, 3) := by decide +kernel
theorem dX0_hasTide_26 : decode cX0_hasTide 26 = .ok (.iaload, 1) := by decide +kernel
theorem dX0_hasTide_27 : decode cX0_hasTide 27 = .ok (.ifCond .le 7, 3) := by decide +kernel
theorem dX0_hasTide_30 : decode cX0_hasTide 30 = .ok (.iconst 1, 1) := by decide +kernel
theorem dX0_hasTide_31 : decode cX0_hasTide 31 = .ok (.goto 4, 3) := by decide +kernel
theorem dX0_hasTide_34 : decode cX0_hasTide 34 = .ok (.iconst 0, 1) := by decide +kernel
theorem dX0_hasTide_35 : decode cX0_hasTide 35 = .ok (.ireturn, 1) := by decide +kernel
set_option maxRecDepth 20000 in
theorem ggX0_tideLevel_J9_floorMod_7cf53 : GoodIn wsX0_tideLevel wsJ9_floorMod_7cf53 := goodIn_r _ [7] (by decide +kernel) (by decide +kernel)
set_option maxRecDepth 20000 in
theorem gX0_tideLevel_J9_floorMod_7cf53 : GoodIn wsX0_tideLevel (va_wsS RX0 119 yJ9_floorMod_7cf53 wsJ9_floorMod_7cf53) := goodIn_app (goodIn_of _ (by decide +kernel)) ggX0_tideLevel_J9_floorMod_7cf53
theorem dX0_tideLevel_0 : decode cX0_tideLevel 0 = .ok (.aload_n 0, 1) := by decide +kernel
theorem dX0_tideLevel_1 : decode cX0_tideLevel 1 = .ok (.getfield 69, 3) := by decide +kernel
theorem dX0_tideLevel_4 : decode cX0_tideLevel 4 = .ok (.aload_n 1, 1) := by decide +kernel
theorem dX0_tideLevel_5 : decode cX0_tideLevel 5 = .ok (.getfield 116, 3) := by decide +kernel
theorem dX0_tideLevel_8 : decode cX0_tideLevel 8 = .ok (.aload_n 0, 1) := by decide +kernel
theorem dX0_tideLevel_9 : decode cX0_tideLevel 9 = .ok (.getfield 59, 3) := by decide +kernel
theorem dX0_tideLevel_12 : decode cX0_tideLevel 12 = .ok (.iaload, 1) := by decide +kernel
theorem dX0_tideLevel_13 : decode cX0_tideLevel 13 = .ok (.invokestatic 119, 3) := by decide +kernel
theorem dX0_tideLevel_16 : decode cX0_tideLevel 16 = .ok (.istore_n 2, 1) := by decide +kernel
theorem dX0_tideLevel_17 : decode cX0_tideLevel 17 = .ok (.aload_n 1, 1) := by decide +kernel
theorem dX0_tideLevel_18 : decode cX0_tideLevel 18 = .ok (.getfield 125, 3) := by decide +kernel
theorem dX0_tideLevel_21 : decode cX0_tideLevel 21 = .ok (.aload_n 0, 1) := by decide +kernel
theorem dX0_tideLevel_22 : decode cX0_tideLevel 22 = .ok (.getfield 59, 3) := by decide +kernel
theorem dX0_tideLevel_25 : decode cX0_tideLevel 25 = .ok (.aaload, 1) := by decide +kernel
theorem dX0_tideLevel_26 : decode cX0_tideLevel 26 = .ok (.iload_n 2, 1) := by decide +kernel
theorem dX0_tideLevel_27 : decode cX0_tideLevel 27 = .ok (.iaload, 1) := by decide +kernel
theorem dX0_tideLevel_28 : decode cX0_tideLevel 28 = .ok (.aload_n 0, 1) := by decide +kernel
theorem dX0_tideLevel_29 : decode cX0_tideLevel 29 = .ok (.getfield 78, 3) := by decide +kernel
theorem dX0_tideLevel_32 : decode cX0_tideLevel 32 = .ok (.iadd, 1) := by decide +kernel
theorem dX0_tideLevel_33 : decode cX0_tideLevel 33 = .ok (.ireturn, 1) := by decide +kernel
theorem dX0_windAt_0 : decode cX0_windAt 0 = .ok (.aload_n 0, 1) := by decide +kernel
theorem dX0_windAt_1 : decode cX0_windAt 1 = .ok (.getfield 66, 3) := by decide +kernel
theorem dX0_windAt_4 : decode cX0_windAt 4 = .ok (.iconst 3, 1) := by decide +kernel
theorem dX0_windAt_5 : decode cX0_windAt 5 = .ok (.if_icmp .ne 5, 3) := by decide +kernel
theorem dX0_windAt_8 : decode cX0_windAt 8 = .ok (.iconst 0, 1) := by decide +kernel
theorem dX0_windAt_9 : decode cX0_windAt 9 = .ok (.ireturn, 1) := by decide +kernel
theorem dX0_windAt_10 : decode cX0_windAt 10 = .ok (.iload_n 1, 1) := by decide +kernel
theorem dX0_windAt_11 : decode cX0_windAt 11 = .ok (.iconst 2, 1) := by decide +kernel
theorem dX0_windAt_12 : decode cX0_windAt 12 = .ok (.irem, 1) := by decide +kernel
theorem dX0_windAt_13 : decode cX0_windAt 13 = .ok (.iconst 1, 1) := by decide +kernel
theorem dX0_windAt_14 : decode cX0_windAt 14 = .ok (.if_icmp .ne 13, 3) := by decide +kernel
theorem dX0_windAt_17 : decode cX0_windAt 17 = .ok (.aload_n 0, 1) := by decide +kernel
theorem dX0_windAt_18 : decode cX0_windAt 18 = .ok (.getfield 31, 3) := by decide +kernel
theorem dX0_windAt_21 : decode cX0_windAt 21 = .ok (.getfield 129, 3) := by decide +kernel
theorem dX0_windAt_24 : decode cX0_windAt 24 = .ok (.goto 10, 3) := by decide +kernel
theorem dX0_windAt_27 : decode cX0_windAt 27 = .ok (.aload_n 0, 1) := by decide +kernel
theorem dX0_windAt_28 : decode cX0_windAt 28 = .ok (.getfield 31, 3) := by decide +kernel
theorem dX0_windAt_31 : decode cX0_windAt 31 = .ok (.getfield 132, 3) := by decide +kernel
theorem dX0_windAt_34 : decode cX0_windAt 34 = .ok (.ireturn, 1) := by decide +kernel
theorem dX0_shutPosts_0 : decode cX0_shutPosts 0 = .ok (.iconst 0, 1) := by decide +kernel
theorem dX0_shutPosts_1 : decode cX0_shutPosts 1 = .ok (.istore_n 2, 1) := by decide +kernel
theorem dX0_shutPosts_2 : decode cX0_shutPosts 2 = .ok (.iload_n 2, 1) := by decide +kernel
theorem dX0_shutPosts_3 : decode cX0_shutPosts 3 = .ok (.aload_n 0, 1) := by decide +kernel
theorem dX0_shutPosts_4 : decode cX0_shutPosts 4 = .ok (.getfield 81, 3) := by decide +kernel
theorem dX0_shutPosts_7 : decode cX0_shutPosts 7 = .ok (.if_icmp .ge 30, 3) := by decide +kernel
theorem dX0_shutPosts_10 : decode cX0_shutPosts 10 = .ok (.iload_n 1, 1) := by decide +kernel
theorem dX0_shutPosts_11 : decode cX0_shutPosts 11 = .ok (.iload_n 2, 1) := by decide +kernel
theorem dX0_shutPosts_12 : decode cX0_shutPosts 12 = .ok (.ishr, 1) := by decide +kernel
theorem dX0_shutPosts_13 : decode cX0_shutPosts 13 = .ok (.iconst 1, 1) := by decide +kernel
theorem dX0_shutPosts_14 : decode cX0_shutPosts 14 = .ok (.iand, 1) := by decide +kernel
theorem dX0_shutPosts_15 : decode cX0_shutPosts 15 = .ok (.iconst 1, 1) := by decide +kernel
theorem dX0_shutPosts_16 : decode cX0_shutPosts 16 = .ok (.if_icmp .ne 15, 3) := by decide +kernel
theorem dX0_shutPosts_19 : decode cX0_shutPosts 19 = .ok (.aload_n 0, 1) := by decide +kernel
theorem dX0_shutPosts_20 : decode cX0_shutPosts 20 = .ok (.getfield 24, 3) := by decide +kernel
theorem dX0_shutPosts_23 : decode cX0_shutPosts 23 = .ok (.aload_n 0, 1) := by decide +kernel
theorem dX0_shutPosts_24 : decode cX0_shutPosts 24 = .ok (.getfield 49, 3) := by decide +kernel
theorem dX0_shutPosts_27 : decode cX0_shutPosts 27 = .ok (.iload_n 2, 1) := by decide +kernel
theorem dX0_shutPosts_28 : decode cX0_shutPosts 28 = .ok (.iaload, 1) := by decide +kernel
theorem dX0_shutPosts_29 : decode cX0_shutPosts 29 = .ok (.iconst 1, 1) := by decide +kernel
theorem dX0_shutPosts_30 : decode cX0_shutPosts 30 = .ok (.bastore, 1) := by decide +kernel
theorem dX0_shutPosts_31 : decode cX0_shutPosts 31 = .ok (.iinc 2 1, 3) := by decide +kernel
theorem dX0_shutPosts_34 : decode cX0_shutPosts 34 = .ok (.goto (-32), 3) := by decide +kernel
theorem dX0_shutPosts_37 : decode cX0_shutPosts 37 = .ok (.return_, 1) := by decide +kernel
set_option maxRecDepth 20000 in
theorem ggX0_obey_X0_hasSide : GoodIn wsX0_obey wsX0_hasSide := goodIn_r _ [9, 10, 11, 28, 29, 30, 31, 32, 33, 34, 35, 36, 37, 38, 39, 40, 41, 42, 43, 44, 45, 46] (by decide +kernel) (by decide +kernel)
set_option maxRecDepth 20000 in
theorem gX0_obey_X0_hasSide : GoodIn wsX0_obey (wsV RX0 135 RX0 yX0_hasSide wsX0_hasSide) := goodIn_app (goodIn_of _ (by decide +kernel)) ggX0_obey_X0_hasSide
set_option maxRecDepth 20000 in
theorem ggX0_obey_X0_isTidal : GoodIn wsX0_obey wsX0_isTidal := goodIn_r _ [15, 16, 28, 29, 30, 31, 32, 33, 34, 35, 36, 37, 38, 39, 40, 41, 42, 43, 44, 45, 46] (by decide +kernel) (by decide +kernel)
set_option maxRecDepth 20000 in
theorem gX0_obey_X0_isTidal : GoodIn wsX0_obey (wsV RX0 106 RX0 yX0_isTidal wsX0_isTidal) := goodIn_app (goodIn_of _ (by decide +kernel)) ggX0_obey_X0_isTidal
set_option maxRecDepth 20000 in
theorem ggX0_obey_X5_bringHundredths : GoodIn wsX0_obey wsX5_bringHundredths := goodIn_r _ [21, 22, 23, 24, 25, 26, 27, 51, 52, 53] (by decide +kernel) (by decide +kernel)
set_option maxRecDepth 20000 in
theorem gX0_obey_X5_bringHundredths : GoodIn wsX0_obey (wsV RX0 141 RX5 yX5_bringHundredths wsX5_bringHundredths) := goodIn_app (goodIn_of _ (by decide +kernel)) ggX0_obey_X5_bringHundredths
theorem dX0_obey_0 : decode cX0_obey 0 = .ok (.iload_n 1, 1) := by decide +kernel
theorem dX0_obey_1 : decode cX0_obey 1 = .ok (.tableswitch 173 71 87 #[105, 173, 173, 173, 173, 173, 173, 173, 173, 151, 173, 162, 173, 136, 173, 94, 83], 83) := by decide +kernel
theorem dX0_obey_84 : decode cX0_obey 84 = .ok (.aload_n 0, 1) := by decide +kernel
theorem dX0_obey_85 : decode cX0_obey 85 = .ok (.getfield 31, 3) := by decide +kernel
theorem dX0_obey_88 : decode cX0_obey 88 = .ok (.iload_n 2, 1) := by decide +kernel
theorem dX0_obey_89 : decode cX0_obey 89 = .ok (.putfield 132, 3) := by decide +kernel
theorem dX0_obey_92 : decode cX0_obey 92 = .ok (.goto 82, 3) := by decide +kernel
theorem dX0_obey_95 : decode cX0_obey 95 = .ok (.aload_n 0, 1) := by decide +kernel
theorem dX0_obey_96 : decode cX0_obey 96 = .ok (.getfield 31, 3) := by decide +kernel
theorem dX0_obey_99 : decode cX0_obey 99 = .ok (.iload_n 2, 1) := by decide +kernel
theorem dX0_obey_100 : decode cX0_obey 100 = .ok (.putfield 129, 3) := by decide +kernel
theorem dX0_obey_103 : decode cX0_obey 103 = .ok (.goto 71, 3) := by decide +kernel
theorem dX0_obey_106 : decode cX0_obey 106 = .ok (.aload_n 0, 1) := by decide +kernel
theorem dX0_obey_107 : decode cX0_obey 107 = .ok (.iload_n 2, 1) := by decide +kernel
theorem dX0_obey_108 : decode cX0_obey 108 = .ok (.invokevirtual 135, 3) := by decide +kernel
theorem dX0_obey_111 : decode cX0_obey 111 = .ok (.ifCond .eq 63, 3) := by decide +kernel
theorem dX0_obey_114 : decode cX0_obey 114 = .ok (.aload_n 0, 1) := by decide +kernel
theorem dX0_obey_115 : decode cX0_obey 115 = .ok (.getfield 24, 3) := by decide +kernel
theorem dX0_obey_118 : decode cX0_obey 118 = .ok (.iload_n 2, 1) := by decide +kernel
theorem dX0_obey_119 : decode cX0_obey 119 = .ok (.aload_n 0, 1) := by decide +kernel
theorem dX0_obey_120 : decode cX0_obey 120 = .ok (.getfield 24, 3) := by decide +kernel
theorem dX0_obey_123 : decode cX0_obey 123 = .ok (.iload_n 2, 1) := by decide +kernel
theorem dX0_obey_124 : decode cX0_obey 124 = .ok (.baload, 1) := by decide +kernel
theorem dX0_obey_125 : decode cX0_obey 125 = .ok (.ifCond .ne 7, 3) := by decide +kernel
theorem dX0_obey_128 : decode cX0_obey 128 = .ok (.iconst 1, 1) := by decide +kernel
theorem dX0_obey_129 : decode cX0_obey 129 = .ok (.goto 4, 3) := by decide +kernel
theorem dX0_obey_132 : decode cX0_obey 132 = .ok (.iconst 0, 1) := by decide +kernel
theorem dX0_obey_133 : decode cX0_obey 133 = .ok (.bastore, 1) := by decide +kernel
theorem dX0_obey_134 : decode cX0_obey 134 = .ok (.goto 40, 3) := by decide +kernel
theorem dX0_obey_137 : decode cX0_obey 137 = .ok (.aload_n 0, 1) := by decide +kernel
theorem dX0_obey_138 : decode cX0_obey 138 = .ok (.invokevirtual 106, 3) := by decide +kernel
theorem dX0_obey_141 : decode cX0_obey 141 = .ok (.ifCond .eq 33, 3) := by decide +kernel
theorem dX0_obey_144 : decode cX0_obey 144 = .ok (.aload_n 0, 1) := by decide +kernel
theorem dX0_obey_145 : decode cX0_obey 145 = .ok (.iload_n 2, 1) := by decide +kernel
theorem dX0_obey_146 : decode cX0_obey 146 = .ok (.putfield 78, 3) := by decide +kernel
theorem dX0_obey_149 : decode cX0_obey 149 = .ok (.goto 25, 3) := by decide +kernel
theorem dX0_obey_152 : decode cX0_obey 152 = .ok (.aload_n 0, 1) := by decide +kernel
theorem dX0_obey_153 : decode cX0_obey 153 = .ok (.getfield 31, 3) := by decide +kernel
theorem dX0_obey_156 : decode cX0_obey 156 = .ok (.iload_n 2, 1) := by decide +kernel
theorem dX0_obey_157 : decode cX0_obey 157 = .ok (.putfield 138, 3) := by decide +kernel
theorem dX0_obey_160 : decode cX0_obey 160 = .ok (.goto 14, 3) := by decide +kernel
theorem dX0_obey_163 : decode cX0_obey 163 = .ok (.aload_n 0, 1) := by decide +kernel
theorem dX0_obey_164 : decode cX0_obey 164 = .ok (.getfield 38, 3) := by decide +kernel
theorem dX0_obey_167 : decode cX0_obey 167 = .ok (.iload_n 2, 1) := by decide +kernel
theorem dX0_obey_168 : decode cX0_obey 168 = .ok (.invokevirtual 141, 3) := by decide +kernel
theorem dX0_obey_171 : decode cX0_obey 171 = .ok (.goto 3, 3) := by decide +kernel
theorem dX0_obey_174 : decode cX0_obey 174 = .ok (.return_, 1) := by decide +kernel
set_option maxRecDepth 20000 in
theorem ggX0_tells_X0_sum : GoodIn wsX0_tells wsX0_sum := goodIn_r _ [13, 14, 15, 16, 12, 17, 2, 3, 22, 23, 24, 25, 26, 27, 28, 29, 30, 31, 32, 33, 34, 35, 36, 37, 38, 39, 40] (by decide +kernel) (by decide +kernel)
set_option maxRecDepth 20000 in
theorem gX0_tells_X0_sum : GoodIn wsX0_tells (wsV RX0 145 RX0 yX0_sum wsX0_sum) := goodIn_app (goodIn_of _ (by decide +kernel)) ggX0_tells_X0_sum
set_option maxRecDepth 20000 in
theorem ggX0_tells_X0_dryCells : GoodIn wsX0_tells wsX0_dryCells := goodIn_r _ [21, 5, 14, 15, 16, 12, 17, 2, 3, 22, 23, 24, 25, 26, 27, 28, 29, 30, 31, 32, 33, 34, 35, 36, 37, 38, 39, 40] (by decide +kernel) (by decide +kernel)
set_option maxRecDepth 20000 in
theorem gX0_tells_X0_dryCells : GoodIn wsX0_tells (wsV RX0 149 RX0 yX0_dryCells wsX0_dryCells) := goodIn_app (goodIn_of _ (by decide +kernel)) ggX0_tells_X0_dryCells
theorem dX0_tells_0 : decode cX0_tells 0 = .ok (.iload_n 1, 1) := by decide +kernel
theorem dX0_tells_1 : decode cX0_tells 1 = .ok (.tableswitch 104 0 10 #[59, 64, 69, 74, 79, 89, 94, 104, 104, 104, 99], 59) := by decide +kernel
theorem dX0_tells_60 : decode cX0_tells 60 = .ok (.aload_n 0, 1) := by decide +kernel
theorem dX0_tells_61 : decode cX0_tells 61 = .ok (.getfield 66, 3) := by decide +kernel
theorem dX0_tells_64 : decode cX0_tells 64 = .ok (.ireturn, 1) := by decide +kernel
theorem dX0_tells_65 : decode cX0_tells 65 = .ok (.aload_n 0, 1) := by decide +kernel
theorem dX0_tells_66 : decode cX0_tells 66 = .ok (.getfield 52, 3) := by decide +kernel
theorem dX0_tells_69 : decode cX0_tells 69 = .ok (.ireturn, 1) := by decide +kernel
theorem dX0_tells_70 : decode cX0_tells 70 = .ok (.aload_n 0, 1) := by decide +kernel
theorem dX0_tells_71 : decode cX0_tells 71 = .ok (.getfield 56, 3) := by decide +kernel
theorem dX0_tells_74 : decode cX0_tells 74 = .ok (.ireturn, 1) := by decide +kernel
theorem dX0_tells_75 : decode cX0_tells 75 = .ok (.aload_n 0, 1) := by decide +kernel
theorem dX0_tells_76 : decode cX0_tells 76 = .ok (.getfield 69, 3) := by decide +kernel
theorem dX0_tells_79 : decode cX0_tells 79 = .ok (.ireturn, 1) := by decide +kernel
theorem dX0_tells_80 : decode cX0_tells 80 = .ok (.aload_n 0, 1) := by decide +kernel
theorem dX0_tells_81 : decode cX0_tells 81 = .ok (.aload_n 0, 1) := by decide +kernel
theorem dX0_tells_82 : decode cX0_tells 82 = .ok (.getfield 15, 3) := by decide +kernel
theorem dX0_tells_85 : decode cX0_tells 85 = .ok (.iconst 0, 1) := by decide +kernel
theorem dX0_tells_86 : decode cX0_tells 86 = .ok (.invokevirtual 145, 3) := by decide +kernel
theorem dX0_tells_89 : decode cX0_tells 89 = .ok (.ireturn, 1) := by decide +kernel
theorem dX0_tells_90 : decode cX0_tells 90 = .ok (.aload_n 0, 1) := by decide +kernel
theorem dX0_tells_91 : decode cX0_tells 91 = .ok (.getfield 72, 3) := by decide +kernel
theorem dX0_tells_94 : decode cX0_tells 94 = .ok (.ireturn, 1) := by decide +kernel
theorem dX0_tells_95 : decode cX0_tells 95 = .ok (.aload_n 0, 1) := by decide +kernel
theorem dX0_tells_96 : decode cX0_tells 96 = .ok (.getfield 75, 3) := by decide +kernel
theorem dX0_tells_99 : decode cX0_tells 99 = .ok (.ireturn, 1) := by decide +kernel
theorem dX0_tells_100 : decode cX0_tells 100 = .ok (.aload_n 0, 1) := by decide +kernel
theorem dX0_tells_101 : decode cX0_tells 101 = .ok (.invokevirtual 149, 3) := by decide +kernel
theorem dX0_tells_104 : decode cX0_tells 104 = .ok (.ireturn, 1) := by decide +kernel
theorem dX0_tells_105 : decode cX0_tells 105 = .ok (.aload_n 0, 1) := by decide +kernel
theorem dX0_tells_106 : decode cX0_tells 106 = .ok (.aload_n 0, 1) := by decide +kernel
theorem dX0_tells_107 : decode cX0_tells 107 = .ok (.getfield 18, 3) := by decide +kernel
theorem dX0_tells_110 : decode cX0_tells 110 = .ok (.iload_n 1, 1) := by decide +kernel
theorem dX0_tells_111 : decode cX0_tells 111 = .ok (.bipush 7, 2) := by decide +kernel
theorem dX0_tells_113 : decode cX0_tells 113 = .ok (.isub, 1) := by decide +kernel
theorem dX0_tells_114 : decode cX0_tells 114 = .ok (.bipush 48, 2) := by decide +kernel
theorem dX0_tells_116 : decode cX0_tells 116 = .ok (.imul, 1) := by decide +kernel
theorem dX0_tells_117 : decode cX0_tells 117 = .ok (.invokevirtual 145, 3) := by decide +kernel
theorem dX0_tells_120 : decode cX0_tells 120 = .ok (.ireturn, 1) := by decide +kernel
set_option maxRecDepth 20000 in
theorem ggX0_sum_X0_cells : GoodIn wsX0_sum wsX0_cells := goodIn_r _ [5, 6, 7, 8, 9, 10, 11, 12, 13, 14, 15, 16, 17, 18, 19, 20, 21, 22, 23, 24, 25, 26] (by decide +kernel) (by decide +kernel)
set_option maxRecDepth 20000 in
theorem gX0_sum_X0_cells : GoodIn wsX0_sum (wsV RX0 153 RX0 yX0_cells wsX0_cells) := goodIn_app (goodIn_of _ (by decide +kernel)) ggX0_sum_X0_cells
theorem dX0_sum_0 : decode cX0_sum 0 = .ok (.iconst 0, 1) := by decide +kernel
theorem dX0_sum_1 : decode cX0_sum 1 = .ok (.istore_n 3, 1) := by decide +kernel
theorem dX0_sum_2 : decode cX0_sum 2 = .ok (.iconst 0, 1) := by decide +kernel
theorem dX0_sum_3 : decode cX0_sum 3 = .ok (.istore 4, 2) := by decide +kernel
theorem dX0_sum_5 : decode cX0_sum 5 = .ok (.iload 4, 2) := by decide +kernel
theorem dX0_sum_7 : decode cX0_sum 7 = .ok (.aload_n 0, 1) := by decide +kernel
theorem dX0_sum_8 : decode cX0_sum 8 = .ok (.invokevirtual 153, 3) := by decide +kernel
theorem dX0_sum_11 : decode cX0_sum 11 = .ok (.if_icmp .ge 18, 3) := by decide +kernel
theorem dX0_sum_14 : decode cX0_sum 14 = .ok (.iload_n 3, 1) := by decide +kernel
theorem dX0_sum_15 : decode cX0_sum 15 = .ok (.aload_n 1, 1) := by decide +kernel
theorem dX0_sum_16 : decode cX0_sum 16 = .ok (.iload_n 2, 1) := by decide +kernel
theorem dX0_sum_17 : decode cX0_sum 17 = .ok (.iload 4, 2) := by decide +kernel
theorem dX0_sum_19 : decode cX0_sum 19 = .ok (.iadd, 1) := by decide +kernel
theorem dX0_sum_20 : decode cX0_sum 20 = .ok (.iaload, 1) := by decide +kernel
theorem dX0_sum_21 : decode cX0_sum 21 = .ok (.iadd, 1) := by decide +kernel
theorem dX0_sum_22 : decode cX0_sum 22 = .ok (.istore_n 3, 1) := by decide +kernel
theorem dX0_sum_23 : decode cX0_sum 23 = .ok (.iinc 4 1, 3) := by decide +kernel
theorem dX0_sum_26 : decode cX0_sum 26 = .ok (.goto (-21), 3) := by decide +kernel
theorem dX0_sum_29 : decode cX0_sum 29 = .ok (.iload_n 3, 1) := by decide +kernel
theorem dX0_sum_30 : decode cX0_sum 30 = .ok (.ireturn, 1) := by decide +kernel
set_option maxRecDepth 20000 in
theorem ggX0_dryCells_X0_cells : GoodIn wsX0_dryCells wsX0_cells := goodIn_r _ [6, 7, 8, 9, 10, 11, 12, 13, 14, 15, 16, 17, 18, 19, 20, 21, 22, 23, 24, 25, 26, 27] (by decide +kernel) (by decide +kernel)
set_option maxRecDepth 20000 in
theorem gX0_dryCells_X0_cells : GoodIn wsX0_dryCells (wsV RX0 153 RX0 yX0_cells wsX0_cells) := goodIn_app (goodIn_of _ (by decide +kernel)) ggX0_dryCells_X0_cells
theorem dX0_dryCells_0 : decode cX0_dryCells 0 = .ok (.iconst 0, 1) := by decide +kernel
theorem dX0_dryCells_1 : decode cX0_dryCells 1 = .ok (.istore_n 1, 1) := by decide +kernel
theorem dX0_dryCells_2 : decode cX0_dryCells 2 = .ok (.iconst 0, 1) := by decide +kernel
theorem dX0_dryCells_3 : decode cX0_dryCells 3 = .ok (.istore_n 2, 1) := by decide +kernel
theorem dX0_dryCells_4 : decode cX0_dryCells 4 = .ok (.iload_n 2, 1) := by decide +kernel
theorem dX0_dryCells_5 : decode cX0_dryCells 5 = .ok (.aload_n 0, 1) := by decide +kernel
theorem dX0_dryCells_6 : decode cX0_dryCells 6 = .ok (.invokevirtual 153, 3) := by decide +kernel
theorem dX0_dryCells_9 : decode cX0_dryCells 9 = .ok (.if_icmp .ge 26, 3) := by decide +kernel
theorem dX0_dryCells_12 : decode cX0_dryCells 12 = .ok (.iload_n 1, 1) := by decide +kernel
theorem dX0_dryCells_13 : decode cX0_dryCells 13 = .ok (.aload_n 0, 1) := by decide +kernel
theorem dX0_dryCells_14 : decode cX0_dryCells 14 = .ok (.getfield 15, 3) := by decide +kernel
theorem dX0_dryCells_17 : decode cX0_dryCells 17 = .ok (.iload_n 2, 1) := by decide +kernel
theorem dX0_dryCells_18 : decode cX0_dryCells 18 = .ok (.iaload, 1) := by decide +kernel
theorem dX0_dryCells_19 : decode cX0_dryCells 19 = .ok (.ifCond .ne 7, 3) := by decide +kernel
theorem dX0_dryCells_22 : decode cX0_dryCells 22 = .ok (.iconst 1, 1) := by decide +kernel
theorem dX0_dryCells_23 : decode cX0_dryCells 23 = .ok (.goto 4, 3) := by decide +kernel
theorem dX0_dryCells_26 : decode cX0_dryCells 26 = .ok (.iconst 0, 1) := by decide +kernel
theorem dX0_dryCells_27 : decode cX0_dryCells 27 = .ok (.iadd, 1) := by decide +kernel
theorem dX0_dryCells_28 : decode cX0_dryCells 28 = .ok (.istore_n 1, 1) := by decide +kernel
theorem dX0_dryCells_29 : decode cX0_dryCells 29 = .ok (.iinc 2 1, 3) := by decide +kernel
theorem dX0_dryCells_32 : decode cX0_dryCells 32 = .ok (.goto (-28), 3) := by decide +kernel
theorem dX0_dryCells_35 : decode cX0_dryCells 35 = .ok (.iload_n 1, 1) := by decide +kernel
theorem dX0_dryCells_36 : decode cX0_dryCells 36 = .ok (.ireturn, 1) := by decide +kernel
set_option maxRecDepth 20000 in
theorem ggX0_allRests_X0_cells : GoodIn wsX0_allRests wsX0_cells := goodIn_r _ [6, 7, 8, 9, 10, 11, 12, 13, 14, 15, 16, 17, 18, 19, 20, 21, 22, 23, 24, 25, 26, 27] (by decide +kernel) (by decide +kernel)
set_option maxRecDepth 20000 in
theorem gX0_allRests_X0_cells : GoodIn wsX0_allRests (wsV RX0 153 RX0 yX0_cells wsX0_cells) := goodIn_app (goodIn_of _ (by decide +kernel)) ggX0_allRests_X0_cells
theorem dX0_allRests_0 : decode cX0_allRests 0 = .ok (.iconst 0, 1) := by decide +kernel
theorem dX0_allRests_1 : decode cX0_allRests 1 = .ok (.istore_n 1, 1) := by decide +kernel
theorem dX0_allRests_2 : decode cX0_allRests 2 = .ok (.iconst 0, 1) := by decide +kernel
theorem dX0_allRests_3 : decode cX0_allRests 3 = .ok (.istore_n 2, 1) := by decide +kernel
theorem dX0_allRests_4 : decode cX0_allRests 4 = .ok (.iload_n 2, 1) := by decide +kernel
theorem dX0_allRests_5 : decode cX0_allRests 5 = .ok (.aload_n 0, 1) := by decide +kernel
theorem dX0_allRests_6 : decode cX0_allRests 6 = .ok (.invokevirtual 153, 3) := by decide +kernel
theorem dX0_allRests_9 : decode cX0_allRests 9 = .ok (.iconst 4, 1) := by decide +kernel
theorem dX0_allRests_10 : decode cX0_allRests 10 = .ok (.idiv, 1) := by decide +kernel
theorem dX0_allRests_11 : decode cX0_allRests 11 = .ok (.if_icmp .ge 21, 3) := by decide +kernel
theorem dX0_allRests_14 : decode cX0_allRests 14 = .ok (.iload_n 1, 1) := by decide +kernel
theorem dX0_allRests_15 : decode cX0_allRests 15 = .ok (.aload_n 0, 1) := by decide +kernel
theorem dX0_allRests_16 : decode cX0_allRests 16 = .ok (.getfield 45, 3) := by decide +kernel
theorem dX0_allRests_19 : decode cX0_allRests 19 = .ok (.getfield 156, 3) := by decide +kernel
theorem dX0_allRests_22 : decode cX0_allRests 22 = .ok (.iload_n 2, 1) := by decide +kernel
theorem dX0_allRests_23 : decode cX0_allRests 23 = .ok (.iaload, 1) := by decide +kernel
theorem dX0_allRests_24 : decode cX0_allRests 24 = .ok (.iadd, 1) := by decide +kernel
theorem dX0_allRests_25 : decode cX0_allRests 25 = .ok (.istore_n 1, 1) := by decide +kernel
theorem dX0_allRests_26 : decode cX0_allRests 26 = .ok (.iinc 2 1, 3) := by decide +kernel
theorem dX0_allRests_29 : decode cX0_allRests 29 = .ok (.goto (-25), 3) := by decide +kernel
theorem dX0_allRests_32 : decode cX0_allRests 32 = .ok (.iload_n 1, 1) := by decide +kernel
theorem dX0_allRests_33 : decode cX0_allRests 33 = .ok (.ireturn, 1) := by decide +kernel
theorem dX0_opposite_0 : decode cX0_opposite 0 = .ok (.iload_n 1, 1) := by decide +kernel
theorem dX0_opposite_1 : decode cX0_opposite 1 = .ok (.aload_n 0, 1) := by decide +kernel
theorem dX0_opposite_2 : decode cX0_opposite 2 = .ok (.getfield 52, 3) := by decide +kernel
theorem dX0_opposite_5 : decode cX0_opposite 5 = .ok (.irem, 1) := by decide +kernel
theorem dX0_opposite_6 : decode cX0_opposite 6 = .ok (.istore_n 2, 1) := by decide +kernel
theorem dX0_opposite_7 : decode cX0_opposite 7 = .ok (.iload_n 1, 1) := by decide +kernel
theorem dX0_opposite_8 : decode cX0_opposite 8 = .ok (.iload_n 2, 1) := by decide +kernel
theorem dX0_opposite_9 : decode cX0_opposite 9 = .ok (.isub, 1) := by decide +kernel
theorem dX0_opposite_10 : decode cX0_opposite 10 = .ok (.aload_n 0, 1) := by decide +kernel
theorem dX0_opposite_11 : decode cX0_opposite 11 = .ok (.getfield 52, 3) := by decide +kernel
theorem dX0_opposite_14 : decode cX0_opposite 14 = .ok (.iadd, 1) := by decide +kernel
theorem dX0_opposite_15 : decode cX0_opposite 15 = .ok (.iconst 1, 1) := by decide +kernel
theorem dX0_opposite_16 : decode cX0_opposite 16 = .ok (.isub, 1) := by decide +kernel
theorem dX0_opposite_17 : decode cX0_opposite 17 = .ok (.iload_n 2, 1) := by decide +kernel
theorem dX0_opposite_18 : decode cX0_opposite 18 = .ok (.isub, 1) := by decide +kernel
theorem dX0_opposite_19 : decode cX0_opposite 19 = .ok (.ireturn, 1) := by decide +kernel
set_option maxRecDepth 20000 in
theorem ggX0_turn_X0_cells : GoodIn wsX0_turn wsX0_cells := goodIn_r _ [7, 8, 9, 38, 39, 40, 41, 42, 43, 44, 45, 46, 47, 48, 49, 50, 51, 52, 53, 54, 55, 56] (by decide +kernel) (by decide +kernel)
set_option maxRecDepth 20000 in
theorem gX0_turn_X0_cells : GoodIn wsX0_turn (wsV RX0 153 RX0 yX0_cells wsX0_cells) := goodIn_app (goodIn_of _ (by decide +kernel)) ggX0_turn_X0_cells
set_option maxRecDepth 20000 in
theorem ggX0_turn_X0_opposite : GoodIn wsX0_turn wsX0_opposite := goodIn_r _ [13, 8, 38, 39, 40, 41, 42, 43, 44, 45, 46, 47, 48, 49, 50, 51, 52, 53, 54, 55, 56] (by decide +kernel) (by decide +kernel)
set_option maxRecDepth 20000 in
theorem gX0_turn_X0_opposite : GoodIn wsX0_turn (wsV RX0 159 RX0 yX0_opposite wsX0_opposite) := goodIn_app (goodIn_of _ (by decide +kernel)) ggX0_turn_X0_opposite
set_option maxRecDepth 20000 in
theorem ggX0_turn_X0_swapCells : GoodIn wsX0_turn wsX0_swapCells := goodIn_r _ [17, 18, 19, 20, 21, 22, 23, 6, 24, 25, 26, 27, 28, 29, 38, 39, 40, 41, 42, 43, 44, 45, 46, 47, 48, 49, 50, 51, 52, 53, 54, 55, 56] (by decide +kernel) (by decide +kernel)
set_option maxRecDepth 20000 in
theorem gX0_turn_X0_swapCells : GoodIn wsX0_turn (wsV RX0 163 RX0 yX0_swapCells wsX0_swapCells) := goodIn_app (goodIn_of _ (by decide +kernel)) ggX0_turn_X0_swapCells
set_option maxRecDepth 20000 in
theorem ggX0_turn_X0_hasSide : GoodIn wsX0_turn wsX0_hasSide := goodIn_r _ [33, 8, 9, 38, 39, 40, 41, 42, 43, 44, 45, 46, 47, 48, 49, 50, 51, 52, 53, 54, 55, 56] (by decide +kernel) (by decide +kernel)
set_option maxRecDepth 20000 in
theorem gX0_turn_X0_hasSide : GoodIn wsX0_turn (wsV RX0 135 RX0 yX0_hasSide wsX0_hasSide) := goodIn_app (goodIn_of _ (by decide +kernel)) ggX0_turn_X0_hasSide
set_option maxRecDepth 20000 in
theorem ggX0_turn_X0_swapRightSides : GoodIn wsX0_turn wsX0_swapRightSides := goodIn_r _ [37, 21, 22, 23, 6, 24, 25, 26, 27, 28, 29, 38, 39, 40, 41, 42, 43, 44, 45, 46, 47, 48, 49, 50, 51, 52, 53, 54, 55, 56] (by decide +kernel) (by decide +kernel)
set_option maxRecDepth 20000 in
theorem gX0_turn_X0_swapRightSides : GoodIn wsX0_turn (wsV RX0 167 RX0 yX0_swapRightSides wsX0_swapRightSides) := goodIn_app (goodIn_of _ (by decide +kernel)) ggX0_turn_X0_swapRightSides
theorem dX0_turn_0 : decode cX0_turn 0 = .ok (.iconst 0, 1) := by decide +kernel
theorem dX0_turn_1 : decode cX0_turn 1 = .ok (.istore_n 1, 1) := by decide +kernel
theorem dX0_turn_2 : decode cX0_turn 2 = .ok (.iload_n 1, 1) := by decide +kernel
theorem dX0_turn_3 : decode cX0_turn 3 = .ok (.aload_n 0, 1) := by decide +kernel
theorem dX0_turn_4 : decode cX0_turn 4 = .ok (.invokevirtual 153, 3) := by decide +kernel
theorem dX0_turn_7 : decode cX0_turn 7 = .ok (.if_icmp .ge 57, 3) := by decide +kernel
theorem dX0_turn_10 : decode cX0_turn 10 = .ok (.aload_n 0, 1) := by decide +kernel
theorem dX0_turn_11 : decode cX0_turn 11 = .ok (.iload_n 1, 1) := by decide +kernel
theorem dX0_turn_12 : decode cX0_turn 12 = .ok (.invokevirtual 159, 3) := by decide +kernel
theorem dX0_turn_15 : decode cX0_turn 15 = .ok (.istore_n 2, 1) := by decide +kernel
theorem dX0_turn_16 : decode cX0_turn 16 = .ok (.iload_n 1, 1) := by decide +kernel
theorem dX0_turn_17 : decode cX0_turn 17 = .ok (.iload_n 2, 1) := by decide +kernel
theorem dX0_turn_18 : decode cX0_turn 18 = .ok (.if_icmp .ge 9, 3) := by decide +kernel
theorem dX0_turn_21 : decode cX0_turn 21 = .ok (.aload_n 0, 1) := by decide +kernel
theorem dX0_turn_22 : decode cX0_turn 22 = .ok (.iload_n 1, 1) := by decide +kernel
theorem dX0_turn_23 : decode cX0_turn 23 = .ok (.iload_n 2, 1) := by decide +kernel
theorem dX0_turn_24 : decode cX0_turn 24 = .ok (.invokevirtual 163, 3) := by decide +kernel
theorem dX0_turn_27 : decode cX0_turn 27 = .ok (.iconst 2, 1) := by decide +kernel
theorem dX0_turn_28 : decode cX0_turn 28 = .ok (.iload_n 1, 1) := by decide +kernel
theorem dX0_turn_29 : decode cX0_turn 29 = .ok (.imul, 1) := by decide +kernel
theorem dX0_turn_30 : decode cX0_turn 30 = .ok (.istore_n 3, 1) := by decide +kernel
theorem dX0_turn_31 : decode cX0_turn 31 = .ok (.aload_n 0, 1) := by decide +kernel
theorem dX0_turn_32 : decode cX0_turn 32 = .ok (.iload_n 3, 1) := by decide +kernel
theorem dX0_turn_33 : decode cX0_turn 33 = .ok (.invokevirtual 135, 3) := by decide +kernel
theorem dX0_turn_36 : decode cX0_turn 36 = .ok (.ifCond .eq 22, 3) := by decide +kernel
theorem dX0_turn_39 : decode cX0_turn 39 = .ok (.iload_n 3, 1) := by decide +kernel
theorem dX0_turn_40 : decode cX0_turn 40 = .ok (.iconst 2, 1) := by decide +kernel
theorem dX0_turn_41 : decode cX0_turn 41 = .ok (.iload_n 2, 1) := by decide +kernel
theorem dX0_turn_42 : decode cX0_turn 42 = .ok (.imul, 1) := by decide +kernel
theorem dX0_turn_43 : decode cX0_turn 43 = .ok (.iconst 2, 1) := by decide +kernel
theorem dX0_turn_44 : decode cX0_turn 44 = .ok (.isub, 1) := by decide +kernel
theorem dX0_turn_45 : decode cX0_turn 45 = .ok (.if_icmp .gt 13, 3) := by decide +kernel
theorem dX0_turn_48 : decode cX0_turn 48 = .ok (.aload_n 0, 1) := by decide +kernel
theorem dX0_turn_49 : decode cX0_turn 49 = .ok (.iload_n 3, 1) := by decide +kernel
theorem dX0_turn_50 : decode cX0_turn 50 = .ok (.iconst 2, 1) := by decide +kernel
theorem dX0_turn_51 : decode cX0_turn 51 = .ok (.iload_n 2, 1) := by decide +kernel
theorem dX0_turn_52 : decode cX0_turn 52 = .ok (.imul, 1) := by decide +kernel
theorem dX0_turn_53 : decode cX0_turn 53 = .ok (.iconst 2, 1) := by decide +kernel
theorem dX0_turn_54 : decode cX0_turn 54 = .ok (.isub, 1) := by decide +kernel
theorem dX0_turn_55 : decode cX0_turn 55 = .ok (.invokevirtual 167, 3) := by decide +kernel
theorem dX0_turn_58 : decode cX0_turn 58 = .ok (.iinc 1 1, 3) := by decide +kernel
theorem dX0_turn_61 : decode cX0_turn 61 = .ok (.goto (-59), 3) := by decide +kernel
theorem dX0_turn_64 : decode cX0_turn 64 = .ok (.aload_n 0, 1) := by decide +kernel
theorem dX0_turn_65 : decode cX0_turn 65 = .ok (.getfield 31, 3) := by decide +kernel
theorem dX0_turn_68 : decode cX0_turn 68 = .ok (.aload_n 0, 1) := by decide +kernel
theorem dX0_turn_69 : decode cX0_turn 69 = .ok (.getfield 31, 3) := by decide +kernel
theorem dX0_turn_72 : decode cX0_turn 72 = .ok (.getfield 132, 3) := by decide +kernel
theorem dX0_turn_75 : decode cX0_turn 75 = .ok (.ineg, 1) := by decide +kernel
theorem dX0_turn_76 : decode cX0_turn 76 = .ok (.putfield 132, 3) := by decide +kernel
theorem dX0_turn_79 : decode cX0_turn 79 = .ok (.iconst 0, 1) := by decide +kernel
theorem dX0_turn_80 : decode cX0_turn 80 = .ok (.istore_n 1, 1) := by decide +kernel
theorem dX0_turn_81 : decode cX0_turn 81 = .ok (.iload_n 1, 1) := by decide +kernel
theorem dX0_turn_82 : decode cX0_turn 82 = .ok (.aload_n 0, 1) := by decide +kernel
theorem dX0_turn_83 : decode cX0_turn 83 = .ok (.getfield 38, 3) := by decide +kernel
theorem dX0_turn_86 : decode cX0_turn 86 = .ok (.getfield 84, 3) := by decide +kernel
theorem dX0_turn_89 : decode cX0_turn 89 = .ok (.if_icmp .ge 31, 3) := by decide +kernel
theorem dX0_turn_92 : decode cX0_turn 92 = .ok (.aload_n 0, 1) := by decide +kernel
theorem dX0_turn_93 : decode cX0_turn 93 = .ok (.getfield 38, 3) := by decide +kernel
theorem dX0_turn_96 : decode cX0_turn 96 = .ok (.getfield 170, 3) := by decide +kernel
theorem dX0_turn_99 : decode cX0_turn 99 = .ok (.iload_n 1, 1) := by decide +kernel
theorem dX0_turn_100 : decode cX0_turn 100 = .ok (.aload_n 0, 1) := by decide +kernel
theorem dX0_turn_101 : decode cX0_turn 101 = .ok (.aload_n 0, 1) := by decide +kernel
theorem dX0_turn_102 : decode cX0_turn 102 = .ok (.getfield 38, 3) := by decide +kernel
theorem dX0_turn_105 : decode cX0_turn 105 = .ok (.getfield 170, 3) := by decide +kernel
theorem dX0_turn_108 : decode cX0_turn 108 = .ok (.iload_n 1, 1) := by decide +kernel
theorem dX0_turn_109 : decode cX0_turn 109 = .ok (.iaload, 1) := by decide +kernel
theorem dX0_turn_110 : decode cX0_turn 110 = .ok (.invokevirtual 159, 3) := by decide +kernel
theorem dX0_turn_113 : decode cX0_turn 113 = .ok (.iastore, 1) := by decide +kernel
theorem dX0_turn_114 : decode cX0_turn 114 = .ok (.iinc 1 1, 3) := by decide +kernel
theorem dX0_turn_117 : decode cX0_turn 117 = .ok (.goto (-36), 3) := by decide +kernel
theorem dX0_turn_120 : decode cX0_turn 120 = .ok (.return_, 1) := by decide +kernel
set_option maxRecDepth 20000 in
theorem ggX0_swapCells_X0_swap : GoodIn wsX0_swapCells wsX0_swap := goodIn_r _ [8] (by decide +kernel) (by decide +kernel)
set_option maxRecDepth 20000 in
theorem gX0_swapCells_X0_swap : GoodIn wsX0_swapCells (va_wsS RX0 173 yX0_swap wsX0_swap) := goodIn_app (goodIn_of _ (by decide +kernel)) ggX0_swapCells_X0_swap
set_option maxRecDepth 20000 in
theorem ggX0_swapCells_X0_swapShut : GoodIn wsX0_swapCells wsX0_swapShut := goodIn_r _ [12, 13, 14, 15, 16, 17, 18, 19, 20, 21, 22, 23, 24, 25, 26, 27, 28, 29, 30, 31, 32] (by decide +kernel) (by decide +kernel)
set_option maxRecDepth 20000 in
theorem gX0_swapCells_X0_swapShut : GoodIn wsX0_swapCells (wsV RX0 177 RX0 yX0_swapShut wsX0_swapShut) := goodIn_app (goodIn_of _ (by decide +kernel)) ggX0_swapCells_X0_swapShut
theorem dX0_swapCells_0 : decode cX0_swapCells 0 = .ok (.aload_n 0, 1) := by decide +kernel
theorem dX0_swapCells_1 : decode cX0_swapCells 1 = .ok (.getfield 9, 3) := by decide +kernel
theorem dX0_swapCells_4 : decode cX0_swapCells 4 = .ok (.iload_n 1, 1) := by decide +kernel
theorem dX0_swapCells_5 : decode cX0_swapCells 5 = .ok (.iload_n 2, 1) := by decide +kernel
theorem dX0_swapCells_6 : decode cX0_swapCells 6 = .ok (.invokestatic 173, 3) := by decide +kernel
theorem dX0_swapCells_9 : decode cX0_swapCells 9 = .ok (.aload_n 0, 1) := by decide +kernel
theorem dX0_swapCells_10 : decode cX0_swapCells 10 = .ok (.getfield 15, 3) := by decide +kernel
theorem dX0_swapCells_13 : decode cX0_swapCells 13 = .ok (.iload_n 1, 1) := by decide +kernel
theorem dX0_swapCells_14 : decode cX0_swapCells 14 = .ok (.iload_n 2, 1) := by decide +kernel
theorem dX0_swapCells_15 : decode cX0_swapCells 15 = .ok (.invokestatic 173, 3) := by decide +kernel
theorem dX0_swapCells_18 : decode cX0_swapCells 18 = .ok (.iconst 0, 1) := by decide +kernel
theorem dX0_swapCells_19 : decode cX0_swapCells 19 = .ok (.istore_n 3, 1) := by decide +kernel
theorem dX0_swapCells_20 : decode cX0_swapCells 20 = .ok (.iload_n 3, 1) := by decide +kernel
theorem dX0_swapCells_21 : decode cX0_swapCells 21 = .ok (.iconst 3, 1) := by decide +kernel
theorem dX0_swapCells_22 : decode cX0_swapCells 22 = .ok (.if_icmp .ge 28, 3) := by decide +kernel
theorem dX0_swapCells_25 : decode cX0_swapCells 25 = .ok (.aload_n 0, 1) := by decide +kernel
theorem dX0_swapCells_26 : decode cX0_swapCells 26 = .ok (.getfield 18, 3) := by decide +kernel
theorem dX0_swapCells_29 : decode cX0_swapCells 29 = .ok (.iload_n 3, 1) := by decide +kernel
theorem dX0_swapCells_30 : decode cX0_swapCells 30 = .ok (.bipush 48, 2) := by decide +kernel
theorem dX0_swapCells_32 : decode cX0_swapCells 32 = .ok (.imul, 1) := by decide +kernel
theorem dX0_swapCells_33 : decode cX0_swapCells 33 = .ok (.iload_n 1, 1) := by decide +kernel
theorem dX0_swapCells_34 : decode cX0_swapCells 34 = .ok (.iadd, 1) := by decide +kernel
theorem dX0_swapCells_35 : decode cX0_swapCells 35 = .ok (.iload_n 3, 1) := by decide +kernel
theorem dX0_swapCells_36 : decode cX0_swapCells 36 = .ok (.bipush 48, 2) := by decide +kernel
theorem dX0_swapCells_38 : decode cX0_swapCells 38 = .ok (.imul, 1) := by decide +kernel
theorem dX0_swapCells_39 : decode cX0_swapCells 39 = .ok (.iload_n 2, 1) := by decide +kernel
theorem dX0_swapCells_40 : decode cX0_swapCells 40 = .ok (.iadd, 1) := by decide +kernel
theorem dX0_swapCells_41 : decode cX0_swapCells 41 = .ok (.invokestatic 173, 3) := by decide +kernel
theorem dX0_swapCells_44 : decode cX0_swapCells 44 = .ok (.iinc 3 1, 3) := by decide +kernel
theorem dX0_swapCells_47 : decode cX0_swapCells 47 = .ok (.goto (-27), 3) := by decide +kernel
theorem dX0_swapCells_50 : decode cX0_swapCells 50 = .ok (.aload_n 0, 1) := by decide +kernel
theorem dX0_swapCells_51 : decode cX0_swapCells 51 = .ok (.getfield 21, 3) := by decide +kernel
theorem dX0_swapCells_54 : decode cX0_swapCells 54 = .ok (.iconst 2, 1) := by decide +kernel
theorem dX0_swapCells_55 : decode cX0_swapCells 55 = .ok (.iload_n 1, 1) := by decide +kernel
theorem dX0_swapCells_56 : decode cX0_swapCells 56 = .ok (.imul, 1) := by decide +kernel
theorem dX0_swapCells_57 : decode cX0_swapCells 57 = .ok (.iconst 1, 1) := by decide +kernel
theorem dX0_swapCells_58 : decode cX0_swapCells 58 = .ok (.iadd, 1) := by decide +kernel
theorem dX0_swapCells_59 : decode cX0_swapCells 59 = .ok (.iconst 2, 1) := by decide +kernel
theorem dX0_swapCells_60 : decode cX0_swapCells 60 = .ok (.iload_n 2, 1) := by decide +kernel
theorem dX0_swapCells_61 : decode cX0_swapCells 61 = .ok (.imul, 1) := by decide +kernel
theorem dX0_swapCells_62 : decode cX0_swapCells 62 = .ok (.iconst 1, 1) := by decide +kernel
theorem dX0_swapCells_63 : decode cX0_swapCells 63 = .ok (.iadd, 1) := by decide +kernel
theorem dX0_swapCells_64 : decode cX0_swapCells 64 = .ok (.invokestatic 173, 3) := by decide +kernel
theorem dX0_swapCells_67 : decode cX0_swapCells 67 = .ok (.aload_n 0, 1) := by decide +kernel
theorem dX0_swapCells_68 : decode cX0_swapCells 68 = .ok (.iconst 2, 1) := by decide +kernel
theorem dX0_swapCells_69 : decode cX0_swapCells 69 = .ok (.iload_n 1, 1) := by decide +kernel
theorem dX0_swapCells_70 : decode cX0_swapCells 70 = .ok (.imul, 1) := by decide +kernel
theorem dX0_swapCells_71 : decode cX0_swapCells 71 = .ok (.iconst 1, 1) := by decide +kernel
theorem dX0_swapCells_72 : decode cX0_swapCells 72 = .ok (.iadd, 1) := by decide +kernel
theorem dX0_swapCells_73 : decode cX0_swapCells 73 = .ok (.iconst 2, 1) := by decide +kernel
theorem dX0_swapCells_74 : decode cX0_swapCells 74 = .ok (.iload_n 2, 1) := by decide +kernel
theorem dX0_swapCells_75 : decode cX0_swapCells 75 = .ok (.imul, 1) := by decide +kernel
theorem dX0_swapCells_76 : decode cX0_swapCells 76 = .ok (.iconst 1, 1) := by decide +kernel
theorem dX0_swapCells_77 : decode cX0_swapCells 77 = .ok (.iadd, 1) := by decide +kernel
theorem dX0_swapCells_78 : decode cX0_swapCells 78 = .ok (.invokevirtual 177, 3) := by decide +kernel
theorem dX0_swapCells_81 : decode cX0_swapCells 81 = .ok (.return_, 1) := by decide +kernel
set_option maxRecDepth 20000 in
theorem ggX0_swapRightSides_X0_swap : GoodIn wsX0_swapRightSides wsX0_swap := goodIn_r _ [5] (by decide +kernel) (by decide +kernel)
set_option maxRecDepth 20000 in
theorem gX0_swapRightSides_X0_swap : GoodIn wsX0_swapRightSides (va_wsS RX0 173 yX0_swap wsX0_swap) := goodIn_app (goodIn_of _ (by decide +kernel)) ggX0_swapRightSides_X0_swap
set_option maxRecDepth 20000 in
theorem ggX0_swapRightSides_X0_swapShut : GoodIn wsX0_swapRightSides wsX0_swapShut := goodIn_r _ [9, 10, 11, 12, 13, 14, 15, 16, 17, 18, 19, 20, 21, 22, 23, 24, 25, 26, 27, 28, 29] (by decide +kernel) (by decide +kernel)
set_option maxRecDepth 20000 in
theorem gX0_swapRightSides_X0_swapShut : GoodIn wsX0_swapRightSides (wsV RX0 177 RX0 yX0_swapShut wsX0_swapShut) := goodIn_app (goodIn_of _ (by decide +kernel)) ggX0_swapRightSides_X0_swapShut
theorem dX0_swapRightSides_0 : decode cX0_swapRightSides 0 = .ok (.iload_n 1, 1) := by decide +kernel
theorem dX0_swapRightSides_1 : decode cX0_swapRightSides 1 = .ok (.iload_n 2, 1) := by decide +kernel
theorem dX0_swapRightSides_2 : decode cX0_swapRightSides 2 = .ok (.if_icmp .eq 12, 3) := by decide +kernel
theorem dX0_swapRightSides_5 : decode cX0_swapRightSides 5 = .ok (.aload_n 0, 1) := by decide +kernel
theorem dX0_swapRightSides_6 : decode cX0_swapRightSides 6 = .ok (.getfield 21, 3) := by decide +kernel
theorem dX0_swapRightSides_9 : decode cX0_swapRightSides 9 = .ok (.iload_n 1, 1) := by decide +kernel
theorem dX0_swapRightSides_10 : decode cX0_swapRightSides 10 = .ok (.iload_n 2, 1) := by decide +kernel
theorem dX0_swapRightSides_11 : decode cX0_swapRightSides 11 = .ok (.invokestatic 173, 3) := by decide +kernel
theorem dX0_swapRightSides_14 : decode cX0_swapRightSides 14 = .ok (.aload_n 0, 1) := by decide +kernel
theorem dX0_swapRightSides_15 : decode cX0_swapRightSides 15 = .ok (.getfield 21, 3) := by decide +kernel
theorem dX0_swapRightSides_18 : decode cX0_swapRightSides 18 = .ok (.iload_n 1, 1) := by decide +kernel
theorem dX0_swapRightSides_19 : decode cX0_swapRightSides 19 = .ok (.aload_n 0, 1) := by decide +kernel
theorem dX0_swapRightSides_20 : decode cX0_swapRightSides 20 = .ok (.getfield 21, 3) := by decide +kernel
theorem dX0_swapRightSides_23 : decode cX0_swapRightSides 23 = .ok (.iload_n 1, 1) := by decide +kernel
theorem dX0_swapRightSides_24 : decode cX0_swapRightSides 24 = .ok (.iaload, 1) := by decide +kernel
theorem dX0_swapRightSides_25 : decode cX0_swapRightSides 25 = .ok (.ineg, 1) := by decide +kernel
theorem dX0_swapRightSides_26 : decode cX0_swapRightSides 26 = .ok (.iastore, 1) := by decide +kernel
theorem dX0_swapRightSides_27 : decode cX0_swapRightSides 27 = .ok (.iload_n 1, 1) := by decide +kernel
theorem dX0_swapRightSides_28 : decode cX0_swapRightSides 28 = .ok (.iload_n 2, 1) := by decide +kernel
theorem dX0_swapRightSides_29 : decode cX0_swapRightSides 29 = .ok (.if_icmp .eq 16, 3) := by decide +kernel
theorem dX0_swapRightSides_32 : decode cX0_swapRightSides 32 = .ok (.aload_n 0, 1) := by decide +kernel
theorem dX0_swapRightSides_33 : decode cX0_swapRightSides 33 = .ok (.getfield 21, 3) := by decide +kernel
theorem dX0_swapRightSides_36 : decode cX0_swapRightSides 36 = .ok (.iload_n 2, 1) := by decide +kernel
theorem dX0_swapRightSides_37 : decode cX0_swapRightSides 37 = .ok (.aload_n 0, 1) := by decide +kernel
theorem dX0_swapRightSides_38 : decode cX0_swapRightSides 38 = .ok (.getfield 21, 3) := by decide +kernel
theorem dX0_swapRightSides_41 : decode cX0_swapRightSides 41 = .ok (.iload_n 2, 1) := by decide +kernel
theorem dX0_swapRightSides_42 : decode cX0_swapRightSides 42 = .ok (.iaload, 1) := by decide +kernel
theorem dX0_swapRightSides_43 : decode cX0_swapRightSides 43 = .ok (.ineg, 1) := by decide +kernel
theorem dX0_swapRightSides_44 : decode cX0_swapRightSides 44 = .ok (.iastore, 1) := by decide +kernel
theorem dX0_swapRightSides_45 : decode cX0_swapRightSides 45 = .ok (.aload_n 0, 1) := by decide +kernel
theorem dX0_swapRightSides_46 : decode cX0_swapRightSides 46 = .ok (.iload_n 1, 1) := by decide +kernel
theorem dX0_swapRightSides_47 : decode cX0_swapRightSides 47 = .ok (.iload_n 2, 1) := by decide +kernel
theorem dX0_swapRightSides_48 : decode cX0_swapRightSides 48 = .ok (.invokevirtual 177, 3) := by decide +kernel
theorem dX0_swapRightSides_51 : decode cX0_swapRightSides 51 = .ok (.return_, 1) := by decide +kernel
theorem dX0_swapShut_0 : decode cX0_swapShut 0 = .ok (.aload_n 0, 1) := by decide +kernel
theorem dX0_swapShut_1 : decode cX0_swapShut 1 = .ok (.getfield 24, 3) := by decide +kernel
theorem dX0_swapShut_4 : decode cX0_swapShut 4 = .ok (.iload_n 1, 1) := by decide +kernel
theorem dX0_swapShut_5 : decode cX0_swapShut 5 = .ok (.baload, 1) := by decide +kernel
theorem dX0_swapShut_6 : decode cX0_swapShut 6 = .ok (.istore_n 3, 1) := by decide +kernel
theorem dX0_swapShut_7 : decode cX0_swapShut 7 = .ok (.aload_n 0, 1) := by decide +kernel
theorem dX0_swapShut_8 : decode cX0_swapShut 8 = .ok (.getfield 24, 3) := by decide +kernel
theorem dX0_swapShut_11 : decode cX0_swapShut 11 = .ok (.iload_n 1, 1) := by decide +kernel
theorem dX0_swapShut_12 : decode cX0_swapShut 12 = .ok (.aload_n 0, 1) := by decide +kernel
theorem dX0_swapShut_13 : decode cX0_swapShut 13 = .ok (.getfield 24, 3) := by decide +kernel
theorem dX0_swapShut_16 : decode cX0_swapShut 16 = .ok (.iload_n 2, 1) := by decide +kernel
theorem dX0_swapShut_17 : decode cX0_swapShut 17 = .ok (.baload, 1) := by decide +kernel
theorem dX0_swapShut_18 : decode cX0_swapShut 18 = .ok (.bastore, 1) := by decide +kernel
theorem dX0_swapShut_19 : decode cX0_swapShut 19 = .ok (.aload_n 0, 1) := by decide +kernel
theorem dX0_swapShut_20 : decode cX0_swapShut 20 = .ok (.getfield 24, 3) := by decide +kernel
theorem dX0_swapShut_23 : decode cX0_swapShut 23 = .ok (.iload_n 2, 1) := by decide +kernel
theorem dX0_swapShut_24 : decode cX0_swapShut 24 = .ok (.iload_n 3, 1) := by decide +kernel
theorem dX0_swapShut_25 : decode cX0_swapShut 25 = .ok (.bastore, 1) := by decide +kernel
theorem dX0_swapShut_26 : decode cX0_swapShut 26 = .ok (.return_, 1) := by decide +kernel
theorem dX0_swap_0 : decode cX0_swap 0 = .ok (.aload_n 0, 1) := by decide +kernel
theorem dX0_swap_1 : decode cX0_swap 1 = .ok (.iload_n 1, 1) := by decide +kernel
theorem dX0_swap_2 : decode cX0_swap 2 = .ok (.iaload, 1) := by decide +kernel
theorem dX0_swap_3 : decode cX0_swap 3 = .ok (.istore_n 3, 1) := by decide +kernel
theorem dX0_swap_4 : decode cX0_swap 4 = .ok (.aload_n 0, 1) := by decide +kernel
theorem dX0_swap_5 : decode cX0_swap 5 = .ok (.iload_n 1, 1) := by decide +kernel
theorem dX0_swap_6 : decode cX0_swap 6 = .ok (.aload_n 0, 1) := by decide +kernel
theorem dX0_swap_7 : decode cX0_swap 7 = .ok (.iload_n 2, 1) := by decide +kernel
theorem dX0_swap_8 : decode cX0_swap 8 = .ok (.iaload, 1) := by decide +kernel
theorem dX0_swap_9 : decode cX0_swap 9 = .ok (.iastore, 1) := by decide +kernel
theorem dX0_swap_10 : decode cX0_swap 10 = .ok (.aload_n 0, 1) := by decide +kernel
theorem dX0_swap_11 : decode cX0_swap 11 = .ok (.iload_n 2, 1) := by decide +kernel
theorem dX0_swap_12 : decode cX0_swap 12 = .ok (.iload_n 3, 1) := by decide +kernel
theorem dX0_swap_13 : decode cX0_swap 13 = .ok (.iastore, 1) := by decide +kernel
theorem dX0_swap_14 : decode cX0_swap 14 = .ok (.return_, 1) := by decide +kernel
theorem dX0_underCell_0 : decode cX0_underCell 0 = .ok (.aload_n 0, 1) := by decide +kernel
theorem dX0_underCell_1 : decode cX0_underCell 1 = .ok (.getfield 52, 3) := by decide +kernel
theorem dX0_underCell_4 : decode cX0_underCell 4 = .ok (.iconst 2, 1) := by decide +kernel
theorem dX0_underCell_5 : decode cX0_underCell 5 = .ok (.idiv, 1) := by decide +kernel
theorem dX0_underCell_6 : decode cX0_underCell 6 = .ok (.istore_n 3, 1) := by decide +kernel
theorem dX0_underCell_7 : decode cX0_underCell 7 = .ok (.aload_n 0, 1) := by decide +kernel
theorem dX0_underCell_8 : decode cX0_underCell 8 = .ok (.getfield 45, 3) := by decide +kernel
theorem dX0_underCell_11 : decode cX0_underCell 11 = .ok (.getfield 180, 3) := by decide +kernel
theorem dX0_underCell_14 : decode cX0_underCell 14 = .ok (.iload_n 1, 1) := by decide +kernel
theorem dX0_underCell_15 : decode cX0_underCell 15 = .ok (.iload_n 3, 1) := by decide +kernel
theorem dX0_underCell_16 : decode cX0_underCell 16 = .ok (.idiv, 1) := by decide +kernel
theorem dX0_underCell_17 : decode cX0_underCell 17 = .ok (.iadd, 1) := by decide +kernel
theorem dX0_underCell_18 : decode cX0_underCell 18 = .ok (.aload_n 2, 1) := by decide +kernel
theorem dX0_underCell_19 : decode cX0_underCell 19 = .ok (.getfield 52, 3) := by decide +kernel
theorem dX0_underCell_22 : decode cX0_underCell 22 = .ok (.imul, 1) := by decide +kernel
theorem dX0_underCell_23 : decode cX0_underCell 23 = .ok (.aload_n 0, 1) := by decide +kernel
theorem dX0_underCell_24 : decode cX0_underCell 24 = .ok (.getfield 45, 3) := by decide +kernel
theorem dX0_underCell_27 : decode cX0_underCell 27 = .ok (.getfield 183, 3) := by decide +kernel
theorem dX0_underCell_30 : decode cX0_underCell 30 = .ok (.iadd, 1) := by decide +kernel
theorem dX0_underCell_31 : decode cX0_underCell 31 = .ok (.iload_n 1, 1) := by decide +kernel
theorem dX0_underCell_32 : decode cX0_underCell 32 = .ok (.iload_n 3, 1) := by decide +kernel
theorem dX0_underCell_33 : decode cX0_underCell 33 = .ok (.irem, 1) := by decide +kernel
theorem dX0_underCell_34 : decode cX0_underCell 34 = .ok (.iadd, 1) := by decide +kernel
theorem dX0_underCell_35 : decode cX0_underCell 35 = .ok (.ireturn, 1) := by decide +kernel
theorem dX0_fineCell_0 : decode cX0_fineCell 0 = .ok (.aload_n 0, 1) := by decide +kernel
theorem dX0_fineCell_1 : decode cX0_fineCell 1 = .ok (.getfield 52, 3) := by decide +kernel
theorem dX0_fineCell_4 : decode cX0_fineCell 4 = .ok (.iconst 2, 1) := by decide +kernel
theorem dX0_fineCell_5 : decode cX0_fineCell 5 = .ok (.idiv, 1) := by decide +kernel
theorem dX0_fineCell_6 : decode cX0_fineCell 6 = .ok (.istore_n 3, 1) := by decide +kernel
theorem dX0_fineCell_7 : decode cX0_fineCell 7 = .ok (.iconst 2, 1) := by decide +kernel
theorem dX0_fineCell_8 : decode cX0_fineCell 8 = .ok (.iload_n 1, 1) := by decide +kernel
theorem dX0_fineCell_9 : decode cX0_fineCell 9 = .ok (.iload_n 3, 1) := by decide +kernel
theorem dX0_fineCell_10 : decode cX0_fineCell 10 = .ok (.irem, 1) := by decide +kernel
theorem dX0_fineCell_11 : decode cX0_fineCell 11 = .ok (.imul, 1) := by decide +kernel
theorem dX0_fineCell_12 : decode cX0_fineCell 12 = .ok (.iload_n 2, 1) := by decide +kernel
theorem dX0_fineCell_13 : decode cX0_fineCell 13 = .ok (.iconst 2, 1) := by decide +kernel
theorem dX0_fineCell_14 : decode cX0_fineCell 14 = .ok (.irem, 1) := by decide +kernel
theorem dX0_fineCell_15 : decode cX0_fineCell 15 = .ok (.iadd, 1) := by decide +kernel
theorem dX0_fineCell_16 : decode cX0_fineCell 16 = .ok (.istore 4, 2) := by decide +kernel
theorem dX0_fineCell_18 : decode cX0_fineCell 18 = .ok (.iconst 2, 1) := by decide +kernel
theorem dX0_fineCell_19 : decode cX0_fineCell 19 = .ok (.iload_n 1, 1) := by decide +kernel
theorem dX0_fineCell_20 : decode cX0_fineCell 20 = .ok (.iload_n 3, 1) := by decide +kernel
theorem dX0_fineCell_21 : decode cX0_fineCell 21 = .ok (.idiv, 1) := by decide +kernel
theorem dX0_fineCell_22 : decode cX0_fineCell 22 = .ok (.imul, 1) := by decide +kernel
theorem dX0_fineCell_23 : decode cX0_fineCell 23 = .ok (.iload_n 2, 1) := by decide +kernel
theorem dX0_fineCell_24 : decode cX0_fineCell 24 = .ok (.iconst 2, 1) := by decide +kernel
theorem dX0_fineCell_25 : decode cX0_fineCell 25 = .ok (.idiv, 1) := by decide +kernel
theorem dX0_fineCell_26 : decode cX0_fineCell 26 = .ok (.iadd, 1) := by decide +kernel
theorem dX0_fineCell_27 : decode cX0_fineCell 27 = .ok (.istore 5, 2) := by decide +kernel
theorem dX0_fineCell_29 : decode cX0_fineCell 29 = .ok (.iload 5, 2) := by decide +kernel
theorem dX0_fineCell_31 : decode cX0_fineCell 31 = .ok (.aload_n 0, 1) := by decide +kernel
theorem dX0_fineCell_32 : decode cX0_fineCell 32 = .ok (.getfield 52, 3) := by decide +kernel
theorem dX0_fineCell_35 : decode cX0_fineCell 35 = .ok (.imul, 1) := by decide +kernel
theorem dX0_fineCell_36 : decode cX0_fineCell 36 = .ok (.iload 4, 2) := by decide +kernel
theorem dX0_fineCell_38 : decode cX0_fineCell 38 = .ok (.iadd, 1) := by decide +kernel
theorem dX0_fineCell_39 : decode cX0_fineCell 39 = .ok (.ireturn, 1) := by decide +kernel
set_option maxRecDepth 20000 in
theorem ggX0_layOn_X0_cells : GoodIn wsX0_layOn wsX0_cells := goodIn_r _ [8, 9, 10, 19, 20, 21, 22, 23, 24, 25, 26, 27, 28, 29, 30, 31, 32, 33, 34, 35, 36, 37] (by decide +kernel) (by decide +kernel)
set_option maxRecDepth 20000 in
theorem gX0_layOn_X0_cells : GoodIn wsX0_layOn (wsV RX0 153 RX0 yX0_cells wsX0_cells) := goodIn_app (goodIn_of _ (by decide +kernel)) ggX0_layOn_X0_cells
set_option maxRecDepth 20000 in
theorem ggX0_layOn_X0_underCell : GoodIn wsX0_layOn wsX0_underCell := goodIn_r _ [14, 9, 3, 19, 20, 21, 22, 23, 24, 25, 26, 27, 28, 29, 30, 31, 32, 33, 34, 35, 36, 37, 38, 39, 40, 41, 42] (by decide +kernel) (by decide +kernel)
set_option maxRecDepth 20000 in
theorem gX0_layOn_X0_underCell : GoodIn wsX0_layOn (wsV RX0 186 RX0 yX0_underCell wsX0_underCell) := goodIn_app (goodIn_of _ (by decide +kernel)) ggX0_layOn_X0_underCell
set_option maxRecDepth 20000 in
theorem ggX0_layOn_X0_fineCell : GoodIn wsX0_layOn wsX0_fineCell := goodIn_r _ [18, 9, 19, 20, 21, 22, 23, 24, 25, 26, 27, 28, 29, 30, 31, 32, 33, 34, 35, 36, 37] (by decide +kernel) (by decide +kernel)
set_option maxRecDepth 20000 in
theorem gX0_layOn_X0_fineCell : GoodIn wsX0_layOn (wsV RX0 190 RX0 yX0_fineCell wsX0_fineCell) := goodIn_app (goodIn_of _ (by decide +kernel)) ggX0_layOn_X0_fineCell
theorem dX0_layOn_0 : decode cX0_layOn 0 = .ok (.iconst 0, 1) := by decide +kernel
theorem dX0_layOn_1 : decode cX0_layOn 1 = .ok (.istore_n 2, 1) := by decide +kernel
theorem dX0_layOn_2 : decode cX0_layOn 2 = .ok (.iload_n 2, 1) := by decide +kernel
theorem dX0_layOn_3 : decode cX0_layOn 3 = .ok (.aload_n 0, 1) := by decide +kernel
theorem dX0_layOn_4 : decode cX0_layOn 4 = .ok (.invokevirtual 153, 3) := by decide +kernel
theorem dX0_layOn_7 : decode cX0_layOn 7 = .ok (.iconst 4, 1) := by decide +kernel
theorem dX0_layOn_8 : decode cX0_layOn 8 = .ok (.idiv, 1) := by decide +kernel
theorem dX0_layOn_9 : decode cX0_layOn 9 = .ok (.if_icmp .ge 91, 3) := by decide +kernel
theorem dX0_layOn_12 : decode cX0_layOn 12 = .ok (.aload_n 0, 1) := by decide +kernel
theorem dX0_layOn_13 : decode cX0_layOn 13 = .ok (.iload_n 2, 1) := by decide +kernel
theorem dX0_layOn_14 : decode cX0_layOn 14 = .ok (.aload_n 1, 1) := by decide +kernel
theorem dX0_layOn_15 : decode cX0_layOn 15 = .ok (.invokevirtual 186, 3) := by decide +kernel
theorem dX0_layOn_18 : decode cX0_layOn 18 = .ok (.istore_n 3, 1) := by decide +kernel
theorem dX0_layOn_19 : decode cX0_layOn 19 = .ok (.iconst 0, 1) := by decide +kernel
theorem dX0_layOn_20 : decode cX0_layOn 20 = .ok (.istore 4, 2) := by decide +kernel
theorem dX0_layOn_22 : decode cX0_layOn 22 = .ok (.iload 4, 2) := by decide +kernel
theorem dX0_layOn_24 : decode cX0_layOn 24 = .ok (.iconst 4, 1) := by decide +kernel
theorem dX0_layOn_25 : decode cX0_layOn 25 = .ok (.if_icmp .ge 44, 3) := by decide +kernel
theorem dX0_layOn_28 : decode cX0_layOn 28 = .ok (.aload_n 0, 1) := by decide +kernel
theorem dX0_layOn_29 : decode cX0_layOn 29 = .ok (.iload_n 2, 1) := by decide +kernel
theorem dX0_layOn_30 : decode cX0_layOn 30 = .ok (.iload 4, 2) := by decide +kernel
theorem dX0_layOn_32 : decode cX0_layOn 32 = .ok (.invokevirtual 190, 3) := by decide +kernel
theorem dX0_layOn_35 : decode cX0_layOn 35 = .ok (.istore 5, 2) := by decide +kernel
theorem dX0_layOn_37 : decode cX0_layOn 37 = .ok (.aload_n 0, 1) := by decide +kernel
theorem dX0_layOn_38 : decode cX0_layOn 38 = .ok (.getfield 9, 3) := by decide +kernel
theorem dX0_layOn_41 : decode cX0_layOn 41 = .ok (.iload 5, 2) := by decide +kernel
theorem dX0_layOn_43 : decode cX0_layOn 43 = .ok (.aload_n 1, 1) := by decide +kernel
theorem dX0_layOn_44 : decode cX0_layOn 44 = .ok (.getfield 9, 3) := by decide +kernel
theorem dX0_layOn_47 : decode cX0_layOn 47 = .ok (.iload_n 3, 1) := by decide +kernel
theorem dX0_layOn_48 : decode cX0_layOn 48 = .ok (.iaload, 1) := by decide +kernel
theorem dX0_layOn_49 : decode cX0_layOn 49 = .ok (.iastore, 1) := by decide +kernel
theorem dX0_layOn_50 : decode cX0_layOn 50 = .ok (.aload_n 0, 1) := by decide +kernel
theorem dX0_layOn_51 : decode cX0_layOn 51 = .ok (.getfield 15, 3) := by decide +kernel
theorem dX0_layOn_54 : decode cX0_layOn 54 = .ok (.iload 5, 2) := by decide +kernel
theorem dX0_layOn_56 : decode cX0_layOn 56 = .ok (.aload_n 1, 1) := by decide +kernel
theorem dX0_layOn_57 : decode cX0_layOn 57 = .ok (.getfield 15, 3) := by decide +kernel
theorem dX0_layOn_60 : decode cX0_layOn 60 = .ok (.iload_n 3, 1) := by decide +kernel
theorem dX0_layOn_61 : decode cX0_layOn 61 = .ok (.iaload, 1) := by decide +kernel
theorem dX0_layOn_62 : decode cX0_layOn 62 = .ok (.iastore, 1) := by decide +kernel
theorem dX0_layOn_63 : decode cX0_layOn 63 = .ok (.iinc 4 1, 3) := by decide +kernel
theorem dX0_layOn_66 : decode cX0_layOn 66 = .ok (.goto (-44), 3) := by decide +kernel
theorem dX0_layOn_69 : decode cX0_layOn 69 = .ok (.aload_n 0, 1) := by decide +kernel
theorem dX0_layOn_70 : decode cX0_layOn 70 = .ok (.getfield 45, 3) := by decide +kernel
theorem dX0_layOn_73 : decode cX0_layOn 73 = .ok (.getfield 193, 3) := by decide +kernel
theorem dX0_layOn_76 : decode cX0_layOn 76 = .ok (.iload_n 2, 1) := by decide +kernel
theorem dX0_layOn_77 : decode cX0_layOn 77 = .ok (.aload_n 1, 1) := by decide +kernel
theorem dX0_layOn_78 : decode cX0_layOn 78 = .ok (.getfield 15, 3) := by decide +kernel
theorem dX0_layOn_81 : decode cX0_layOn 81 = .ok (.iload_n 3, 1) := by decide +kernel
theorem dX0_layOn_82 : decode cX0_layOn 82 = .ok (.iaload, 1) := by decide +kernel
theorem dX0_layOn_83 : decode cX0_layOn 83 = .ok (.iastore, 1) := by decide +kernel
theorem dX0_layOn_84 : decode cX0_layOn 84 = .ok (.aload_n 0, 1) := by decide +kernel
theorem dX0_layOn_85 : decode cX0_layOn 85 = .ok (.getfield 45, 3) := by decide +kernel
theorem dX0_layOn_88 : decode cX0_layOn 88 = .ok (.getfield 156, 3) := by decide +kernel
theorem dX0_layOn_91 : decode cX0_layOn 91 = .ok (.iload_n 2, 1) := by decide +kernel
theorem dX0_layOn_92 : decode cX0_layOn 92 = .ok (.iconst 0, 1) := by decide +kernel
theorem dX0_layOn_93 : decode cX0_layOn 93 = .ok (.iastore, 1) := by decide +kernel
theorem dX0_layOn_94 : decode cX0_layOn 94 = .ok (.iinc 2 1, 3) := by decide +kernel
theorem dX0_layOn_97 : decode cX0_layOn 97 = .ok (.goto (-95), 3) := by decide +kernel
theorem dX0_layOn_100 : decode cX0_layOn 100 = .ok (.return_, 1) := by decide +kernel
set_option maxRecDepth 20000 in
theorem ggX0_giveUp_X0_cells : GoodIn wsX0_giveUp wsX0_cells := goodIn_r _ [15, 16, 17, 30, 31, 32, 33, 34, 35, 36, 37, 38, 39, 40, 41, 42, 43, 44, 45, 46, 47, 48] (by decide +kernel) (by decide +kernel)
set_option maxRecDepth 20000 in
theorem gX0_giveUp_X0_cells : GoodIn wsX0_giveUp (wsV RX0 153 RX0 yX0_cells wsX0_cells) := goodIn_app (goodIn_of _ (by decide +kernel)) ggX0_giveUp_X0_cells
set_option maxRecDepth 20000 in
theorem ggX0_giveUp_X0_underCell : GoodIn wsX0_giveUp wsX0_underCell := goodIn_r _ [21, 16, 1, 30, 31, 32, 33, 34, 35, 36, 37, 38, 39, 40, 41, 42, 43, 44, 45, 46, 47, 48, 49, 50, 51, 52, 53] (by decide +kernel) (by decide +kernel)
set_option maxRecDepth 20000 in
theorem gX0_giveUp_X0_underCell : GoodIn wsX0_giveUp (wsV RX0 186 RX0 yX0_underCell wsX0_underCell) := goodIn_app (goodIn_of _ (by decide +kernel)) ggX0_giveUp_X0_underCell
set_option maxRecDepth 20000 in
theorem ggX0_giveUp_X0_fineCell : GoodIn wsX0_giveUp wsX0_fineCell := goodIn_r _ [25, 16, 30, 31, 32, 33, 34, 35, 36, 37, 38, 39, 40, 41, 42, 43, 44, 45, 46, 47, 48] (by decide +kernel) (by decide +kernel)
set_option maxRecDepth 20000 in
theorem gX0_giveUp_X0_fineCell : GoodIn wsX0_giveUp (wsV RX0 190 RX0 yX0_fineCell wsX0_fineCell) := goodIn_app (goodIn_of _ (by decide +kernel)) ggX0_giveUp_X0_fineCell
set_option maxRecDepth 20000 in
theorem ggX0_giveUp_J9_floorDiv_7cf53 : GoodIn wsX0_giveUp wsJ9_floorDiv_7cf53 := goodIn_r _ [29] (by decide +kernel) (by decide +kernel)
set_option maxRecDepth 20000 in
theorem gX0_giveUp_J9_floorDiv_7cf53 : GoodIn wsX0_giveUp (va_wsS RX0 197 yJ9_floorDiv_7cf53 wsJ9_floorDiv_7cf53) := goodIn_app (goodIn_of _ (by decide +kernel)) ggX0_giveUp_J9_floorDiv_7cf53
theorem dX0_giveUp_0 : decode cX0_giveUp 0 = .ok (.iconst 0, 1) := by decide +kernel
theorem dX0_giveUp_1 : decode cX0_giveUp 1 = .ok (.istore_n 2, 1) := by decide +kernel
theorem dX0_giveUp_2 : decode cX0_giveUp 2 = .ok (.iconst 0, 1) := by decide +kernel
theorem dX0_giveUp_3 : decode cX0_giveUp 3 = .ok (.istore_n 3, 1) := by decide +kernel
theorem dX0_giveUp_4 : decode cX0_giveUp 4 = .ok (.iload_n 3, 1) := by decide +kernel
theorem dX0_giveUp_5 : decode cX0_giveUp 5 = .ok (.aload_n 0, 1) := by decide +kernel
theorem dX0_giveUp_6 : decode cX0_giveUp 6 = .ok (.invokevirtual 153, 3) := by decide +kernel
theorem dX0_giveUp_9 : decode cX0_giveUp 9 = .ok (.iconst 4, 1) := by decide +kernel
theorem dX0_giveUp_10 : decode cX0_giveUp 10 = .ok (.idiv, 1) := by decide +kernel
theorem dX0_giveUp_11 : decode cX0_giveUp 11 = .ok (.if_icmp .ge 126, 3) := by decide +kernel
theorem dX0_giveUp_14 : decode cX0_giveUp 14 = .ok (.aload_n 0, 1) := by decide +kernel
theorem dX0_giveUp_15 : decode cX0_giveUp 15 = .ok (.iload_n 3, 1) := by decide +kernel
theorem dX0_giveUp_16 : decode cX0_giveUp 16 = .ok (.aload_n 1, 1) := by decide +kernel
theorem dX0_giveUp_17 : decode cX0_giveUp 17 = .ok (.invokevirtual 186, 3) := by decide +kernel
theorem dX0_giveUp_20 : decode cX0_giveUp 20 = .ok (.istore 4, 2) := by decide +kernel
theorem dX0_giveUp_22 : decode cX0_giveUp 22 = .ok (.aload_n 0, 1) := by decide +kernel
theorem dX0_giveUp_23 : decode cX0_giveUp 23 = .ok (.getfield 45, 3) := by decide +kernel
theorem dX0_giveUp_26 : decode cX0_giveUp 26 = .ok (.getfield 156, 3) := by decide +kernel
theorem dX0_giveUp_29 : decode cX0_giveUp 29 = .ok (.iload_n 3, 1) := by decide +kernel
theorem dX0_giveUp_30 : decode cX0_giveUp 30 = .ok (.iaload, 1) := by decide +kernel
theorem dX0_giveUp_31 : decode cX0_giveUp 31 = .ok (.istore 5, 2) := by decide +kernel
theorem dX0_giveUp_33 : decode cX0_giveUp 33 = .ok (.iconst 0, 1) := by decide +kernel
theorem dX0_giveUp_34 : decode cX0_giveUp 34 = .ok (.istore 6, 2) := by decide +kernel
theorem dX0_giveUp_36 : decode cX0_giveUp 36 = .ok (.iload 6, 2) := by decide +kernel
theorem dX0_giveUp_38 : decode cX0_giveUp 38 = .ok (.iconst 4, 1) := by decide +kernel
theorem dX0_giveUp_39 : decode cX0_giveUp 39 = .ok (.if_icmp .ge 26, 3) := by decide +kernel
theorem dX0_giveUp_42 : decode cX0_giveUp 42 = .ok (.iload 5, 2) := by decide +kernel
theorem dX0_giveUp_44 : decode cX0_giveUp 44 = .ok (.aload_n 0, 1) := by decide +kernel
theorem dX0_giveUp_45 : decode cX0_giveUp 45 = .ok (.getfield 15, 3) := by decide +kernel
theorem dX0_giveUp_48 : decode cX0_giveUp 48 = .ok (.aload_n 0, 1) := by decide +kernel
theorem dX0_giveUp_49 : decode cX0_giveUp 49 = .ok (.iload_n 3, 1) := by decide +kernel
theorem dX0_giveUp_50 : decode cX0_giveUp 50 = .ok (.iload 6, 2) := by decide +kernel
theorem dX0_giveUp_52 : decode cX0_giveUp 52 = .ok (.invokevirtual 190, 3) := by decide +kernel
theorem dX0_giveUp_55 : decode cX0_giveUp 55 = .ok (.iaload, 1) := by decide +kernel
theorem dX0_giveUp_56 : decode cX0_giveUp 56 = .ok (.iadd, 1) := by decide +kernel
theorem dX0_giveUp_57 : decode cX0_giveUp 57 = .ok (.istore 5, 2) := by decide +kernel
theorem dX0_giveUp_59 : decode cX0_giveUp 59 = .ok (.iinc 6 1, 3) := by decide +kernel
theorem dX0_giveUp_62 : decode cX0_giveUp 62 = .ok (.goto (-26), 3) := by decide +kernel
theorem dX0_giveUp_65 : decode cX0_giveUp 65 = .ok (.iconst 0, 1) := by decide +kernel
theorem dX0_giveUp_66 : decode cX0_giveUp 66 = .ok (.ldc 196, 2) := by decide +kernel
theorem dX0_giveUp_68 : decode cX0_giveUp 68 = .ok (.iload 5, 2) := by decide +kernel
theorem dX0_giveUp_70 : decode cX0_giveUp 70 = .ok (.iconst 4, 1) := by decide +kernel
theorem dX0_giveUp_71 : decode cX0_giveUp 71 = .ok (.invokestatic 197, 3) := by decide +kernel
theorem dX0_giveUp_74 : decode cX0_giveUp 74 = .ok (.invokestatic 200, 3) := by decide +kernel
theorem dX0_giveUp_77 : decode cX0_giveUp 77 = .ok (.invokestatic 203, 3) := by decide +kernel
theorem dX0_giveUp_80 : decode cX0_giveUp 80 = .ok (.istore 6, 2) := by decide +kernel
theorem dX0_giveUp_82 : decode cX0_giveUp 82 = .ok (.iload_n 2, 1) := by decide +kernel
theorem dX0_giveUp_83 : decode cX0_giveUp 83 = .ok (.iload 6, 2) := by decide +kernel
theorem dX0_giveUp_85 : decode cX0_giveUp 85 = .ok (.aload_n 1, 1) := by decide +kernel
theorem dX0_giveUp_86 : decode cX0_giveUp 86 = .ok (.getfield 15, 3) := by decide +kernel
theorem dX0_giveUp_89 : decode cX0_giveUp 89 = .ok (.iload 4, 2) := by decide +kernel
theorem dX0_giveUp_91 : decode cX0_giveUp 91 = .ok (.iaload, 1) := by decide +kernel
theorem dX0_giveUp_92 : decode cX0_giveUp 92 = .ok (.isub, 1) := by decide +kernel
theorem dX0_giveUp_93 : decode cX0_giveUp 93 = .ok (.iadd, 1) := by decide +kernel
theorem dX0_giveUp_94 : decode cX0_giveUp 94 = .ok (.istore_n 2, 1) := by decide +kernel
theorem dX0_giveUp_95 : decode cX0_giveUp 95 = .ok (.aload_n 1, 1) := by decide +kernel
theorem dX0_giveUp_96 : decode cX0_giveUp 96 = .ok (.getfield 15, 3) := by decide +kernel
theorem dX0_giveUp_99 : decode cX0_giveUp 99 = .ok (.iload 4, 2) := by decide +kernel
theorem dX0_giveUp_101 : decode cX0_giveUp 101 = .ok (.iload 6, 2) := by decide +kernel
theorem dX0_giveUp_103 : decode cX0_giveUp 103 = .ok (.iastore, 1) := by decide +kernel
theorem dX0_giveUp_104 : decode cX0_giveUp 104 = .ok (.aload_n 0, 1) := by decide +kernel
theorem dX0_giveUp_105 : decode cX0_giveUp 105 = .ok (.getfield 45, 3) := by decide +kernel
theorem dX0_giveUp_108 : decode cX0_giveUp 108 = .ok (.getfield 193, 3) := by decide +kernel
theorem dX0_giveUp_111 : decode cX0_giveUp 111 = .ok (.iload_n 3, 1) := by decide +kernel
theorem dX0_giveUp_112 : decode cX0_giveUp 112 = .ok (.iload 6, 2) := by decide +kernel
theorem dX0_giveUp_114 : decode cX0_giveUp 114 = .ok (.iastore, 1) := by decide +kernel
theorem dX0_giveUp_115 : decode cX0_giveUp 115 = .ok (.aload_n 0, 1) := by decide +kernel
theorem dX0_giveUp_116 : decode cX0_giveUp 116 = .ok (.getfield 45, 3) := by decide +kernel
theorem dX0_giveUp_119 : decode cX0_giveUp 119 = .ok (.getfield 156, 3) := by decide +kernel
theorem dX0_giveUp_122 : decode cX0_giveUp 122 = .ok (.iload_n 3, 1) := by decide +kernel
theorem dX0_giveUp_123 : decode cX0_giveUp 123 = .ok (.iload 5, 2) := by decide +kernel
theorem dX0_giveUp_125 : decode cX0_giveUp 125 = .ok (.iconst 4, 1) := by decide +kernel
theorem dX0_giveUp_126 : decode cX0_giveUp 126 = .ok (.iload 6, 2) := by decide +kernel
theorem dX0_giveUp_128 : decode cX0_giveUp 128 = .ok (.imul, 1) := by decide +kernel
theorem dX0_giveUp_129 : decode cX0_giveUp 129 = .ok (.isub, 1) := by decide +kernel
theorem dX0_giveUp_130 : decode cX0_giveUp 130 = .ok (.iastore, 1) := by decide +kernel
theorem dX0_giveUp_131 : decode cX0_giveUp 131 = .ok (.iinc 3 1, 3) := by decide +kernel
theorem dX0_giveUp_134 : decode cX0_giveUp 134 = .ok (.goto (-130), 3) := by decide +kernel
theorem dX0_giveUp_137 : decode cX0_giveUp 137 = .ok (.iload_n 2, 1) := by decide +kernel
theorem dX0_giveUp_138 : decode cX0_giveUp 138 = .ok (.ireturn, 1) := by decide +kernel
set_option maxRecDepth 20000 in
theorem ggX0_takeDown_X0_sum : GoodIn wsX0_takeDown wsX0_sum := goodIn_r _ [12, 13, 14, 15, 11, 16, 17, 18, 34, 35, 36, 37, 38, 39, 40, 41, 42, 43, 44, 45, 46, 47, 48, 49, 50, 51, 52] (by decide +kernel) (by decide +kernel)
set_option maxRecDepth 20000 in
theorem gX0_takeDown_X0_sum : GoodIn wsX0_takeDown (wsV RX0 145 RX0 yX0_sum wsX0_sum) := goodIn_app (goodIn_of _ (by decide +kernel)) ggX0_takeDown_X0_sum
set_option maxRecDepth 20000 in
theorem ggX0_takeDown_X0_cells : GoodIn wsX0_takeDown wsX0_cells := goodIn_r _ [16, 17, 18, 34, 35, 36, 37, 38, 39, 40, 41, 42, 43, 44, 45, 46, 47, 48, 49, 50, 51, 52] (by decide +kernel) (by decide +kernel)
set_option maxRecDepth 20000 in
theorem gX0_takeDown_X0_cells : GoodIn wsX0_takeDown (wsV RX0 153 RX0 yX0_cells wsX0_cells) := goodIn_app (goodIn_of _ (by decide +kernel)) ggX0_takeDown_X0_cells
set_option maxRecDepth 20000 in
theorem ggX0_takeDown_X0_underCell : GoodIn wsX0_takeDown wsX0_underCell := goodIn_r _ [22, 17, 2, 34, 35, 36, 37, 38, 39, 40, 41, 42, 43, 44, 45, 46, 47, 48, 49, 50, 51, 52, 53, 54, 55, 56, 57] (by decide +kernel) (by decide +kernel)
set_option maxRecDepth 20000 in
theorem gX0_takeDown_X0_underCell : GoodIn wsX0_takeDown (wsV RX0 186 RX0 yX0_underCell wsX0_underCell) := goodIn_app (goodIn_of _ (by decide +kernel)) ggX0_takeDown_X0_underCell
set_option maxRecDepth 20000 in
theorem ggX0_takeDown_X0_fineCell : GoodIn wsX0_takeDown wsX0_fineCell := goodIn_r _ [26, 17, 34, 35, 36, 37, 38, 39, 40, 41, 42, 43, 44, 45, 46, 47, 48, 49, 50, 51, 52] (by decide +kernel) (by decide +kernel)
set_option maxRecDepth 20000 in
theorem gX0_takeDown_X0_fineCell : GoodIn wsX0_takeDown (wsV RX0 190 RX0 yX0_fineCell wsX0_fineCell) := goodIn_app (goodIn_of _ (by decide +kernel)) ggX0_takeDown_X0_fineCell
set_option maxRecDepth 20000 in
theorem ggX0_takeDown_X0_unfilled : GoodIn wsX0_takeDown wsX0_unfilled := goodIn_r _ [30, 1, 31, 32, 6, 33, 4, 5, 7, 23, 24, 25, 11, 26, 17, 34, 35, 36, 37, 38, 39, 40, 41, 42, 43, 44, 45, 46, 47, 48, 49, 50, 51, 52] (by decide +kernel) (by decide +kernel)
set_option maxRecDepth 20000 in
theorem gX0_takeDown_X0_unfilled : GoodIn wsX0_takeDown (wsV RX0 206 RX0 yX0_unfilled wsX0_unfilled) := goodIn_app (goodIn_of _ (by decide +kernel)) ggX0_takeDown_X0_unfilled
theorem dX0_takeDown_0 : decode cX0_takeDown 0 = .ok (.aload_n 0, 1) := by decide +kernel
theorem dX0_takeDown_1 : decode cX0_takeDown 1 = .ok (.aload_n 0, 1) := by decide +kernel
theorem dX0_takeDown_2 : decode cX0_takeDown 2 = .ok (.getfield 15, 3) := by decide +kernel
theorem dX0_takeDown_5 : decode cX0_takeDown 5 = .ok (.iconst 0, 1) := by decide +kernel
theorem dX0_takeDown_6 : decode cX0_takeDown 6 = .ok (.invokevirtual 145, 3) := by decide +kernel
theorem dX0_takeDown_9 : decode cX0_takeDown 9 = .ok (.istore_n 2, 1) := by decide +kernel
theorem dX0_takeDown_10 : decode cX0_takeDown 10 = .ok (.iconst 0, 1) := by decide +kernel
theorem dX0_takeDown_11 : decode cX0_takeDown 11 = .ok (.istore_n 3, 1) := by decide +kernel
theorem dX0_takeDown_12 : decode cX0_takeDown 12 = .ok (.iload_n 3, 1) := by decide +kernel
theorem dX0_takeDown_13 : decode cX0_takeDown 13 = .ok (.aload_n 0, 1) := by decide +kernel
theorem dX0_takeDown_14 : decode cX0_takeDown 14 = .ok (.invokevirtual 153, 3) := by decide +kernel
theorem dX0_takeDown_17 : decode cX0_takeDown 17 = .ok (.iconst 4, 1) := by decide +kernel
theorem dX0_takeDown_18 : decode cX0_takeDown 18 = .ok (.idiv, 1) := by decide +kernel
theorem dX0_takeDown_19 : decode cX0_takeDown 19 = .ok (.if_icmp .ge 185, 3) := by decide +kernel
theorem dX0_takeDown_22 : decode cX0_takeDown 22 = .ok (.aload_n 0, 1) := by decide +kernel
theorem dX0_takeDown_23 : decode cX0_takeDown 23 = .ok (.iload_n 3, 1) := by decide +kernel
theorem dX0_takeDown_24 : decode cX0_takeDown 24 = .ok (.aload_n 1, 1) := by decide +kernel
theorem dX0_takeDown_25 : decode cX0_takeDown 25 = .ok (.invokevirtual 186, 3) := by decide +kernel
theorem dX0_takeDown_28 : decode cX0_takeDown 28 = .ok (.istore 4, 2) := by decide +kernel
theorem dX0_takeDown_30 : decode cX0_takeDown 30 = .ok (.aload_n 1, 1) := by decide +kernel
theorem dX0_takeDown_31 : decode cX0_takeDown 31 = .ok (.getfield 15, 3) := by decide +kernel
theorem dX0_takeDown_34 : decode cX0_takeDown 34 = .ok (.iload 4, 2) := by decide +kernel
theorem dX0_takeDown_36 : decode cX0_takeDown 36 = .ok (.iaload, 1) := by decide +kernel
theorem dX0_takeDown_37 : decode cX0_takeDown 37 = .ok (.aload_n 0, 1) := by decide +kernel
theorem dX0_takeDown_38 : decode cX0_takeDown 38 = .ok (.getfield 45, 3) := by decide +kernel
theorem dX0_takeDown_41 : decode cX0_takeDown 41 = .ok (.getfield 193, 3) := by decide +kernel
theorem dX0_takeDown_44 : decode cX0_takeDown 44 = .ok (.iload_n 3, 1) := by decide +kernel
theorem dX0_takeDown_45 : decode cX0_takeDown 45 = .ok (.iaload, 1) := by decide +kernel
theorem dX0_takeDown_46 : decode cX0_takeDown 46 = .ok (.isub, 1) := by decide +kernel
theorem dX0_takeDown_47 : decode cX0_takeDown 47 = .ok (.istore 5, 2) := by decide +kernel
theorem dX0_takeDown_49 : decode cX0_takeDown 49 = .ok (.iconst 0, 1) := by decide +kernel
theorem dX0_takeDown_50 : decode cX0_takeDown 50 = .ok (.istore 6, 2) := by decide +kernel
theorem dX0_takeDown_52 : decode cX0_takeDown 52 = .ok (.iload 6, 2) := by decide +kernel
theorem dX0_takeDown_54 : decode cX0_takeDown 54 = .ok (.iconst 4, 1) := by decide +kernel
theorem dX0_takeDown_55 : decode cX0_takeDown 55 = .ok (.if_icmp .ge 26, 3) := by decide +kernel
theorem dX0_takeDown_58 : decode cX0_takeDown 58 = .ok (.aload_n 0, 1) := by decide +kernel
theorem dX0_takeDown_59 : decode cX0_takeDown 59 = .ok (.getfield 15, 3) := by decide +kernel
theorem dX0_takeDown_62 : decode cX0_takeDown 62 = .ok (.aload_n 0, 1) := by decide +kernel
theorem dX0_takeDown_63 : decode cX0_takeDown 63 = .ok (.iload_n 3, 1) := by decide +kernel
theorem dX0_takeDown_64 : decode cX0_takeDown 64 = .ok (.iload 6, 2) := by decide +kernel
theorem dX0_takeDown_66 : decode cX0_takeDown 66 = .ok (.invokevirtual 190, 3) := by decide +kernel
theorem dX0_takeDown_69 : decode cX0_takeDown 69 = .ok (.dup2, 1) := by decide +kernel
theorem dX0_takeDown_70 : decode cX0_takeDown 70 = .ok (.iaload, 1) := by decide +kernel
theorem dX0_takeDown_71 : decode cX0_takeDown 71 = .ok (.iload 5, 2) := by decide +kernel
theorem dX0_takeDown_73 : decode cX0_takeDown 73 = .ok (.iadd, 1) := by decide +kernel
theorem dX0_takeDown_74 : decode cX0_takeDown 74 = .ok (.iastore, 1) := by decide +kernel
theorem dX0_takeDown_75 : decode cX0_takeDown 75 = .ok (.iinc 6 1, 3) := by decide +kernel
theorem dX0_takeDown_78 : decode cX0_takeDown 78 = .ok (.goto (-26), 3) := by decide +kernel
theorem dX0_takeDown_81 : decode cX0_takeDown 81 = .ok (.iconst 0, 1) := by decide +kernel
theorem dX0_takeDown_82 : decode cX0_takeDown 82 = .ok (.istore 6, 2) := by decide +kernel
theorem dX0_takeDown_84 : decode cX0_takeDown 84 = .ok (.iload 6, 2) := by decide +kernel
theorem dX0_takeDown_86 : decode cX0_takeDown 86 = .ok (.iconst 4, 1) := by decide +kernel
theorem dX0_takeDown_87 : decode cX0_takeDown 87 = .ok (.if_icmp .ge 28, 3) := by decide +kernel
theorem dX0_takeDown_90 : decode cX0_takeDown 90 = .ok (.aload_n 0, 1) := by decide +kernel
theorem dX0_takeDown_91 : decode cX0_takeDown 91 = .ok (.getfield 45, 3) := by decide +kernel
theorem dX0_takeDown_94 : decode cX0_takeDown 94 = .ok (.getfield 156, 3) := by decide +kernel
theorem dX0_takeDown_97 : decode cX0_takeDown 97 = .ok (.iload_n 3, 1) := by decide +kernel
theorem dX0_takeDown_98 : decode cX0_takeDown 98 = .ok (.dup2, 1) := by decide +kernel
theorem dX0_takeDown_99 : decode cX0_takeDown 99 = .ok (.iaload, 1) := by decide +kernel
theorem dX0_takeDown_100 : decode cX0_takeDown 100 = .ok (.aload_n 0, 1) := by decide +kernel
theorem dX0_takeDown_101 : decode cX0_takeDown 101 = .ok (.iload_n 3, 1) := by decide +kernel
theorem dX0_takeDown_102 : decode cX0_takeDown 102 = .ok (.iload 6, 2) := by decide +kernel
theorem dX0_takeDown_104 : decode cX0_takeDown 104 = .ok (.invokevirtual 206, 3) := by decide +kernel
theorem dX0_takeDown_107 : decode cX0_takeDown 107 = .ok (.isub, 1) := by decide +kernel
theorem dX0_takeDown_108 : decode cX0_takeDown 108 = .ok (.iastore, 1) := by decide +kernel
theorem dX0_takeDown_109 : decode cX0_takeDown 109 = .ok (.iinc 6 1, 3) := by decide +kernel
theorem dX0_takeDown_112 : decode cX0_takeDown 112 = .ok (.goto (-28), 3) := by decide +kernel
theorem dX0_takeDown_115 : decode cX0_takeDown 115 = .ok (.iconst 0, 1) := by decide +kernel
theorem dX0_takeDown_116 : decode cX0_takeDown 116 = .ok (.istore 6, 2) := by decide +kernel
theorem dX0_takeDown_118 : decode cX0_takeDown 118 = .ok (.iload 6, 2) := by decide +kernel
theorem dX0_takeDown_120 : decode cX0_takeDown 120 = .ok (.iconst 4, 1) := by decide +kernel
theorem dX0_takeDown_121 : decode cX0_takeDown 121 = .ok (.if_icmp .ge 61, 3) := by decide +kernel
theorem dX0_takeDown_124 : decode cX0_takeDown 124 = .ok (.iconst 0, 1) := by decide +kernel
theorem dX0_takeDown_125 : decode cX0_takeDown 125 = .ok (.aload_n 0, 1) := by decide +kernel
theorem dX0_takeDown_126 : decode cX0_takeDown 126 = .ok (.getfield 15, 3) := by decide +kernel
theorem dX0_takeDown_129 : decode cX0_takeDown 129 = .ok (.aload_n 0, 1) := by decide +kernel
theorem dX0_takeDown_130 : decode cX0_takeDown 130 = .ok (.iload_n 3, 1) := by decide +kernel
theorem dX0_takeDown_131 : decode cX0_takeDown 131 = .ok (.iload 6, 2) := by decide +kernel
theorem dX0_takeDown_133 : decode cX0_takeDown 133 = .ok (.invokevirtual 190, 3) := by decide +kernel
theorem dX0_takeDown_136 : decode cX0_takeDown 136 = .ok (.iaload, 1) := by decide +kernel
theorem dX0_takeDown_137 : decode cX0_takeDown 137 = .ok (.ldc 196, 2) := by decide +kernel
theorem dX0_takeDown_139 : decode cX0_takeDown 139 = .ok (.isub, 1) := by decide +kernel
theorem dX0_takeDown_140 : decode cX0_takeDown 140 = .ok (.invokestatic 203, 3) := by decide +kernel
theorem dX0_takeDown_143 : decode cX0_takeDown 143 = .ok (.istore 7, 2) := by decide +kernel
theorem dX0_takeDown_145 : decode cX0_takeDown 145 = .ok (.aload_n 0, 1) := by decide +kernel
theorem dX0_takeDown_146 : decode cX0_takeDown 146 = .ok (.getfield 15, 3) := by decide +kernel
theorem dX0_takeDown_149 : decode cX0_takeDown 149 = .ok (.aload_n 0, 1) := by decide +kernel
theorem dX0_takeDown_150 : decode cX0_takeDown 150 = .ok (.iload_n 3, 1) := by decide +kernel
theorem dX0_takeDown_151 : decode cX0_takeDown 151 = .ok (.iload 6, 2) := by decide +kernel
theorem dX0_takeDown_153 : decode cX0_takeDown 153 = .ok (.invokevirtual 190, 3) := by decide +kernel
theorem dX0_takeDown_156 : decode cX0_takeDown 156 = .ok (.dup2, 1) := by decide +kernel
theorem dX0_takeDown_157 : decode cX0_takeDown 157 = .ok (.iaload, 1) := by decide +kernel
theorem dX0_takeDown_158 : decode cX0_takeDown 158 = .ok (.iload 7, 2) := by decide +kernel
theorem dX0_takeDown_160 : decode cX0_takeDown 160 = .ok (.isub, 1) := by decide +kernel
theorem dX0_takeDown_161 : decode cX0_takeDown 161 = .ok (.iastore, 1) := by decide +kernel
theorem dX0_takeDown_162 : decode cX0_takeDown 162 = .ok (.aload_n 0, 1) := by decide +kernel
theorem dX0_takeDown_163 : decode cX0_takeDown 163 = .ok (.getfield 45, 3) := by decide +kernel
theorem dX0_takeDown_166 : decode cX0_takeDown 166 = .ok (.getfield 156, 3) := by decide +kernel
theorem dX0_takeDown_169 : decode cX0_takeDown 169 = .ok (.iload_n 3, 1) := by decide +kernel
theorem dX0_takeDown_170 : decode cX0_takeDown 170 = .ok (.dup2, 1) := by decide +kernel
theorem dX0_takeDown_171 : decode cX0_takeDown 171 = .ok (.iaload, 1) := by decide +kernel
theorem dX0_takeDown_172 : decode cX0_takeDown 172 = .ok (.iload 7, 2) := by decide +kernel
theorem dX0_takeDown_174 : decode cX0_takeDown 174 = .ok (.iadd, 1) := by decide +kernel
theorem dX0_takeDown_175 : decode cX0_takeDown 175 = .ok (.iastore, 1) := by decide +kernel
theorem dX0_takeDown_176 : decode cX0_takeDown 176 = .ok (.iinc 6 1, 3) := by decide +kernel
theorem dX0_takeDown_179 : decode cX0_takeDown 179 = .ok (.goto (-61), 3) := by decide +kernel
theorem dX0_takeDown_182 : decode cX0_takeDown 182 = .ok (.aload_n 0, 1) := by decide +kernel
theorem dX0_takeDown_183 : decode cX0_takeDown 183 = .ok (.getfield 45, 3) := by decide +kernel
theorem dX0_takeDown_186 : decode cX0_takeDown 186 = .ok (.getfield 193, 3) := by decide +kernel
theorem dX0_takeDown_189 : decode cX0_takeDown 189 = .ok (.iload_n 3, 1) := by decide +kernel
theorem dX0_takeDown_190 : decode cX0_takeDown 190 = .ok (.aload_n 1, 1) := by decide +kernel
theorem dX0_takeDown_191 : decode cX0_takeDown 191 = .ok (.getfield 15, 3) := by decide +kernel
theorem dX0_takeDown_194 : decode cX0_takeDown 194 = .ok (.iload 4, 2) := by decide +kernel
theorem dX0_takeDown_196 : decode cX0_takeDown 196 = .ok (.iaload, 1) := by decide +kernel
theorem dX0_takeDown_197 : decode cX0_takeDown 197 = .ok (.iastore, 1) := by decide +kernel
theorem dX0_takeDown_198 : decode cX0_takeDown 198 = .ok (.iinc 3 1, 3) := by decide +kernel
theorem dX0_takeDown_201 : decode cX0_takeDown 201 = .ok (.goto (-189), 3) := by decide +kernel
theorem dX0_takeDown_204 : decode cX0_takeDown 204 = .ok (.aload_n 0, 1) := by decide +kernel
theorem dX0_takeDown_205 : decode cX0_takeDown 205 = .ok (.aload_n 0, 1) := by decide +kernel
theorem dX0_takeDown_206 : decode cX0_takeDown 206 = .ok (.getfield 15, 3) := by decide +kernel
theorem dX0_takeDown_209 : decode cX0_takeDown 209 = .ok (.iconst 0, 1) := by decide +kernel
theorem dX0_takeDown_210 : decode cX0_takeDown 210 = .ok (.invokevirtual 145, 3) := by decide +kernel
theorem dX0_takeDown_213 : decode cX0_takeDown 213 = .ok (.iload_n 2, 1) := by decide +kernel
theorem dX0_takeDown_214 : decode cX0_takeDown 214 = .ok (.isub, 1) := by decide +kernel
theorem dX0_takeDown_215 : decode cX0_takeDown 215 = .ok (.ireturn, 1) := by decide +kernel
set_option maxRecDepth 20000 in
theorem ggX0_unfilled_X0_fineCell : GoodIn wsX0_unfilled wsX0_fineCell := goodIn_r _ [13, 14, 15, 16, 17, 18, 19, 20, 21, 22, 23, 24, 25, 26, 27, 28, 29, 30, 31, 32, 33] (by decide +kernel) (by decide +kernel)
set_option maxRecDepth 20000 in
theorem gX0_unfilled_X0_fineCell : GoodIn wsX0_unfilled (wsV RX0 190 RX0 yX0_fineCell wsX0_fineCell) := goodIn_app (goodIn_of _ (by decide +kernel)) ggX0_unfilled_X0_fineCell
theorem dX0_unfilled_0 : decode cX0_unfilled 0 = .ok (.aload_n 0, 1) := by decide +kernel
theorem dX0_unfilled_1 : decode cX0_unfilled 1 = .ok (.getfield 15, 3) := by decide +kernel
theorem dX0_unfilled_4 : decode cX0_unfilled 4 = .ok (.aload_n 0, 1) := by decide +kernel
theorem dX0_unfilled_5 : decode cX0_unfilled 5 = .ok (.iload_n 1, 1) := by decide +kernel
theorem dX0_unfilled_6 : decode cX0_unfilled 6 = .ok (.iload_n 2, 1) := by decide +kernel
theorem dX0_unfilled_7 : decode cX0_unfilled 7 = .ok (.invokevirtual 190, 3) := by decide +kernel
theorem dX0_unfilled_10 : decode cX0_unfilled 10 = .ok (.iaload, 1) := by decide +kernel
theorem dX0_unfilled_11 : decode cX0_unfilled 11 = .ok (.ineg, 1) := by decide +kernel
theorem dX0_unfilled_12 : decode cX0_unfilled 12 = .ok (.istore_n 3, 1) := by decide +kernel
theorem dX0_unfilled_13 : decode cX0_unfilled 13 = .ok (.iload_n 3, 1) := by decide +kernel
theorem dX0_unfilled_14 : decode cX0_unfilled 14 = .ok (.ifCond .gt 5, 3) := by decide +kernel
theorem dX0_unfilled_17 : decode cX0_unfilled 17 = .ok (.iconst 0, 1) := by decide +kernel
theorem dX0_unfilled_18 : decode cX0_unfilled 18 = .ok (.ireturn, 1) := by decide +kernel
theorem dX0_unfilled_19 : decode cX0_unfilled 19 = .ok (.aload_n 0, 1) := by decide +kernel
theorem dX0_unfilled_20 : decode cX0_unfilled 20 = .ok (.getfield 15, 3) := by decide +kernel
theorem dX0_unfilled_23 : decode cX0_unfilled 23 = .ok (.aload_n 0, 1) := by decide +kernel
theorem dX0_unfilled_24 : decode cX0_unfilled 24 = .ok (.iload_n 1, 1) := by decide +kernel
theorem dX0_unfilled_25 : decode cX0_unfilled 25 = .ok (.iload_n 2, 1) := by decide +kernel
theorem dX0_unfilled_26 : decode cX0_unfilled 26 = .ok (.invokevirtual 190, 3) := by decide +kernel
theorem dX0_unfilled_29 : decode cX0_unfilled 29 = .ok (.iconst 0, 1) := by decide +kernel
theorem dX0_unfilled_30 : decode cX0_unfilled 30 = .ok (.iastore, 1) := by decide +kernel
theorem dX0_unfilled_31 : decode cX0_unfilled 31 = .ok (.iconst 1, 1) := by decide +kernel
theorem dX0_unfilled_32 : decode cX0_unfilled 32 = .ok (.istore 4, 2) := by decide +kernel
theorem dX0_unfilled_34 : decode cX0_unfilled 34 = .ok (.iload 4, 2) := by decide +kernel
theorem dX0_unfilled_36 : decode cX0_unfilled 36 = .ok (.iconst 4, 1) := by decide +kernel
theorem dX0_unfilled_37 : decode cX0_unfilled 37 = .ok (.if_icmp .ge 56, 3) := by decide +kernel
theorem dX0_unfilled_40 : decode cX0_unfilled 40 = .ok (.aload_n 0, 1) := by decide +kernel
theorem dX0_unfilled_41 : decode cX0_unfilled 41 = .ok (.iload_n 1, 1) := by decide +kernel
theorem dX0_unfilled_42 : decode cX0_unfilled 42 = .ok (.iload_n 2, 1) := by decide +kernel
theorem dX0_unfilled_43 : decode cX0_unfilled 43 = .ok (.iload 4, 2) := by decide +kernel
theorem dX0_unfilled_45 : decode cX0_unfilled 45 = .ok (.iadd, 1) := by decide +kernel
theorem dX0_unfilled_46 : decode cX0_unfilled 46 = .ok (.iconst 4, 1) := by decide +kernel
theorem dX0_unfilled_47 : decode cX0_unfilled 47 = .ok (.irem, 1) := by decide +kernel
theorem dX0_unfilled_48 : decode cX0_unfilled 48 = .ok (.invokevirtual 190, 3) := by decide +kernel
theorem dX0_unfilled_51 : decode cX0_unfilled 51 = .ok (.istore 5, 2) := by decide +kernel
theorem dX0_unfilled_53 : decode cX0_unfilled 53 = .ok (.iconst 0, 1) := by decide +kernel
theorem dX0_unfilled_54 : decode cX0_unfilled 54 = .ok (.iload_n 3, 1) := by decide +kernel
theorem dX0_unfilled_55 : decode cX0_unfilled 55 = .ok (.aload_n 0, 1) := by decide +kernel
theorem dX0_unfilled_56 : decode cX0_unfilled 56 = .ok (.getfield 15, 3) := by decide +kernel
theorem dX0_unfilled_59 : decode cX0_unfilled 59 = .ok (.iload 5, 2) := by decide +kernel
theorem dX0_unfilled_61 : decode cX0_unfilled 61 = .ok (.iaload, 1) := by decide +kernel
theorem dX0_unfilled_62 : decode cX0_unfilled 62 = .ok (.invokestatic 200, 3) := by decide +kernel
theorem dX0_unfilled_65 : decode cX0_unfilled 65 = .ok (.invokestatic 203, 3) := by decide +kernel
theorem dX0_unfilled_68 : decode cX0_unfilled 68 = .ok (.istore 6, 2) := by decide +kernel
theorem dX0_unfilled_70 : decode cX0_unfilled 70 = .ok (.aload_n 0, 1) := by decide +kernel
theorem dX0_unfilled_71 : decode cX0_unfilled 71 = .ok (.getfield 15, 3) := by decide +kernel
theorem dX0_unfilled_74 : decode cX0_unfilled 74 = .ok (.iload 5, 2) := by decide +kernel
theorem dX0_unfilled_76 : decode cX0_unfilled 76 = .ok (.dup2, 1) := by decide +kernel
theorem dX0_unfilled_77 : decode cX0_unfilled 77 = .ok (.iaload, 1) := by decide +kernel
theorem dX0_unfilled_78 : decode cX0_unfilled 78 = .ok (.iload 6, 2) := by decide +kernel
theorem dX0_unfilled_80 : decode cX0_unfilled 80 = .ok (.isub, 1) := by decide +kernel
theorem dX0_unfilled_81 : decode cX0_unfilled 81 = .ok (.iastore, 1) := by decide +kernel
theorem dX0_unfilled_82 : decode cX0_unfilled 82 = .ok (.iload_n 3, 1) := by decide +kernel
theorem dX0_unfilled_83 : decode cX0_unfilled 83 = .ok (.iload 6, 2) := by decide +kernel
theorem dX0_unfilled_85 : decode cX0_unfilled 85 = .ok (.isub, 1) := by decide +kernel
theorem dX0_unfilled_86 : decode cX0_unfilled 86 = .ok (.istore_n 3, 1) := by decide +kernel
theorem dX0_unfilled_87 : decode cX0_unfilled 87 = .ok (.iinc 4 1, 3) := by decide +kernel
theorem dX0_unfilled_90 : decode cX0_unfilled 90 = .ok (.goto (-56), 3) := by decide +kernel
theorem dX0_unfilled_93 : decode cX0_unfilled 93 = .ok (.iload_n 3, 1) := by decide +kernel
theorem dX0_unfilled_94 : decode cX0_unfilled 94 = .ok (.ireturn, 1) := by decide +kernel
set_option maxRecDepth 20000 in
theorem ggX0_digested_X0_tells : GoodIn wsX0_digested wsX0_tells := goodIn_r _ [12, 13, 14, 15, 16, 4, 17, 18, 5, 19, 20, 21, 11, 22, 23, 24, 25, 26, 27, 28, 29, 30, 35, 36, 37, 38, 39, 40, 41, 42, 43, 44, 45, 46, 47, 48, 49, 50, 51, 52, 53] (by decide +kernel) (by decide +kernel)
set_option maxRecDepth 20000 in
theorem gX0_digested_X0_tells : GoodIn wsX0_digested (wsV RX0 211 RX0 yX0_tells wsX0_tells) := goodIn_app (goodIn_of _ (by decide +kernel)) ggX0_digested_X0_tells
set_option maxRecDepth 20000 in
theorem ggX0_digested_X0_cells : GoodIn wsX0_digested wsX0_cells := goodIn_r _ [26, 14, 15, 35, 36, 37, 38, 39, 40, 41, 42, 43, 44, 45, 46, 47, 48, 49, 50, 51, 52, 53] (by decide +kernel) (by decide +kernel)
set_option maxRecDepth 20000 in
theorem gX0_digested_X0_cells : GoodIn wsX0_digested (wsV RX0 153 RX0 yX0_cells wsX0_cells) := goodIn_app (goodIn_of _ (by decide +kernel)) ggX0_digested_X0_cells
set_option maxRecDepth 20000 in
theorem ggX0_digested_X0_hasSide : GoodIn wsX0_digested wsX0_hasSide := goodIn_r _ [34, 14, 15, 35, 36, 37, 38, 39, 40, 41, 42, 43, 44, 45, 46, 47, 48, 49, 50, 51, 52, 53] (by decide +kernel) (by decide +kernel)
set_option maxRecDepth 20000 in
theorem gX0_digested_X0_hasSide : GoodIn wsX0_digested (wsV RX0 135 RX0 yX0_hasSide wsX0_hasSide) := goodIn_app (goodIn_of _ (by decide +kernel)) ggX0_digested_X0_hasSide
theorem dX0_digested_0 : decode cX0_digested 0 = .ok (.aload_n 0, 1) := by decide +kernel
theorem dX0_digested_1 : decode cX0_digested 1 = .ok (.getfield 62, 3) := by decide +kernel
theorem dX0_digested_4 : decode cX0_digested 4 = .ok (.ifCond .ne 11, 3) := by decide +kernel
theorem dX0_digested_7 : decode cX0_digested 7 = .ok (.ldc2_w 209, 3) := by decide +kernel
theorem dX0_digested_10 : decode cX0_digested 10 = .ok (.lload_n 1, 1) := by decide +kernel
theorem dX0_digested_11 : decode cX0_digested 11 = .ok (.lmul, 1) := by decide +kernel
theorem dX0_digested_12 : decode cX0_digested 12 = .ok (.lconst 1, 1) := by decide +kernel
theorem dX0_digested_13 : decode cX0_digested 13 = .ok (.lsub, 1) := by decide +kernel
theorem dX0_digested_14 : decode cX0_digested 14 = .ok (.lreturn, 1) := by decide +kernel
theorem dX0_digested_15 : decode cX0_digested 15 = .ok (.lload_n 1, 1) := by decide +kernel
theorem dX0_digested_16 : decode cX0_digested 16 = .ok (.lstore_n 3, 1) := by decide +kernel
theorem dX0_digested_17 : decode cX0_digested 17 = .ok (.iconst 0, 1) := by decide +kernel
theorem dX0_digested_18 : decode cX0_digested 18 = .ok (.istore 5, 2) := by decide +kernel
theorem dX0_digested_20 : decode cX0_digested 20 = .ok (.iload 5, 2) := by decide +kernel
theorem dX0_digested_22 : decode cX0_digested 22 = .ok (.bipush 10, 2) := by decide +kernel
theorem dX0_digested_24 : decode cX0_digested 24 = .ok (.if_icmp .gt 23, 3) := by decide +kernel
theorem dX0_digested_27 : decode cX0_digested 27 = .ok (.ldc2_w 209, 3) := by decide +kernel
theorem dX0_digested_30 : decode cX0_digested 30 = .ok (.lload_n 3, 1) := by decide +kernel
theorem dX0_digested_31 : decode cX0_digested 31 = .ok (.lmul, 1) := by decide +kernel
theorem dX0_digested_32 : decode cX0_digested 32 = .ok (.aload_n 0, 1) := by decide +kernel
theorem dX0_digested_33 : decode cX0_digested 33 = .ok (.iload 5, 2) := by decide +kernel
theorem dX0_digested_35 : decode cX0_digested 35 = .ok (.invokevirtual 211, 3) := by decide +kernel
theorem dX0_digested_38 : decode cX0_digested 38 = .ok (.i2l, 1) := by decide +kernel
theorem dX0_digested_39 : decode cX0_digested 39 = .ok (.ladd, 1) := by decide +kernel
theorem dX0_digested_40 : decode cX0_digested 40 = .ok (.lstore_n 3, 1) := by decide +kernel
theorem dX0_digested_41 : decode cX0_digested 41 = .ok (.iinc 5 1, 3) := by decide +kernel
theorem dX0_digested_44 : decode cX0_digested 44 = .ok (.goto (-24), 3) := by decide +kernel
theorem dX0_digested_47 : decode cX0_digested 47 = .ok (.iconst 0, 1) := by decide +kernel
theorem dX0_digested_48 : decode cX0_digested 48 = .ok (.istore 5, 2) := by decide +kernel
theorem dX0_digested_50 : decode cX0_digested 50 = .ok (.iload 5, 2) := by decide +kernel
theorem dX0_digested_52 : decode cX0_digested 52 = .ok (.aload_n 0, 1) := by decide +kernel
theorem dX0_digested_53 : decode cX0_digested 53 = .ok (.invokevirtual 153, 3) := by decide +kernel
theorem dX0_digested_56 : decode cX0_digested 56 = .ok (.if_icmp .ge 75, 3) := by decide +kernel
theorem dX0_digested_59 : decode cX0_digested 59 = .ok (.ldc2_w 209, 3) := by decide +kernel
theorem dX0_digested_62 : decode cX0_digested 62 = .ok (.lload_n 3, 1) := by decide +kernel
theorem dX0_digested_63 : decode cX0_digested 63 = .ok (.lmul, 1) := by decide +kernel
theorem dX0_digested_64 : decode cX0_digested 64 = .ok (.aload_n 0, 1) := by decide +kernel
theorem dX0_digested_65 : decode cX0_digested 65 = .ok (.getfield 9, 3) := by decide +kernel
theorem dX0_digested_68 : decode cX0_digested 68 = .ok (.iload 5, 2) := by decide +kernel
theorem dX0_digested_70 : decode cX0_digested 70 = .ok (.iaload, 1) := by decide +kernel
theorem dX0_digested_71 : decode cX0_digested 71 = .ok (.i2l, 1) := by decide +kernel
theorem dX0_digested_72 : decode cX0_digested 72 = .ok (.ladd, 1) := by decide +kernel
theorem dX0_digested_73 : decode cX0_digested 73 = .ok (.lstore_n 3, 1) := by decide +kernel
theorem dX0_digested_74 : decode cX0_digested 74 = .ok (.ldc2_w 209, 3) := by decide +kernel
theorem dX0_digested_77 : decode cX0_digested 77 = .ok (.lload_n 3, 1) := by decide +kernel
theorem dX0_digested_78 : decode cX0_digested 78 = .ok (.lmul, 1) := by decide +kernel
theorem dX0_digested_79 : decode cX0_digested 79 = .ok (.aload_n 0, 1) := by decide +kernel
theorem dX0_digested_80 : decode cX0_digested 80 = .ok (.getfield 15, 3) := by decide +kernel
theorem dX0_digested_83 : decode cX0_digested 83 = .ok (.iload 5, 2) := by decide +kernel
theorem dX0_digested_85 : decode cX0_digested 85 = .ok (.iaload, 1) := by decide +kernel
theorem dX0_digested_86 : decode cX0_digested 86 = .ok (.i2l, 1) := by decide +kernel
theorem dX0_digested_87 : decode cX0_digested 87 = .ok (.ladd, 1) := by decide +kernel
theorem dX0_digested_88 : decode cX0_digested 88 = .ok (.lstore_n 3, 1) := by decide +kernel
theorem dX0_digested_89 : decode cX0_digested 89 = .ok (.iconst 0, 1) := by decide +kernel
theorem dX0_digested_90 : decode cX0_digested 90 = .ok (.istore 6, 2) := by decide +kernel
theorem dX0_digested_92 : decode cX0_digested 92 = .ok (.iload 6, 2) := by decide +kernel
theorem dX0_digested_94 : decode cX0_digested 94 = .ok (.iconst 3, 1) := by decide +kernel
theorem dX0_digested_95 : decode cX0_digested 95 = .ok (.if_icmp .ge 30, 3) := by decide +kernel
theorem dX0_digested_98 : decode cX0_digested 98 = .ok (.ldc2_w 209, 3) := by decide +kernel
theorem dX0_digested_101 : decode cX0_digested 101 = .ok (.lload_n 3, 1) := by decide +kernel
theorem dX0_digested_102 : decode cX0_digested 102 = .ok (.lmul, 1) := by decide +kernel
theorem dX0_digested_103 : decode cX0_digested 103 = .ok (.aload_n 0, 1) := by decide +kernel
theorem dX0_digested_104 : decode cX0_digested 104 = .ok (.getfield 18, 3) := by decide +kernel
theorem dX0_digested_107 : decode cX0_digested 107 = .ok (.iload 6, 2) := by decide +kernel
theorem dX0_digested_109 : decode cX0_digested 109 = .ok (.bipush 48, 2) := by decide +kernel
theorem dX0_digested_111 : decode cX0_digested 111 = .ok (.imul, 1) := by decide +kernel
theorem dX0_digested_112 : decode cX0_digested 112 = .ok (.iload 5, 2) := by decide +kernel
theorem dX0_digested_114 : decode cX0_digested 114 = .ok (.iadd, 1) := by decide +kernel
theorem dX0_digested_115 : decode cX0_digested 115 = .ok (.iaload, 1) := by decide +kernel
theorem dX0_digested_116 : decode cX0_digested 116 = .ok (.i2l, 1) := by decide +kernel
theorem dX0_digested_117 : decode cX0_digested 117 = .ok (.ladd, 1) := by decide +kernel
theorem dX0_digested_118 : decode cX0_digested 118 = .ok (.lstore_n 3, 1) := by decide +kernel
theorem dX0_digested_119 : decode cX0_digested 119 = .ok (.iinc 6 1, 3) := by decide +kernel
theorem dX0_digested_122 : decode cX0_digested 122 = .ok (.goto (-30), 3) := by decide +kernel
theorem dX0_digested_125 : decode cX0_digested 125 = .ok (.iinc 5 1, 3) := by decide +kernel
theorem dX0_digested_128 : decode cX0_digested 128 = .ok (.goto (-78), 3) := by decide +kernel
theorem dX0_digested_131 : decode cX0_digested 131 = .ok (.iconst 0, 1) := by decide +kernel
theorem dX0_digested_132 : decode cX0_digested 132 = .ok (.istore 5, 2) := by decide +kernel
theorem dX0_digested_134 : decode cX0_digested 134 = .ok (.iload 5, 2) := by decide +kernel
theorem dX0_digested_136 : decode cX0_digested 136 = .ok (.iconst 2, 1) := by decide +kernel
theorem dX0_digested_137 : decode cX0_digested 137 = .ok (.aload_n 0, 1) := by decide +kernel
theorem dX0_digested_138 : decode cX0_digested 138 = .ok (.invokevirtual 153, 3) := by decide +kernel
theorem dX0_digested_141 : decode cX0_digested 141 = .ok (.imul, 1) := by decide +kernel
theorem dX0_digested_142 : decode cX0_digested 142 = .ok (.if_icmp .ge 59, 3) := by decide +kernel
theorem dX0_digested_145 : decode cX0_digested 145 = .ok (.aload_n 0, 1) := by decide +kernel
theorem dX0_digested_146 : decode cX0_digested 146 = .ok (.iload 5, 2) := by decide +kernel
theorem dX0_digested_148 : decode cX0_digested 148 = .ok (.invokevirtual 135, 3) := by decide +kernel
theorem dX0_digested_151 : decode cX0_digested 151 = .ok (.ifCond .ne 6, 3) := by decide +kernel
theorem dX0_digested_154 : decode cX0_digested 154 = .ok (.goto 41, 3) := by decide +kernel
theorem dX0_digested_157 : decode cX0_digested 157 = .ok (.ldc2_w 209, 3) := by decide +kernel
theorem dX0_digested_160 : decode cX0_digested 160 = .ok (.lload_n 3, 1) := by decide +kernel
theorem dX0_digested_161 : decode cX0_digested 161 = .ok (.lmul, 1) := by decide +kernel
theorem dX0_digested_162 : decode cX0_digested 162 = .ok (.aload_n 0, 1) := by decide +kernel
theorem dX0_digested_163 : decode cX0_digested 163 = .ok (.getfield 21, 3) := by decide +kernel
theorem dX0_digested_166 : decode cX0_digested 166 = .ok (.iload 5, 2) := by decide +kernel
theorem dX0_digested_168 : decode cX0_digested 168 = .ok (.iaload, 1) := by decide +kernel
theorem dX0_digested_169 : decode cX0_digested 169 = .ok (.i2l, 1) := by decide +kernel
theorem dX0_digested_170 : decode cX0_digested 170 = .ok (.ladd, 1) := by decide +kernel
theorem dX0_digested_171 : decode cX0_digested 171 = .ok (.lstore_n 3, 1) := by decide +kernel
theorem dX0_digested_172 : decode cX0_digested 172 = .ok (.ldc2_w 209, 3) := by decide +kernel
theorem dX0_digested_175 : decode cX0_digested 175 = .ok (.lload_n 3, 1) := by decide +kernel
theorem dX0_digested_176 : decode cX0_digested 176 = .ok (.lmul, 1) := by decide +kernel
theorem dX0_digested_177 : decode cX0_digested 177 = .ok (.aload_n 0, 1) := by decide +kernel
theorem dX0_digested_178 : decode cX0_digested 178 = .ok (.getfield 24, 3) := by decide +kernel
theorem dX0_digested_181 : decode cX0_digested 181 = .ok (.iload 5, 2) := by decide +kernel
theorem dX0_digested_183 : decode cX0_digested 183 = .ok (.baload, 1) := by decide +kernel
theorem dX0_digested_184 : decode cX0_digested 184 = .ok (.ifCond .eq 7, 3) := by decide +kernel
theorem dX0_digested_187 : decode cX0_digested 187 = .ok (.iconst 1, 1) := by decide +kernel
theorem dX0_digested_188 : decode cX0_digested 188 = .ok (.goto 4, 3) := by decide +kernel
theorem dX0_digested_191 : decode cX0_digested 191 = .ok (.iconst 0, 1) := by decide +kernel
theorem dX0_digested_192 : decode cX0_digested 192 = .ok (.i2l, 1) := by decide +kernel
theorem dX0_digested_193 : decode cX0_digested 193 = .ok (.ladd, 1) := by decide +kernel
theorem dX0_digested_194 : decode cX0_digested 194 = .ok (.lstore_n 3, 1) := by decide +kernel
theorem dX0_digested_195 : decode cX0_digested 195 = .ok (.iinc 5 1, 3) := by decide +kernel
theorem dX0_digested_198 : decode cX0_digested 198 = .ok (.goto (-64), 3) := by decide +kernel
theorem dX0_digested_201 : decode cX0_digested 201 = .ok (.lload_n 3, 1) := by decide +kernel
theorem dX0_digested_202 : decode cX0_digested 202 = .ok (.lreturn, 1) := by decide +kernel
theorem dX1_init_0 : decode cX1_init 0 = .ok (.aload_n 0, 1) := by decide +kernel
theorem dX1_init_1 : decode cX1_init 1 = .ok (.invokespecial 3, 3) := by decide +kernel
theorem dX1_init_4 : decode cX1_init 4 = .ok (.aload_n 0, 1) := by decide +kernel
theorem dX1_init_5 : decode cX1_init 5 = .ok (.bipush (-9), 2) := by decide +kernel
theorem dX1_init_7 : decode cX1_init 7 = .ok (.putfield 9, 3) := by decide +kernel
theorem dX1_init_10 : decode cX1_init 10 = .ok (.return_, 1) := by decide +kernel
set_option maxRecDepth 20000 in
theorem ggX1_drift_X0_hasSide : GoodIn wsX1_drift wsX0_hasSide := goodIn_r _ [7, 8, 9, 10, 11, 12, 13, 14, 15, 16, 17, 18, 19, 20, 21, 22, 23, 24, 25, 26, 27, 28] (by decide +kernel) (by decide +kernel)
set_option maxRecDepth 20000 in
theorem gX1_drift_X0_hasSide : GoodIn wsX1_drift (wsV RX1 27 RX0 yX0_hasSide wsX0_hasSide) := goodIn_app (goodIn_of _ (by decide +kernel)) ggX1_drift_X0_hasSide
theorem dX1_drift_0 : decode cX1_drift 0 = .ok (.aload_n 1, 1) := by decide +kernel
theorem dX1_drift_1 : decode cX1_drift 1 = .ok (.getfield 15, 3) := by decide +kernel
theorem dX1_drift_4 : decode cX1_drift 4 = .ok (.astore_n 2, 1) := by decide +kernel
theorem dX1_drift_5 : decode cX1_drift 5 = .ok (.aload_n 0, 1) := by decide +kernel
theorem dX1_drift_6 : decode cX1_drift 6 = .ok (.getfield 21, 3) := by decide +kernel
theorem dX1_drift_9 : decode cX1_drift 9 = .ok (.istore_n 3, 1) := by decide +kernel
theorem dX1_drift_10 : decode cX1_drift 10 = .ok (.aload_n 0, 1) := by decide +kernel
theorem dX1_drift_11 : decode cX1_drift 11 = .ok (.getfield 24, 3) := by decide +kernel
theorem dX1_drift_14 : decode cX1_drift 14 = .ok (.iconst 1, 1) := by decide +kernel
theorem dX1_drift_15 : decode cX1_drift 15 = .ok (.isub, 1) := by decide +kernel
theorem dX1_drift_16 : decode cX1_drift 16 = .ok (.istore 4, 2) := by decide +kernel
theorem dX1_drift_18 : decode cX1_drift 18 = .ok (.aload_n 1, 1) := by decide +kernel
theorem dX1_drift_19 : decode cX1_drift 19 = .ok (.iconst 2, 1) := by decide +kernel
theorem dX1_drift_20 : decode cX1_drift 20 = .ok (.iload_n 3, 1) := by decide +kernel
theorem dX1_drift_21 : decode cX1_drift 21 = .ok (.imul, 1) := by decide +kernel
theorem dX1_drift_22 : decode cX1_drift 22 = .ok (.invokevirtual 27, 3) := by decide +kernel
theorem dX1_drift_25 : decode cX1_drift 25 = .ok (.ifCond .eq 27, 3) := by decide +kernel
theorem dX1_drift_28 : decode cX1_drift 28 = .ok (.aload_n 2, 1) := by decide +kernel
theorem dX1_drift_29 : decode cX1_drift 29 = .ok (.iconst 2, 1) := by decide +kernel
theorem dX1_drift_30 : decode cX1_drift 30 = .ok (.iload_n 3, 1) := by decide +kernel
theorem dX1_drift_31 : decode cX1_drift 31 = .ok (.imul, 1) := by decide +kernel
theorem dX1_drift_32 : decode cX1_drift 32 = .ok (.iaload, 1) := by decide +kernel
theorem dX1_drift_33 : decode cX1_drift 33 = .ok (.iload 4, 2) := by decide +kernel
theorem dX1_drift_35 : decode cX1_drift 35 = .ok (.if_icmp .le 17, 3) := by decide +kernel
theorem dX1_drift_38 : decode cX1_drift 38 = .ok (.aload_n 2, 1) := by decide +kernel
theorem dX1_drift_39 : decode cX1_drift 39 = .ok (.iconst 2, 1) := by decide +kernel
theorem dX1_drift_40 : decode cX1_drift 40 = .ok (.iload_n 3, 1) := by decide +kernel
theorem dX1_drift_41 : decode cX1_drift 41 = .ok (.imul, 1) := by decide +kernel
theorem dX1_drift_42 : decode cX1_drift 42 = .ok (.iaload, 1) := by decide +kernel
theorem dX1_drift_43 : decode cX1_drift 43 = .ok (.istore 4, 2) := by decide +kernel
theorem dX1_drift_45 : decode cX1_drift 45 = .ok (.aload_n 0, 1) := by decide +kernel
theorem dX1_drift_46 : decode cX1_drift 46 = .ok (.iload_n 3, 1) := by decide +kernel
theorem dX1_drift_47 : decode cX1_drift 47 = .ok (.iconst 1, 1) := by decide +kernel
theorem dX1_drift_48 : decode cX1_drift 48 = .ok (.iadd, 1) := by decide +kernel
theorem dX1_drift_49 : decode cX1_drift 49 = .ok (.putfield 21, 3) := by decide +kernel
theorem dX1_drift_52 : decode cX1_drift 52 = .ok (.aload_n 1, 1) := by decide +kernel
theorem dX1_drift_53 : decode cX1_drift 53 = .ok (.iconst 2, 1) := by decide +kernel
theorem dX1_drift_54 : decode cX1_drift 54 = .ok (.iload_n 3, 1) := by decide +kernel
theorem dX1_drift_55 : decode cX1_drift 55 = .ok (.imul, 1) := by decide +kernel
theorem dX1_drift_56 : decode cX1_drift 56 = .ok (.iconst 1, 1) := by decide +kernel
theorem dX1_drift_57 : decode cX1_drift 57 = .ok (.iadd, 1) := by decide +kernel
theorem dX1_drift_58 : decode cX1_drift 58 = .ok (.invokevirtual 27, 3) := by decide +kernel
theorem dX1_drift_61 : decode cX1_drift 61 = .ok (.ifCond .eq 34, 3) := by decide +kernel
theorem dX1_drift_64 : decode cX1_drift 64 = .ok (.aload_n 2, 1) := by decide +kernel
theorem dX1_drift_65 : decode cX1_drift 65 = .ok (.iconst 2, 1) := by decide +kernel
theorem dX1_drift_66 : decode cX1_drift 66 = .ok (.iload_n 3, 1) := by decide +kernel
theorem dX1_drift_67 : decode cX1_drift 67 = .ok (.imul, 1) := by decide +kernel
theorem dX1_drift_68 : decode cX1_drift 68 = .ok (.iconst 1, 1) := by decide +kernel
theorem dX1_drift_69 : decode cX1_drift 69 = .ok (.iadd, 1) := by decide +kernel
theorem dX1_drift_70 : decode cX1_drift 70 = .ok (.iaload, 1) := by decide +kernel
theorem dX1_drift_71 : decode cX1_drift 71 = .ok (.iload 4, 2) := by decide +kernel
theorem dX1_drift_73 : decode cX1_drift 73 = .ok (.if_icmp .le 22, 3) := by decide +kernel
theorem dX1_drift_76 : decode cX1_drift 76 = .ok (.aload_n 2, 1) := by decide +kernel
theorem dX1_drift_77 : decode cX1_drift 77 = .ok (.iconst 2, 1) := by decide +kernel
theorem dX1_drift_78 : decode cX1_drift 78 = .ok (.iload_n 3, 1) := by decide +kernel
theorem dX1_drift_79 : decode cX1_drift 79 = .ok (.imul, 1) := by decide +kernel
theorem dX1_drift_80 : decode cX1_drift 80 = .ok (.iconst 1, 1) := by decide +kernel
theorem dX1_drift_81 : decode cX1_drift 81 = .ok (.iadd, 1) := by decide +kernel
theorem dX1_drift_82 : decode cX1_drift 82 = .ok (.iaload, 1) := by decide +kernel
theorem dX1_drift_83 : decode cX1_drift 83 = .ok (.istore 4, 2) := by decide +kernel
theorem dX1_drift_85 : decode cX1_drift 85 = .ok (.aload_n 0, 1) := by decide +kernel
theorem dX1_drift_86 : decode cX1_drift 86 = .ok (.iload_n 3, 1) := by decide +kernel
theorem dX1_drift_87 : decode cX1_drift 87 = .ok (.aload_n 1, 1) := by decide +kernel
theorem dX1_drift_88 : decode cX1_drift 88 = .ok (.getfield 31, 3) := by decide +kernel
theorem dX1_drift_91 : decode cX1_drift 91 = .ok (.iadd, 1) := by decide +kernel
theorem dX1_drift_92 : decode cX1_drift 92 = .ok (.putfield 21, 3) := by decide +kernel
theorem dX1_drift_95 : decode cX1_drift 95 = .ok (.iconst 2, 1) := by decide +kernel
theorem dX1_drift_96 : decode cX1_drift 96 = .ok (.iload_n 3, 1) := by decide +kernel
theorem dX1_drift_97 : decode cX1_drift 97 = .ok (.iconst 1, 1) := by decide +kernel
theorem dX1_drift_98 : decode cX1_drift 98 = .ok (.isub, 1) := by decide +kernel
theorem dX1_drift_99 : decode cX1_drift 99 = .ok (.imul, 1) := by decide +kernel
theorem dX1_drift_100 : decode cX1_drift 100 = .ok (.istore 5, 2) := by decide +kernel
theorem dX1_drift_102 : decode cX1_drift 102 = .ok (.aload_n 1, 1) := by decide +kernel
theorem dX1_drift_103 : decode cX1_drift 103 = .ok (.iload 5, 2) := by decide +kernel
theorem dX1_drift_105 : decode cX1_drift 105 = .ok (.invokevirtual 27, 3) := by decide +kernel
theorem dX1_drift_108 : decode cX1_drift 108 = .ok (.ifCond .eq 27, 3) := by decide +kernel
theorem dX1_drift_111 : decode cX1_drift 111 = .ok (.aload_n 2, 1) := by decide +kernel
theorem dX1_drift_112 : decode cX1_drift 112 = .ok (.iload 5, 2) := by decide +kernel
theorem dX1_drift_114 : decode cX1_drift 114 = .ok (.iaload, 1) := by decide +kernel
theorem dX1_drift_115 : decode cX1_drift 115 = .ok (.ineg, 1) := by decide +kernel
theorem dX1_drift_116 : decode cX1_drift 116 = .ok (.iload 4, 2) := by decide +kernel
theorem dX1_drift_118 : decode cX1_drift 118 = .ok (.if_icmp .le 17, 3) := by decide +kernel
theorem dX1_drift_121 : decode cX1_drift 121 = .ok (.aload_n 2, 1) := by decide +kernel
theorem dX1_drift_122 : decode cX1_drift 122 = .ok (.iload 5, 2) := by decide +kernel
theorem dX1_drift_124 : decode cX1_drift 124 = .ok (.iaload, 1) := by decide +kernel
theorem dX1_drift_125 : decode cX1_drift 125 = .ok (.ineg, 1) := by decide +kernel
theorem dX1_drift_126 : decode cX1_drift 126 = .ok (.istore 4, 2) := by decide +kernel
theorem dX1_drift_128 : decode cX1_drift 128 = .ok (.aload_n 0, 1) := by decide +kernel
theorem dX1_drift_129 : decode cX1_drift 129 = .ok (.iload_n 3, 1) := by decide +kernel
theorem dX1_drift_130 : decode cX1_drift 130 = .ok (.iconst 1, 1) := by decide +kernel
theorem dX1_drift_131 : decode cX1_drift 131 = .ok (.isub, 1) := by decide +kernel
theorem dX1_drift_132 : decode cX1_drift 132 = .ok (.putfield 21, 3) := by decide +kernel
theorem dX1_drift_135 : decode cX1_drift 135 = .ok (.iconst 2, 1) := by decide +kernel
theorem dX1_drift_136 : decode cX1_drift 136 = .ok (.iload_n 3, 1) := by decide +kernel
theorem dX1_drift_137 : decode cX1_drift 137 = .ok (.aload_n 1, 1) := by decide +kernel
theorem dX1_drift_138 : decode cX1_drift 138 = .ok (.getfield 31, 3) := by decide +kernel
theorem dX1_drift_141 : decode cX1_drift 141 = .ok (.isub, 1) := by decide +kernel
theorem dX1_drift_142 : decode cX1_drift 142 = .ok (.imul, 1) := by decide +kernel
theorem dX1_drift_143 : decode cX1_drift 143 = .ok (.iconst 1, 1) := by decide +kernel
theorem dX1_drift_144 : decode cX1_drift 144 = .ok (.iadd, 1) := by decide +kernel
theorem dX1_drift_145 : decode cX1_drift 145 = .ok (.istore 6, 2) := by decide +kernel
theorem dX1_drift_147 : decode cX1_drift 147 = .ok (.aload_n 1, 1) := by decide +kernel
theorem dX1_drift_148 : decode cX1_drift 148 = .ok (.iload 6, 2) := by decide +kernel
theorem dX1_drift_150 : decode cX1_drift 150 = .ok (.invokevirtual 27, 3) := by decide +kernel
theorem dX1_drift_153 : decode cX1_drift 153 = .ok (.ifCond .eq 23, 3) := by decide +kernel
theorem dX1_drift_156 : decode cX1_drift 156 = .ok (.aload_n 2, 1) := by decide +kernel
theorem dX1_drift_157 : decode cX1_drift 157 = .ok (.iload 6, 2) := by decide +kernel
theorem dX1_drift_159 : decode cX1_drift 159 = .ok (.iaload, 1) := by decide +kernel
theorem dX1_drift_160 : decode cX1_drift 160 = .ok (.ineg, 1) := by decide +kernel
theorem dX1_drift_161 : decode cX1_drift 161 = .ok (.iload 4, 2) := by decide +kernel
theorem dX1_drift_163 : decode cX1_drift 163 = .ok (.if_icmp .le 13, 3) := by decide +kernel
theorem dX1_drift_166 : decode cX1_drift 166 = .ok (.aload_n 0, 1) := by decide +kernel
theorem dX1_drift_167 : decode cX1_drift 167 = .ok (.iload_n 3, 1) := by decide +kernel
theorem dX1_drift_168 : decode cX1_drift 168 = .ok (.aload_n 1, 1) := by decide +kernel
theorem dX1_drift_169 : decode cX1_drift 169 = .ok (.getfield 31, 3) := by decide +kernel
theorem dX1_drift_172 : decode cX1_drift 172 = .ok (.isub, 1) := by decide +kernel
theorem dX1_drift_173 : decode cX1_drift 173 = .ok (.putfield 21, 3) := by decide +kernel
theorem dX1_drift_176 : decode cX1_drift 176 = .ok (.return_, 1) := by decide +kernel
theorem dX1_digested_0 : decode cX1_digested 0 = .ok (.aload_n 0, 1) := by decide +kernel
theorem dX1_digested_1 : decode cX1_digested 1 = .ok (.getfield 9, 3) := by decide +kernel
theorem dX1_digested_4 : decode cX1_digested 4 = .ok (.bipush (-9), 2) := by decide +kernel
theorem dX1_digested_6 : decode cX1_digested 6 = .ok (.if_icmp .ne 11, 3) := by decide +kernel
theorem dX1_digested_9 : decode cX1_digested 9 = .ok (.ldc2_w 34, 3) := by decide +kernel
theorem dX1_digested_12 : decode cX1_digested 12 = .ok (.lload_n 1, 1) := by decide +kernel
theorem dX1_digested_13 : decode cX1_digested 13 = .ok (.lmul, 1) := by decide +kernel
theorem dX1_digested_14 : decode cX1_digested 14 = .ok (.lconst 1, 1) := by decide +kernel
theorem dX1_digested_15 : decode cX1_digested 15 = .ok (.lsub, 1) := by decide +kernel
theorem dX1_digested_16 : decode cX1_digested 16 = .ok (.lreturn, 1) := by decide +kernel
theorem dX1_digested_17 : decode cX1_digested 17 = .ok (.ldc2_w 34, 3) := by decide +kernel
theorem dX1_digested_20 : decode cX1_digested 20 = .ok (.ldc2_w 34, 3) := by decide +kernel
theorem dX1_digested_23 : decode cX1_digested 23 = .ok (.ldc2_w 34, 3) := by decide +kernel
theorem dX1_digested_26 : decode cX1_digested 26 = .ok (.lload_n 1, 1) := by decide +kernel
theorem dX1_digested_27 : decode cX1_digested 27 = .ok (.lmul, 1) := by decide +kernel
theorem dX1_digested_28 : decode cX1_digested 28 = .ok (.aload_n 0, 1) := by decide +kernel
theorem dX1_digested_29 : decode cX1_digested 29 = .ok (.getfield 9, 3) := by decide +kernel
theorem dX1_digested_32 : decode cX1_digested 32 = .ok (.i2l, 1) := by decide +kernel
theorem dX1_digested_33 : decode cX1_digested 33 = .ok (.ladd, 1) := by decide +kernel
theorem dX1_digested_34 : decode cX1_digested 34 = .ok (.lmul, 1) := by decide +kernel
theorem dX1_digested_35 : decode cX1_digested 35 = .ok (.aload_n 0, 1) := by decide +kernel
theorem dX1_digested_36 : decode cX1_digested 36 = .ok (.getfield 21, 3) := by decide +kernel
theorem dX1_digested_39 : decode cX1_digested 39 = .ok (.i2l, 1) := by decide +kernel
theorem dX1_digested_40 : decode cX1_digested 40 = .ok (.ladd, 1) := by decide +kernel
theorem dX1_digested_41 : decode cX1_digested 41 = .ok (.lmul, 1) := by decide +kernel
theorem dX1_digested_42 : decode cX1_digested 42 = .ok (.aload_n 0, 1) := by decide +kernel
theorem dX1_digested_43 : decode cX1_digested 43 = .ok (.getfield 24, 3) := by decide +kernel
theorem dX1_digested_46 : decode cX1_digested 46 = .ok (.i2l, 1) := by decide +kernel
theorem dX1_digested_47 : decode cX1_digested 47 = .ok (.ladd, 1) := by decide +kernel
theorem dX1_digested_48 : decode cX1_digested 48 = .ok (.lreturn, 1) := by decide +kernel
theorem dX2_init_0 : decode cX2_init 0 = .ok (.aload_n 0, 1) := by decide +kernel
theorem dX2_init_1 : decode cX2_init 1 = .ok (.invokespecial 3, 3) := by decide +kernel
theorem dX2_init_4 : decode cX2_init 4 = .ok (.aload_n 0, 1) := by decide +kernel
theorem dX2_init_5 : decode cX2_init 5 = .ok (.bipush 48, 2) := by decide +kernel
theorem dX2_init_7 : decode cX2_init 7 = .ok (.newarray .int, 2) := by decide +kernel
theorem dX2_init_9 : decode cX2_init 9 = .ok (.putfield 9, 3) := by decide +kernel
theorem dX2_init_12 : decode cX2_init 12 = .ok (.aload_n 0, 1) := by decide +kernel
theorem dX2_init_13 : decode cX2_init 13 = .ok (.bipush 48, 2) := by decide +kernel
theorem dX2_init_15 : decode cX2_init 15 = .ok (.newarray .boolean, 2) := by decide +kernel
theorem dX2_init_17 : decode cX2_init 17 = .ok (.putfield 15, 3) := by decide +kernel
theorem dX2_init_20 : decode cX2_init 20 = .ok (.aload_n 0, 1) := by decide +kernel
theorem dX2_init_21 : decode cX2_init 21 = .ok (.bipush (-9), 2) := by decide +kernel
theorem dX2_init_23 : decode cX2_init 23 = .ok (.putfield 19, 3) := by decide +kernel
theorem dX2_init_26 : decode cX2_init 26 = .ok (.return_, 1) := by decide +kernel
theorem dX2_place_0 : decode cX2_place 0 = .ok (.aload_n 0, 1) := by decide +kernel
theorem dX2_place_1 : decode cX2_place 1 = .ok (.iload_n 1, 1) := by decide +kernel
theorem dX2_place_2 : decode cX2_place 2 = .ok (.putfield 19, 3) := by decide +kernel
theorem dX2_place_5 : decode cX2_place 5 = .ok (.aload_n 0, 1) := by decide +kernel
theorem dX2_place_6 : decode cX2_place 6 = .ok (.iload_n 2, 1) := by decide +kernel
theorem dX2_place_7 : decode cX2_place 7 = .ok (.putfield 23, 3) := by decide +kernel
theorem dX2_place_10 : decode cX2_place 10 = .ok (.aload_n 0, 1) := by decide +kernel
theorem dX2_place_11 : decode cX2_place 11 = .ok (.iconst 0, 1) := by decide +kernel
theorem dX2_place_12 : decode cX2_place 12 = .ok (.putfield 26, 3) := by decide +kernel
theorem dX2_place_15 : decode cX2_place 15 = .ok (.aload_n 0, 1) := by decide +kernel
theorem dX2_place_16 : decode cX2_place 16 = .ok (.iconst 0, 1) := by decide +kernel
theorem dX2_place_17 : decode cX2_place 17 = .ok (.putfield 29, 3) := by decide +kernel
theorem dX2_place_20 : decode cX2_place 20 = .ok (.return_, 1) := by decide +kernel
set_option maxRecDepth 20000 in
theorem ggX2_read_X2_fromOldest : GoodIn wsX2_read wsX2_fromOldest := goodIn_r _ [9, 4, 10, 11, 12, 13, 14, 15] (by decide +kernel) (by decide +kernel)
set_option maxRecDepth 20000 in
theorem gX2_read_X2_fromOldest : GoodIn wsX2_read (wsV RX2 32 RX2 yX2_fromOldest wsX2_fromOldest) := goodIn_app (goodIn_of _ (by decide +kernel)) ggX2_read_X2_fromOldest
theorem dX2_read_0 : decode cX2_read 0 = .ok (.aload_n 0, 1) := by decide +kernel
theorem dX2_read_1 : decode cX2_read 1 = .ok (.aload_n 0, 1) := by decide +kernel
theorem dX2_read_2 : decode cX2_read 2 = .ok (.getfield 29, 3) := by decide +kernel
theorem dX2_read_5 : decode cX2_read 5 = .ok (.invokevirtual 32, 3) := by decide +kernel
theorem dX2_read_8 : decode cX2_read 8 = .ok (.istore_n 2, 1) := by decide +kernel
theorem dX2_read_9 : decode cX2_read 9 = .ok (.aload_n 0, 1) := by decide +kernel
theorem dX2_read_10 : decode cX2_read 10 = .ok (.getfield 9, 3) := by decide +kernel
theorem dX2_read_13 : decode cX2_read 13 = .ok (.iload_n 2, 1) := by decide +kernel
theorem dX2_read_14 : decode cX2_read 14 = .ok (.iload_n 1, 1) := by decide +kernel
theorem dX2_read_15 : decode cX2_read 15 = .ok (.iastore, 1) := by decide +kernel
theorem dX2_read_16 : decode cX2_read 16 = .ok (.aload_n 0, 1) := by decide +kernel
theorem dX2_read_17 : decode cX2_read 17 = .ok (.getfield 15, 3) := by decide +kernel
theorem dX2_read_20 : decode cX2_read 20 = .ok (.iload_n 2, 1) := by decide +kernel
theorem dX2_read_21 : decode cX2_read 21 = .ok (.iconst 0, 1) := by decide +kernel
theorem dX2_read_22 : decode cX2_read 22 = .ok (.bastore, 1) := by decide +kernel
theorem dX2_read_23 : decode cX2_read 23 = .ok (.aload_n 0, 1) := by decide +kernel
theorem dX2_read_24 : decode cX2_read 24 = .ok (.getfield 29, 3) := by decide +kernel
theorem dX2_read_27 : decode cX2_read 27 = .ok (.bipush 48, 2) := by decide +kernel
theorem dX2_read_29 : decode cX2_read 29 = .ok (.if_icmp .ge 16, 3) := by decide +kernel
theorem dX2_read_32 : decode cX2_read 32 = .ok (.aload_n 0, 1) := by decide +kernel
theorem dX2_read_33 : decode cX2_read 33 = .ok (.dup, 1) := by decide +kernel
theorem dX2_read_34 : decode cX2_read 34 = .ok (.getfield 29, 3) := by decide +kernel
theorem dX2_read_37 : decode cX2_read 37 = .ok (.iconst 1, 1) := by decide +kernel
theorem dX2_read_38 : decode cX2_read 38 = .ok (.iadd, 1) := by decide +kernel
theorem dX2_read_39 : decode cX2_read 39 = .ok (.putfield 29, 3) := by decide +kernel
theorem dX2_read_42 : decode cX2_read 42 = .ok (.goto 12, 3) := by decide +kernel
theorem dX2_read_45 : decode cX2_read 45 = .ok (.aload_n 0, 1) := by decide +kernel
theorem dX2_read_46 : decode cX2_read 46 = .ok (.aload_n 0, 1) := by decide +kernel
theorem dX2_read_47 : decode cX2_read 47 = .ok (.iconst 1, 1) := by decide +kernel
theorem dX2_read_48 : decode cX2_read 48 = .ok (.invokevirtual 32, 3) := by decide +kernel
theorem dX2_read_51 : decode cX2_read 51 = .ok (.putfield 26, 3) := by decide +kernel
theorem dX2_read_54 : decode cX2_read 54 = .ok (.return_, 1) := by decide +kernel
theorem dX2_fromOldest_0 : decode cX2_fromOldest 0 = .ok (.aload_n 0, 1) := by decide +kernel
theorem dX2_fromOldest_1 : decode cX2_fromOldest 1 = .ok (.getfield 26, 3) := by decide +kernel
theorem dX2_fromOldest_4 : decode cX2_fromOldest 4 = .ok (.iload_n 1, 1) := by decide +kernel
theorem dX2_fromOldest_5 : decode cX2_fromOldest 5 = .ok (.iadd, 1) := by decide +kernel
theorem dX2_fromOldest_6 : decode cX2_fromOldest 6 = .ok (.bipush 48, 2) := by decide +kernel
theorem dX2_fromOldest_8 : decode cX2_fromOldest 8 = .ok (.irem, 1) := by decide +kernel
theorem dX2_fromOldest_9 : decode cX2_fromOldest 9 = .ok (.ireturn, 1) := by decide +kernel
set_option maxRecDepth 20000 in
theorem ggX2_placeOf_X2_fromOldest : GoodIn wsX2_placeOf wsX2_fromOldest := goodIn_r _ [8, 9, 10, 11, 12, 13, 14, 15] (by decide +kernel) (by decide +kernel)
set_option maxRecDepth 20000 in
theorem gX2_placeOf_X2_fromOldest : GoodIn wsX2_placeOf (wsV RX2 32 RX2 yX2_fromOldest wsX2_fromOldest) := goodIn_app (goodIn_of _ (by decide +kernel)) ggX2_placeOf_X2_fromOldest
theorem dX2_placeOf_0 : decode cX2_placeOf 0 = .ok (.aload_n 0, 1) := by decide +kernel
theorem dX2_placeOf_1 : decode cX2_placeOf 1 = .ok (.getfield 19, 3) := by decide +kernel
theorem dX2_placeOf_4 : decode cX2_placeOf 4 = .ok (.bipush (-9), 2) := by decide +kernel
theorem dX2_placeOf_6 : decode cX2_placeOf 6 = .ok (.if_icmp .eq 15, 3) := by decide +kernel
theorem dX2_placeOf_9 : decode cX2_placeOf 9 = .ok (.iload_n 1, 1) := by decide +kernel
theorem dX2_placeOf_10 : decode cX2_placeOf 10 = .ok (.ifCond .lt 11, 3) := by decide +kernel
theorem dX2_placeOf_13 : decode cX2_placeOf 13 = .ok (.iload_n 1, 1) := by decide +kernel
theorem dX2_placeOf_14 : decode cX2_placeOf 14 = .ok (.aload_n 0, 1) := by decide +kernel
theorem dX2_placeOf_15 : decode cX2_placeOf 15 = .ok (.getfield 29, 3) := by decide +kernel
theorem dX2_placeOf_18 : decode cX2_placeOf 18 = .ok (.if_icmp .lt 5, 3) := by decide +kernel
theorem dX2_placeOf_21 : decode cX2_placeOf 21 = .ok (.iconst (-1), 1) := by decide +kernel
theorem dX2_placeOf_22 : decode cX2_placeOf 22 = .ok (.ireturn, 1) := by decide +kernel
theorem dX2_placeOf_23 : decode cX2_placeOf 23 = .ok (.aload_n 0, 1) := by decide +kernel
theorem dX2_placeOf_24 : decode cX2_placeOf 24 = .ok (.aload_n 0, 1) := by decide +kernel
theorem dX2_placeOf_25 : decode cX2_placeOf 25 = .ok (.getfield 29, 3) := by decide +kernel
theorem dX2_placeOf_28 : decode cX2_placeOf 28 = .ok (.iconst 1, 1) := by decide +kernel
theorem dX2_placeOf_29 : decode cX2_placeOf 29 = .ok (.isub, 1) := by decide +kernel
theorem dX2_placeOf_30 : decode cX2_placeOf 30 = .ok (.iload_n 1, 1) := by decide +kernel
theorem dX2_placeOf_31 : decode cX2_placeOf 31 = .ok (.isub, 1) := by decide +kernel
theorem dX2_placeOf_32 : decode cX2_placeOf 32 = .ok (.invokevirtual 32, 3) := by decide +kernel
theorem dX2_placeOf_35 : decode cX2_placeOf 35 = .ok (.istore_n 2, 1) := by decide +kernel
theorem dX2_placeOf_36 : decode cX2_placeOf 36 = .ok (.aload_n 0, 1) := by decide +kernel
theorem dX2_placeOf_37 : decode cX2_placeOf 37 = .ok (.getfield 15, 3) := by decide +kernel
theorem dX2_placeOf_40 : decode cX2_placeOf 40 = .ok (.iload_n 2, 1) := by decide +kernel
theorem dX2_placeOf_41 : decode cX2_placeOf 41 = .ok (.baload, 1) := by decide +kernel
theorem dX2_placeOf_42 : decode cX2_placeOf 42 = .ok (.ifCond .eq 7, 3) := by decide +kernel
theorem dX2_placeOf_45 : decode cX2_placeOf 45 = .ok (.iconst (-1), 1) := by decide +kernel
theorem dX2_placeOf_46 : decode cX2_placeOf 46 = .ok (.goto 4, 3) := by decide +kernel
theorem dX2_placeOf_49 : decode cX2_placeOf 49 = .ok (.iload_n 2, 1) := by decide +kernel
theorem dX2_placeOf_50 : decode cX2_placeOf 50 = .ok (.ireturn, 1) := by decide +kernel
set_option maxRecDepth 20000 in
theorem ggX2_kept_X2_fromOldest : GoodIn wsX2_kept wsX2_fromOldest := goodIn_r _ [7, 8, 9, 10, 11, 12, 13, 14] (by decide +kernel) (by decide +kernel)
set_option maxRecDepth 20000 in
theorem gX2_kept_X2_fromOldest : GoodIn wsX2_kept (wsV RX2 32 RX2 yX2_fromOldest wsX2_fromOldest) := goodIn_app (goodIn_of _ (by decide +kernel)) ggX2_kept_X2_fromOldest
theorem dX2_kept_0 : decode cX2_kept 0 = .ok (.iconst 0, 1) := by decide +kernel
theorem dX2_kept_1 : decode cX2_kept 1 = .ok (.istore_n 1, 1) := by decide +kernel
theorem dX2_kept_2 : decode cX2_kept 2 = .ok (.iconst 0, 1) := by decide +kernel
theorem dX2_kept_3 : decode cX2_kept 3 = .ok (.istore_n 2, 1) := by decide +kernel
theorem dX2_kept_4 : decode cX2_kept 4 = .ok (.iload_n 2, 1) := by decide +kernel
theorem dX2_kept_5 : decode cX2_kept 5 = .ok (.aload_n 0, 1) := by decide +kernel
theorem dX2_kept_6 : decode cX2_kept 6 = .ok (.getfield 29, 3) := by decide +kernel
theorem dX2_kept_9 : decode cX2_kept 9 = .ok (.if_icmp .ge 30, 3) := by decide +kernel
theorem dX2_kept_12 : decode cX2_kept 12 = .ok (.iload_n 1, 1) := by decide +kernel
theorem dX2_kept_13 : decode cX2_kept 13 = .ok (.aload_n 0, 1) := by decide +kernel
theorem dX2_kept_14 : decode cX2_kept 14 = .ok (.getfield 15, 3) := by decide +kernel
theorem dX2_kept_17 : decode cX2_kept 17 = .ok (.aload_n 0, 1) := by decide +kernel
theorem dX2_kept_18 : decode cX2_kept 18 = .ok (.iload_n 2, 1) := by decide +kernel
theorem dX2_kept_19 : decode cX2_kept 19 = .ok (.invokevirtual 32, 3) := by decide +kernel
theorem dX2_kept_22 : decode cX2_kept 22 = .ok (.baload, 1) := by decide +kernel
theorem dX2_kept_23 : decode cX2_kept 23 = .ok (.ifCond .eq 7, 3) := by decide +kernel
theorem dX2_kept_26 : decode cX2_kept 26 = .ok (.iconst 0, 1) := by decide +kernel
theorem dX2_kept_27 : decode cX2_kept 27 = .ok (.goto 4, 3) := by decide +kernel
theorem dX2_kept_30 : decode cX2_kept 30 = .ok (.iconst 1, 1) := by decide +kernel
theorem dX2_kept_31 : decode cX2_kept 31 = .ok (.iadd, 1) := by decide +kernel
theorem dX2_kept_32 : decode cX2_kept 32 = .ok (.istore_n 1, 1) := by decide +kernel
theorem dX2_kept_33 : decode cX2_kept 33 = .ok (.iinc 2 1, 3) := by decide +kernel
theorem dX2_kept_36 : decode cX2_kept 36 = .ok (.goto (-32), 3) := by decide +kernel
theorem dX2_kept_39 : decode cX2_kept 39 = .ok (.iload_n 1, 1) := by decide +kernel
theorem dX2_kept_40 : decode cX2_kept 40 = .ok (.ireturn, 1) := by decide +kernel
set_option maxRecDepth 20000 in
theorem ggX2_digested_X2_fromOldest : GoodIn wsX2_digested wsX2_fromOldest := goodIn_r _ [11, 12, 13, 14, 15, 16, 17, 18] (by decide +kernel) (by decide +kernel)
set_option maxRecDepth 20000 in
theorem gX2_digested_X2_fromOldest : GoodIn wsX2_digested (wsV RX2 32 RX2 yX2_fromOldest wsX2_fromOldest) := goodIn_app (goodIn_of _ (by decide +kernel)) ggX2_digested_X2_fromOldest
theorem dX2_digested_0 : decode cX2_digested 0 = .ok (.aload_n 0, 1) := by decide +kernel
theorem dX2_digested_1 : decode cX2_digested 1 = .ok (.getfield 19, 3) := by decide +kernel
theorem dX2_digested_4 : decode cX2_digested 4 = .ok (.bipush (-9), 2) := by decide +kernel
theorem dX2_digested_6 : decode cX2_digested 6 = .ok (.if_icmp .ne 11, 3) := by decide +kernel
theorem dX2_digested_9 : decode cX2_digested 9 = .ok (.ldc2_w 36, 3) := by decide +kernel
theorem dX2_digested_12 : decode cX2_digested 12 = .ok (.lload_n 1, 1) := by decide +kernel
theorem dX2_digested_13 : decode cX2_digested 13 = .ok (.lmul, 1) := by decide +kernel
theorem dX2_digested_14 : decode cX2_digested 14 = .ok (.lconst 1, 1) := by decide +kernel
theorem dX2_digested_15 : decode cX2_digested 15 = .ok (.lsub, 1) := by decide +kernel
theorem dX2_digested_16 : decode cX2_digested 16 = .ok (.lreturn, 1) := by decide +kernel
theorem dX2_digested_17 : decode cX2_digested 17 = .ok (.ldc2_w 36, 3) := by decide +kernel
theorem dX2_digested_20 : decode cX2_digested 20 = .ok (.ldc2_w 36, 3) := by decide +kernel
theorem dX2_digested_23 : decode cX2_digested 23 = .ok (.ldc2_w 36, 3) := by decide +kernel
theorem dX2_digested_26 : decode cX2_digested 26 = .ok (.lload_n 1, 1) := by decide +kernel
theorem dX2_digested_27 : decode cX2_digested 27 = .ok (.lmul, 1) := by decide +kernel
theorem dX2_digested_28 : decode cX2_digested 28 = .ok (.aload_n 0, 1) := by decide +kernel
theorem dX2_digested_29 : decode cX2_digested 29 = .ok (.getfield 19, 3) := by decide +kernel
theorem dX2_digested_32 : decode cX2_digested 32 = .ok (.i2l, 1) := by decide +kernel
theorem dX2_digested_33 : decode cX2_digested 33 = .ok (.ladd, 1) := by decide +kernel
theorem dX2_digested_34 : decode cX2_digested 34 = .ok (.lmul, 1) := by decide +kernel
theorem dX2_digested_35 : decode cX2_digested 35 = .ok (.aload_n 0, 1) := by decide +kernel
theorem dX2_digested_36 : decode cX2_digested 36 = .ok (.getfield 23, 3) := by decide +kernel
theorem dX2_digested_39 : decode cX2_digested 39 = .ok (.i2l, 1) := by decide +kernel
theorem dX2_digested_40 : decode cX2_digested 40 = .ok (.ladd, 1) := by decide +kernel
theorem dX2_digested_41 : decode cX2_digested 41 = .ok (.lmul, 1) := by decide +kernel
theorem dX2_digested_42 : decode cX2_digested 42 = .ok (.aload_n 0, 1) := by decide +kernel
theorem dX2_digested_43 : decode cX2_digested 43 = .ok (.getfield 29, 3) := by decide +kernel
theorem dX2_digested_46 : decode cX2_digested 46 = .ok (.i2l, 1) := by decide +kernel
theorem dX2_digested_47 : decode cX2_digested 47 = .ok (.ladd, 1) := by decide +kernel
theorem dX2_digested_48 : decode cX2_digested 48 = .ok (.lstore_n 3, 1) := by decide +kernel
theorem dX2_digested_49 : decode cX2_digested 49 = .ok (.iconst 0, 1) := by decide +kernel
theorem dX2_digested_50 : decode cX2_digested 50 = .ok (.istore 5, 2) := by decide +kernel
theorem dX2_digested_52 : decode cX2_digested 52 = .ok (.iload 5, 2) := by decide +kernel
theorem dX2_digested_54 : decode cX2_digested 54 = .ok (.aload_n 0, 1) := by decide +kernel
theorem dX2_digested_55 : decode cX2_digested 55 = .ok (.getfield 29, 3) := by decide +kernel
theorem dX2_digested_58 : decode cX2_digested 58 = .ok (.if_icmp .ge 47, 3) := by decide +kernel
theorem dX2_digested_61 : decode cX2_digested 61 = .ok (.aload_n 0, 1) := by decide +kernel
theorem dX2_digested_62 : decode cX2_digested 62 = .ok (.iload 5, 2) := by decide +kernel
theorem dX2_digested_64 : decode cX2_digested 64 = .ok (.invokevirtual 32, 3) := by decide +kernel
theorem dX2_digested_67 : decode cX2_digested 67 = .ok (.istore 6, 2) := by decide +kernel
theorem dX2_digested_69 : decode cX2_digested 69 = .ok (.ldc2_w 36, 3) := by decide +kernel
theorem dX2_digested_72 : decode cX2_digested 72 = .ok (.lload_n 3, 1) := by decide +kernel
theorem dX2_digested_73 : decode cX2_digested 73 = .ok (.lmul, 1) := by decide +kernel
theorem dX2_digested_74 : decode cX2_digested 74 = .ok (.aload_n 0, 1) := by decide +kernel
theorem dX2_digested_75 : decode cX2_digested 75 = .ok (.getfield 15, 3) := by decide +kernel
theorem dX2_digested_78 : decode cX2_digested 78 = .ok (.iload 6, 2) := by decide +kernel
theorem dX2_digested_80 : decode cX2_digested 80 = .ok (.baload, 1) := by decide +kernel
theorem dX2_digested_81 : decode cX2_digested 81 = .ok (.ifCond .eq 8, 3) := by decide +kernel
theorem dX2_digested_84 : decode cX2_digested 84 = .ok (.bipush (-9), 2) := by decide +kernel
theorem dX2_digested_86 : decode cX2_digested 86 = .ok (.goto 10, 3) := by decide +kernel
theorem dX2_digested_89 : decode cX2_digested 89 = .ok (.aload_n 0, 1) := by decide +kernel
theorem dX2_digested_90 : decode cX2_digested 90 = .ok (.getfield 9, 3) := by decide +kernel
theorem dX2_digested_93 : decode cX2_digested 93 = .ok (.iload 6, 2) := by decide +kernel
theorem dX2_digested_95 : decode cX2_digested 95 = .ok (.iaload, 1) := by decide +kernel
theorem dX2_digested_96 : decode cX2_digested 96 = .ok (.i2l, 1) := by decide +kernel
theorem dX2_digested_97 : decode cX2_digested 97 = .ok (.ladd, 1) := by decide +kernel
theorem dX2_digested_98 : decode cX2_digested 98 = .ok (.lstore_n 3, 1) := by decide +kernel
theorem dX2_digested_99 : decode cX2_digested 99 = .ok (.iinc 5 1, 3) := by decide +kernel
theorem dX2_digested_102 : decode cX2_digested 102 = .ok (.goto (-50), 3) := by decide +kernel
theorem dX2_digested_105 : decode cX2_digested 105 = .ok (.lload_n 3, 1) := by decide +kernel
theorem dX2_digested_106 : decode cX2_digested 106 = .ok (.lreturn, 1) := by decide +kernel
theorem dX3_init_0 : decode cX3_init 0 = .ok (.aload_n 0, 1) := by decide +kernel
theorem dX3_init_1 : decode cX3_init 1 = .ok (.invokespecial 1, 3) := by decide +kernel
theorem dX3_init_4 : decode cX3_init 4 = .ok (.aload_n 0, 1) := by decide +kernel
theorem dX3_init_5 : decode cX3_init 5 = .ok (.iconst 4, 1) := by decide +kernel
theorem dX3_init_6 : decode cX3_init 6 = .ok (.putfield 7, 3) := by decide +kernel
theorem dX3_init_9 : decode cX3_init 9 = .ok (.aload_n 0, 1) := by decide +kernel
theorem dX3_init_10 : decode cX3_init 10 = .ok (.bipush 10, 2) := by decide +kernel
theorem dX3_init_12 : decode cX3_init 12 = .ok (.putfield 13, 3) := by decide +kernel
theorem dX3_init_15 : decode cX3_init 15 = .ok (.return_, 1) := by decide +kernel
theorem dX3_reset_0 : decode cX3_reset 0 = .ok (.aload_n 0, 1) := by decide +kernel
theorem dX3_reset_1 : decode cX3_reset 1 = .ok (.iconst 4, 1) := by decide +kernel
theorem dX3_reset_2 : decode cX3_reset 2 = .ok (.putfield 7, 3) := by decide +kernel
theorem dX3_reset_5 : decode cX3_reset 5 = .ok (.aload_n 0, 1) := by decide +kernel
theorem dX3_reset_6 : decode cX3_reset 6 = .ok (.bipush 10, 2) := by decide +kernel
theorem dX3_reset_8 : decode cX3_reset 8 = .ok (.putfield 13, 3) := by decide +kernel
theorem dX3_reset_11 : decode cX3_reset 11 = .ok (.aload_n 0, 1) := by decide +kernel
theorem dX3_reset_12 : decode cX3_reset 12 = .ok (.iconst 0, 1) := by decide +kernel
theorem dX3_reset_13 : decode cX3_reset 13 = .ok (.putfield 16, 3) := by decide +kernel
theorem dX3_reset_16 : decode cX3_reset 16 = .ok (.aload_n 0, 1) := by decide +kernel
theorem dX3_reset_17 : decode cX3_reset 17 = .ok (.iconst 0, 1) := by decide +kernel
theorem dX3_reset_18 : decode cX3_reset 18 = .ok (.putfield 19, 3) := by decide +kernel
theorem dX3_reset_21 : decode cX3_reset 21 = .ok (.return_, 1) := by decide +kernel
theorem dX3_takeOver_0 : decode cX3_takeOver 0 = .ok (.aload_n 0, 1) := by decide +kernel
theorem dX3_takeOver_1 : decode cX3_takeOver 1 = .ok (.aload_n 1, 1) := by decide +kernel
theorem dX3_takeOver_2 : decode cX3_takeOver 2 = .ok (.getfield 7, 3) := by decide +kernel
theorem dX3_takeOver_5 : decode cX3_takeOver 5 = .ok (.putfield 7, 3) := by decide +kernel
theorem dX3_takeOver_8 : decode cX3_takeOver 8 = .ok (.aload_n 0, 1) := by decide +kernel
theorem dX3_takeOver_9 : decode cX3_takeOver 9 = .ok (.aload_n 1, 1) := by decide +kernel
theorem dX3_takeOver_10 : decode cX3_takeOver 10 = .ok (.getfield 13, 3) := by decide +kernel
theorem dX3_takeOver_13 : decode cX3_takeOver 13 = .ok (.putfield 13, 3) := by decide +kernel
theorem dX3_takeOver_16 : decode cX3_takeOver 16 = .ok (.aload_n 0, 1) := by decide +kernel
theorem dX3_takeOver_17 : decode cX3_takeOver 17 = .ok (.aload_n 1, 1) := by decide +kernel
theorem dX3_takeOver_18 : decode cX3_takeOver 18 = .ok (.getfield 16, 3) := by decide +kernel
theorem dX3_takeOver_21 : decode cX3_takeOver 21 = .ok (.putfield 16, 3) := by decide +kernel
theorem dX3_takeOver_24 : decode cX3_takeOver 24 = .ok (.aload_n 0, 1) := by decide +kernel
theorem dX3_takeOver_25 : decode cX3_takeOver 25 = .ok (.aload_n 1, 1) := by decide +kernel
theorem dX3_takeOver_26 : decode cX3_takeOver 26 = .ok (.getfield 19, 3) := by decide +kernel
theorem dX3_takeOver_29 : decode cX3_takeOver 29 = .ok (.putfield 19, 3) := by decide +kernel
theorem dX3_takeOver_32 : decode cX3_takeOver 32 = .ok (.return_, 1) := by decide +kernel
theorem dX4_init_0 : decode cX4_init 0 = .ok (.aload_n 0, 1) := by decide +kernel
theorem dX4_init_1 : decode cX4_init 1 = .ok (.invokespecial 3, 3) := by decide +kernel
theorem dX4_init_4 : decode cX4_init 4 = .ok (.aload_n 0, 1) := by decide +kernel
theorem dX4_init_5 : decode cX4_init 5 = .ok (.bipush 12, 2) := by decide +kernel
theorem dX4_init_7 : decode cX4_init 7 = .ok (.newarray .int, 2) := by decide +kernel
theorem dX4_init_9 : decode cX4_init 9 = .ok (.putfield 9, 3) := by decide +kernel
theorem dX4_init_12 : decode cX4_init 12 = .ok (.aload_n 0, 1) := by decide +kernel
theorem dX4_init_13 : decode cX4_init 13 = .ok (.bipush 12, 2) := by decide +kernel
theorem dX4_init_15 : decode cX4_init 15 = .ok (.newarray .int, 2) := by decide +kernel
theorem dX4_init_17 : decode cX4_init 17 = .ok (.putfield 15, 3) := by decide +kernel
theorem dX4_init_20 : decode cX4_init 20 = .ok (.aload_n 0, 1) := by decide +kernel
theorem dX4_init_21 : decode cX4_init 21 = .ok (.bipush (-9), 2) := by decide +kernel
theorem dX4_init_23 : decode cX4_init 23 = .ok (.putfield 18, 3) := by decide +kernel
theorem dX4_init_26 : decode cX4_init 26 = .ok (.return_, 1) := by decide +kernel
theorem dX5_init_0 : decode cX5_init 0 = .ok (.aload_n 0, 1) := by decide +kernel
theorem dX5_init_1 : decode cX5_init 1 = .ok (.invokespecial 3, 3) := by decide +kernel
theorem dX5_init_4 : decode cX5_init 4 = .ok (.aload_n 0, 1) := by decide +kernel
theorem dX5_init_5 : decode cX5_init 5 = .ok (.iconst 4, 1) := by decide +kernel
theorem dX5_init_6 : decode cX5_init 6 = .ok (.newarray .int, 2) := by decide +kernel
theorem dX5_init_8 : decode cX5_init 8 = .ok (.putfield 9, 3) := by decide +kernel
theorem dX5_init_11 : decode cX5_init 11 = .ok (.aload_n 0, 1) := by decide +kernel
theorem dX5_init_12 : decode cX5_init 12 = .ok (.iconst 4, 1) := by decide +kernel
theorem dX5_init_13 : decode cX5_init 13 = .ok (.newarray .int, 2) := by decide +kernel
theorem dX5_init_15 : decode cX5_init 15 = .ok (.putfield 15, 3) := by decide +kernel
theorem dX5_init_18 : decode cX5_init 18 = .ok (.return_, 1) := by decide +kernel
theorem dX5_takeOver_0 : decode cX5_takeOver 0 = .ok (.aload_n 0, 1) := by decide +kernel
theorem dX5_takeOver_1 : decode cX5_takeOver 1 = .ok (.aload_n 1, 1) := by decide +kernel
theorem dX5_takeOver_2 : decode cX5_takeOver 2 = .ok (.getfield 18, 3) := by decide +kernel
theorem dX5_takeOver_5 : decode cX5_takeOver 5 = .ok (.putfield 18, 3) := by decide +kernel
theorem dX5_takeOver_8 : decode cX5_takeOver 8 = .ok (.iconst 0, 1) := by decide +kernel
theorem dX5_takeOver_9 : decode cX5_takeOver 9 = .ok (.istore_n 2, 1) := by decide +kernel
theorem dX5_takeOver_10 : decode cX5_takeOver 10 = .ok (.iload_n 2, 1) := by decide +kernel
theorem dX5_takeOver_11 : decode cX5_takeOver 11 = .ok (.iconst 4, 1) := by decide +kernel
theorem dX5_takeOver_12 : decode cX5_takeOver 12 = .ok (.if_icmp .ge 33, 3) := by decide +kernel
theorem dX5_takeOver_15 : decode cX5_takeOver 15 = .ok (.aload_n 0, 1) := by decide +kernel
theorem dX5_takeOver_16 : decode cX5_takeOver 16 = .ok (.getfield 9, 3) := by decide +kernel
theorem dX5_takeOver_19 : decode cX5_takeOver 19 = .ok (.iload_n 2, 1) := by decide +kernel
theorem dX5_takeOver_20 : decode cX5_takeOver 20 = .ok (.aload_n 1, 1) := by decide +kernel
theorem dX5_takeOver_21 : decode cX5_takeOver 21 = .ok (.getfield 9, 3) := by decide +kernel
theorem dX5_takeOver_24 : decode cX5_takeOver 24 = .ok (.iload_n 2, 1) := by decide +kernel
theorem dX5_takeOver_25 : decode cX5_takeOver 25 = .ok (.iaload, 1) := by decide +kernel
theorem dX5_takeOver_26 : decode cX5_takeOver 26 = .ok (.iastore, 1) := by decide +kernel
theorem dX5_takeOver_27 : decode cX5_takeOver 27 = .ok (.aload_n 0, 1) := by decide +kernel
theorem dX5_takeOver_28 : decode cX5_takeOver 28 = .ok (.getfield 15, 3) := by decide +kernel
theorem dX5_takeOver_31 : decode cX5_takeOver 31 = .ok (.iload_n 2, 1) := by decide +kernel
theorem dX5_takeOver_32 : decode cX5_takeOver 32 = .ok (.aload_n 1, 1) := by decide +kernel
theorem dX5_takeOver_33 : decode cX5_takeOver 33 = .ok (.getfield 15, 3) := by decide +kernel
theorem dX5_takeOver_36 : decode cX5_takeOver 36 = .ok (.iload_n 2, 1) := by decide +kernel
theorem dX5_takeOver_37 : decode cX5_takeOver 37 = .ok (.iaload, 1) := by decide +kernel
theorem dX5_takeOver_38 : decode cX5_takeOver 38 = .ok (.iastore, 1) := by decide +kernel
theorem dX5_takeOver_39 : decode cX5_takeOver 39 = .ok (.iinc 2 1, 3) := by decide +kernel
theorem dX5_takeOver_42 : decode cX5_takeOver 42 = .ok (.goto (-32), 3) := by decide +kernel
theorem dX5_takeOver_45 : decode cX5_takeOver 45 = .ok (.return_, 1) := by decide +kernel
theorem dX5_bringHundredths_0 : decode cX5_bringHundredths 0 = .ok (.iconst 0, 1) := by decide +kernel
theorem dX5_bringHundredths_1 : decode cX5_bringHundredths 1 = .ok (.istore_n 2, 1) := by decide +kernel
theorem dX5_bringHundredths_2 : decode cX5_bringHundredths 2 = .ok (.iload_n 2, 1) := by decide +kernel
theorem dX5_bringHundredths_3 : decode cX5_bringHundredths 3 = .ok (.aload_n 0, 1) := by decide +kernel
theorem dX5_bringHundredths_4 : decode cX5_bringHundredths 4 = .ok (.getfield 18, 3) := by decide +kernel
theorem dX5_bringHundredths_7 : decode cX5_bringHundredths 7 = .ok (.if_icmp .ge 32, 3) := by decide +kernel
theorem dX5_bringHundredths_10 : decode cX5_bringHundredths 10 = .ok (.aload_n 0, 1) := by decide +kernel
theorem dX5_bringHundredths_11 : decode cX5_bringHundredths 11 = .ok (.getfield 15, 3) := by decide +kernel
theorem dX5_bringHundredths_14 : decode cX5_bringHundredths 14 = .ok (.iload_n 2, 1) := by decide +kernel
theorem dX5_bringHundredths_15 : decode cX5_bringHundredths 15 = .ok (.sipush 1000, 3) := by decide +kernel
theorem dX5_bringHundredths_18 : decode cX5_bringHundredths 18 = .ok (.aload_n 0, 1) := by decide +kernel
theorem dX5_bringHundredths_19 : decode cX5_bringHundredths 19 = .ok (.getfield 15, 3) := by decide +kernel
theorem dX5_bringHundredths_22 : decode cX5_bringHundredths 22 = .ok (.iload_n 2, 1) := by decide +kernel
theorem dX5_bringHundredths_23 : decode cX5_bringHundredths 23 = .ok (.iaload, 1) := by decide +kernel
theorem dX5_bringHundredths_24 : decode cX5_bringHundredths 24 = .ok (.iload_n 1, 1) := by decide +kernel
theorem dX5_bringHundredths_25 : decode cX5_bringHundredths 25 = .ok (.imul, 1) := by decide +kernel
theorem dX5_bringHundredths_26 : decode cX5_bringHundredths 26 = .ok (.bipush 100, 2) := by decide +kernel
theorem dX5_bringHundredths_28 : decode cX5_bringHundredths 28 = .ok (.idiv, 1) := by decide +kernel
theorem dX5_bringHundredths_29 : decode cX5_bringHundredths 29 = .ok (.invokestatic 22, 3) := by decide +kernel
theorem dX5_bringHundredths_32 : decode cX5_bringHundredths 32 = .ok (.iastore, 1) := by decide +kernel
theorem dX5_bringHundredths_33 : decode cX5_bringHundredths 33 = .ok (.iinc 2 1, 3) := by decide +kernel
theorem dX5_bringHundredths_36 : decode cX5_bringHundredths 36 = .ok (.goto (-34), 3) := by decide +kernel
theorem dX5_bringHundredths_39 : decode cX5_bringHundredths 39 = .ok (.return_, 1) := by decide +kernel
theorem dX6_init_0 : decode cX6_init 0 = .ok (.aload_n 0, 1) := by decide +kernel
theorem dX6_init_1 : decode cX6_init 1 = .ok (.invokespecial 3, 3) := by decide +kernel
theorem dX6_init_4 : decode cX6_init 4 = .ok (.aload_n 0, 1) := by decide +kernel
theorem dX6_init_5 : decode cX6_init 5 = .ok (.iconst 0, 1) := by decide +kernel
theorem dX6_init_6 : decode cX6_init 6 = .ok (.newarray .int, 2) := by decide +kernel
theorem dX6_init_8 : decode cX6_init 8 = .ok (.putfield 9, 3) := by decide +kernel
theorem dX6_init_11 : decode cX6_init 11 = .ok (.aload_n 0, 1) := by decide +kernel
theorem dX6_init_12 : decode cX6_init 12 = .ok (.bipush (-9), 2) := by decide +kernel
theorem dX6_init_14 : decode cX6_init 14 = .ok (.putfield 15, 3) := by decide +kernel
theorem dX6_init_17 : decode cX6_init 17 = .ok (.return_, 1) := by decide +kernel
theorem dX6_open_0 : decode cX6_open 0 = .ok (.aload_n 0, 1) := by decide +kernel
theorem dX6_open_1 : decode cX6_open 1 = .ok (.aload_n 1, 1) := by decide +kernel
theorem dX6_open_2 : decode cX6_open 2 = .ok (.putfield 9, 3) := by decide +kernel
theorem dX6_open_5 : decode cX6_open 5 = .ok (.aload_n 0, 1) := by decide +kernel
theorem dX6_open_6 : decode cX6_open 6 = .ok (.iload_n 2, 1) := by decide +kernel
theorem dX6_open_7 : decode cX6_open 7 = .ok (.putfield 19, 3) := by decide +kernel
theorem dX6_open_10 : decode cX6_open 10 = .ok (.aload_n 0, 1) := by decide +kernel
theorem dX6_open_11 : decode cX6_open 11 = .ok (.iconst 0, 1) := by decide +kernel
theorem dX6_open_12 : decode cX6_open 12 = .ok (.putfield 22, 3) := by decide +kernel
theorem dX6_open_15 : decode cX6_open 15 = .ok (.aload_n 0, 1) := by decide +kernel
theorem dX6_open_16 : decode cX6_open 16 = .ok (.iconst 0, 1) := by decide +kernel
theorem dX6_open_17 : decode cX6_open 17 = .ok (.putfield 25, 3) := by decide +kernel
theorem dX6_open_20 : decode cX6_open 20 = .ok (.aload_n 0, 1) := by decide +kernel
theorem dX6_open_21 : decode cX6_open 21 = .ok (.bipush (-9), 2) := by decide +kernel
theorem dX6_open_23 : decode cX6_open 23 = .ok (.putfield 15, 3) := by decide +kernel
theorem dX6_open_26 : decode cX6_open 26 = .ok (.return_, 1) := by decide +kernel
set_option maxRecDepth 20000 in
theorem ggX6_next_X6_greatest : GoodIn wsX6_next wsX6_greatest := goodIn_r _ [12, 5, 29, 30, 31, 32, 33, 34, 35] (by decide +kernel) (by decide +kernel)
set_option maxRecDepth 20000 in
theorem gX6_next_X6_greatest : GoodIn wsX6_next (wsV RX6 31 RX6 yX6_greatest wsX6_greatest) := goodIn_app (goodIn_of _ (by decide +kernel)) ggX6_next_X6_greatest
set_option maxRecDepth 20000 in
theorem ggX6_next_X6_failed : GoodIn wsX6_next wsX6_failed := goodIn_r _ [16, 4, 29, 30, 31, 32, 33, 34, 35] (by decide +kernel) (by decide +kernel)
set_option maxRecDepth 20000 in
theorem gX6_next_X6_failed : GoodIn wsX6_next (wsV RX6 35 RX6 yX6_failed wsX6_failed) := goodIn_app (goodIn_of _ (by decide +kernel)) ggX6_next_X6_failed
set_option maxRecDepth 20000 in
theorem ggX6_next_X6_digitAhead : GoodIn wsX6_next wsX6_digitAhead := goodIn_r _ [20, 1, 2, 3, 29, 30, 31, 32, 33, 34, 35] (by decide +kernel) (by decide +kernel)
set_option maxRecDepth 20000 in
theorem gX6_next_X6_digitAhead : GoodIn wsX6_next (wsV RX6 39 RX6 yX6_digitAhead wsX6_digitAhead) := goodIn_app (goodIn_of _ (by decide +kernel)) ggX6_next_X6_digitAhead
set_option maxRecDepth 20000 in
theorem ggX6_next_X6_least : GoodIn wsX6_next wsX6_least := goodIn_r _ [24, 5, 29, 30, 31, 32, 33, 34, 35] (by decide +kernel) (by decide +kernel)
set_option maxRecDepth 20000 in
theorem gX6_next_X6_least : GoodIn wsX6_next (wsV RX6 46 RX6 yX6_least wsX6_least) := goodIn_app (goodIn_of _ (by decide +kernel)) ggX6_next_X6_least
set_option maxRecDepth 20000 in
theorem ggX6_next_X6_stepsOfItem : GoodIn wsX6_next wsX6_stepsOfItem := goodIn_r _ [28, 5, 6, 29, 30, 31, 32, 33, 34, 35] (by decide +kernel) (by decide +kernel)
set_option maxRecDepth 20000 in
theorem gX6_next_X6_stepsOfItem : GoodIn wsX6_next (wsV RX6 49 RX6 yX6_stepsOfItem wsX6_stepsOfItem) := goodIn_app (goodIn_of _ (by decide +kernel)) ggX6_next_X6_stepsOfItem
theorem dX6_next_0 : decode cX6_next 0 = .ok (.aload_n 0, 1) := by decide +kernel
theorem dX6_next_1 : decode cX6_next 1 = .ok (.getfield 22, 3) := by decide +kernel
theorem dX6_next_4 : decode cX6_next 4 = .ok (.aload_n 0, 1) := by decide +kernel
theorem dX6_next_5 : decode cX6_next 5 = .ok (.getfield 19, 3) := by decide +kernel
theorem dX6_next_8 : decode cX6_next 8 = .ok (.if_icmp .ge 30, 3) := by decide +kernel
theorem dX6_next_11 : decode cX6_next 11 = .ok (.aload_n 0, 1) := by decide +kernel
theorem dX6_next_12 : decode cX6_next 12 = .ok (.getfield 9, 3) := by decide +kernel
theorem dX6_next_15 : decode cX6_next 15 = .ok (.aload_n 0, 1) := by decide +kernel
theorem dX6_next_16 : decode cX6_next 16 = .ok (.getfield 22, 3) := by decide +kernel
theorem dX6_next_19 : decode cX6_next 19 = .ok (.iaload, 1) := by decide +kernel
theorem dX6_next_20 : decode cX6_next 20 = .ok (.bipush 32, 2) := by decide +kernel
theorem dX6_next_22 : decode cX6_next 22 = .ok (.if_icmp .ne 16, 3) := by decide +kernel
theorem dX6_next_25 : decode cX6_next 25 = .ok (.aload_n 0, 1) := by decide +kernel
theorem dX6_next_26 : decode cX6_next 26 = .ok (.dup, 1) := by decide +kernel
theorem dX6_next_27 : decode cX6_next 27 = .ok (.getfield 22, 3) := by decide +kernel
theorem dX6_next_30 : decode cX6_next 30 = .ok (.iconst 1, 1) := by decide +kernel
theorem dX6_next_31 : decode cX6_next 31 = .ok (.iadd, 1) := by decide +kernel
theorem dX6_next_32 : decode cX6_next 32 = .ok (.putfield 22, 3) := by decide +kernel
theorem dX6_next_35 : decode cX6_next 35 = .ok (.goto (-35), 3) := by decide +kernel
theorem dX6_next_38 : decode cX6_next 38 = .ok (.aload_n 0, 1) := by decide +kernel
theorem dX6_next_39 : decode cX6_next 39 = .ok (.getfield 22, 3) := by decide +kernel
theorem dX6_next_42 : decode cX6_next 42 = .ok (.aload_n 0, 1) := by decide +kernel
theorem dX6_next_43 : decode cX6_next 43 = .ok (.getfield 19, 3) := by decide +kernel
theorem dX6_next_46 : decode cX6_next 46 = .ok (.if_icmp .ge 12, 3) := by decide +kernel
theorem dX6_next_49 : decode cX6_next 49 = .ok (.aload_n 0, 1) := by decide +kernel
theorem dX6_next_50 : decode cX6_next 50 = .ok (.getfield 15, 3) := by decide +kernel
theorem dX6_next_53 : decode cX6_next 53 = .ok (.bipush (-9), 2) := by decide +kernel
theorem dX6_next_55 : decode cX6_next 55 = .ok (.if_icmp .eq 5, 3) := by decide +kernel
theorem dX6_next_58 : decode cX6_next 58 = .ok (.iconst 0, 1) := by decide +kernel
theorem dX6_next_59 : decode cX6_next 59 = .ok (.ireturn, 1) := by decide +kernel
theorem dX6_next_60 : decode cX6_next 60 = .ok (.aload_n 0, 1) := by decide +kernel
theorem dX6_next_61 : decode cX6_next 61 = .ok (.getfield 22, 3) := by decide +kernel
theorem dX6_next_64 : decode cX6_next 64 = .ok (.istore_n 1, 1) := by decide +kernel
theorem dX6_next_65 : decode cX6_next 65 = .ok (.aload_n 0, 1) := by decide +kernel
theorem dX6_next_66 : decode cX6_next 66 = .ok (.aload_n 0, 1) := by decide +kernel
theorem dX6_next_67 : decode cX6_next 67 = .ok (.getfield 9, 3) := by decide +kernel
theorem dX6_next_70 : decode cX6_next 70 = .ok (.aload_n 0, 1) := by decide +kernel
theorem dX6_next_71 : decode cX6_next 71 = .ok (.getfield 22, 3) := by decide +kernel
theorem dX6_next_74 : decode cX6_next 74 = .ok (.iaload, 1) := by decide +kernel
theorem dX6_next_75 : decode cX6_next 75 = .ok (.putfield 28, 3) := by decide +kernel
theorem dX6_next_78 : decode cX6_next 78 = .ok (.aload_n 0, 1) := by decide +kernel
theorem dX6_next_79 : decode cX6_next 79 = .ok (.invokevirtual 31, 3) := by decide +kernel
theorem dX6_next_82 : decode cX6_next 82 = .ok (.bipush (-9), 2) := by decide +kernel
theorem dX6_next_84 : decode cX6_next 84 = .ok (.if_icmp .ne 12, 3) := by decide +kernel
theorem dX6_next_87 : decode cX6_next 87 = .ok (.aload_n 0, 1) := by decide +kernel
theorem dX6_next_88 : decode cX6_next 88 = .ok (.aload_n 0, 1) := by decide +kernel
theorem dX6_next_89 : decode cX6_next 89 = .ok (.getfield 22, 3) := by decide +kernel
theorem dX6_next_92 : decode cX6_next 92 = .ok (.invokevirtual 35, 3) := by decide +kernel
theorem dX6_next_95 : decode cX6_next 95 = .ok (.ireturn, 1) := by decide +kernel
theorem dX6_next_96 : decode cX6_next 96 = .ok (.aload_n 0, 1) := by decide +kernel
theorem dX6_next_97 : decode cX6_next 97 = .ok (.dup, 1) := by decide +kernel
theorem dX6_next_98 : decode cX6_next 98 = .ok (.getfield 22, 3) := by decide +kernel
theorem dX6_next_101 : decode cX6_next 101 = .ok (.iconst 1, 1) := by decide +kernel
theorem dX6_next_102 : decode cX6_next 102 = .ok (.iadd, 1) := by decide +kernel
theorem dX6_next_103 : decode cX6_next 103 = .ok (.putfield 22, 3) := by decide +kernel
theorem dX6_next_106 : decode cX6_next 106 = .ok (.aload_n 0, 1) := by decide +kernel
theorem dX6_next_107 : decode cX6_next 107 = .ok (.getfield 22, 3) := by decide +kernel
theorem dX6_next_110 : decode cX6_next 110 = .ok (.aload_n 0, 1) := by decide +kernel
theorem dX6_next_111 : decode cX6_next 111 = .ok (.getfield 19, 3) := by decide +kernel
theorem dX6_next_114 : decode cX6_next 114 = .ok (.if_icmp .ge 21, 3) := by decide +kernel
theorem dX6_next_117 : decode cX6_next 117 = .ok (.aload_n 0, 1) := by decide +kernel
theorem dX6_next_118 : decode cX6_next 118 = .ok (.getfield 9, 3) := by decide +kernel
theorem dX6_next_121 : decode cX6_next 121 = .ok (.aload_n 0, 1) := by decide +kernel
theorem dX6_next_122 : decode cX6_next 122 = .ok (.getfield 22, 3) := by decide +kernel
theorem dX6_next_125 : decode cX6_next 125 = .ok (.iaload, 1) := by decide +kernel
theorem dX6_next_126 : decode cX6_next 126 = .ok (.bipush 45, 2) := by decide +kernel
theorem dX6_next_128 : decode cX6_next 128 = .ok (.if_icmp .ne 7, 3) := by decide +kernel
theorem dX6_next_131 : decode cX6_next 131 = .ok (.iconst 1, 1) := by decide +kernel
theorem dX6_next_132 : decode cX6_next 132 = .ok (.goto 4, 3) := by decide +kernel
theorem dX6_next_135 : decode cX6_next 135 = .ok (.iconst 0, 1) := by decide +kernel
theorem dX6_next_136 : decode cX6_next 136 = .ok (.istore_n 2, 1) := by decide +kernel
theorem dX6_next_137 : decode cX6_next 137 = .ok (.iload_n 2, 1) := by decide +kernel
theorem dX6_next_138 : decode cX6_next 138 = .ok (.ifCond .eq 13, 3) := by decide +kernel
theorem dX6_next_141 : decode cX6_next 141 = .ok (.aload_n 0, 1) := by decide +kernel
theorem dX6_next_142 : decode cX6_next 142 = .ok (.dup, 1) := by decide +kernel
theorem dX6_next_143 : decode cX6_next 143 = .ok (.getfield 22, 3) := by decide +kernel
theorem dX6_next_146 : decode cX6_next 146 = .ok (.iconst 1, 1) := by decide +kernel
theorem dX6_next_147 : decode cX6_next 147 = .ok (.iadd, 1) := by decide +kernel
theorem dX6_next_148 : decode cX6_next 148 = .ok (.putfield 22, 3) := by decide +kernel
theorem dX6_next_151 : decode cX6_next 151 = .ok (.aload_n 0, 1) := by decide +kernel
theorem dX6_next_152 : decode cX6_next 152 = .ok (.invokevirtual 39, 3) := by decide +kernel
theorem dX6_next_155 : decode cX6_next 155 = .ok (.ifCond .ne 12, 3) := by decide +kernel
theorem dX6_next_158 : decode cX6_next 158 = .ok (.aload_n 0, 1) := by decide +kernel
theorem dX6_next_159 : decode cX6_next 159 = .ok (.aload_n 0, 1) := by decide +kernel
theorem dX6_next_160 : decode cX6_next 160 = .ok (.getfield 22, 3) := by decide +kernel
theorem dX6_next_163 : decode cX6_next 163 = .ok (.invokevirtual 35, 3) := by decide +kernel
theorem dX6_next_166 : decode cX6_next 166 = .ok (.ireturn, 1) := by decide +kernel
theorem dX6_next_167 : decode cX6_next 167 = .ok (.iconst 0, 1) := by decide +kernel
theorem dX6_next_168 : decode cX6_next 168 = .ok (.istore_n 3, 1) := by decide +kernel
theorem dX6_next_169 : decode cX6_next 169 = .ok (.iconst 0, 1) := by decide +kernel
theorem dX6_next_170 : decode cX6_next 170 = .ok (.istore 4, 2) := by decide +kernel
theorem dX6_next_172 : decode cX6_next 172 = .ok (.iload 4, 2) := by decide +kernel
theorem dX6_next_174 : decode cX6_next 174 = .ok (.iconst 4, 1) := by decide +kernel
theorem dX6_next_175 : decode cX6_next 175 = .ok (.if_icmp .ge 44, 3) := by decide +kernel
theorem dX6_next_178 : decode cX6_next 178 = .ok (.aload_n 0, 1) := by decide +kernel
theorem dX6_next_179 : decode cX6_next 179 = .ok (.invokevirtual 39, 3) := by decide +kernel
theorem dX6_next_182 : decode cX6_next 182 = .ok (.ifCond .eq 37, 3) := by decide +kernel
theorem dX6_next_185 : decode cX6_next 185 = .ok (.bipush 10, 2) := by decide +kernel
theorem dX6_next_187 : decode cX6_next 187 = .ok (.iload_n 3, 1) := by decide +kernel
theorem dX6_next_188 : decode cX6_next 188 = .ok (.imul, 1) := by decide +kernel
theorem dX6_next_189 : decode cX6_next 189 = .ok (.aload_n 0, 1) := by decide +kernel
theorem dX6_next_190 : decode cX6_next 190 = .ok (.getfield 9, 3) := by decide +kernel
theorem dX6_next_193 : decode cX6_next 193 = .ok (.aload_n 0, 1) := by decide +kernel
theorem dX6_next_194 : decode cX6_next 194 = .ok (.getfield 22, 3) := by decide +kernel
theorem dX6_next_197 : decode cX6_next 197 = .ok (.iaload, 1) := by decide +kernel
theorem dX6_next_198 : decode cX6_next 198 = .ok (.iadd, 1) := by decide +kernel
theorem dX6_next_199 : decode cX6_next 199 = .ok (.bipush 48, 2) := by decide +kernel
theorem dX6_next_201 : decode cX6_next 201 = .ok (.isub, 1) := by decide +kernel
theorem dX6_next_202 : decode cX6_next 202 = .ok (.istore_n 3, 1) := by decide +kernel
theorem dX6_next_203 : decode cX6_next 203 = .ok (.aload_n 0, 1) := by decide +kernel
theorem dX6_next_204 : decode cX6_next 204 = .ok (.dup, 1) := by decide +kernel
theorem dX6_next_205 : decode cX6_next 205 = .ok (.getfield 22, 3) := by decide +kernel
theorem dX6_next_208 : decode cX6_next 208 = .ok (.iconst 1, 1) := by decide +kernel
theorem dX6_next_209 : decode cX6_next 209 = .ok (.iadd, 1) := by decide +kernel
theorem dX6_next_210 : decode cX6_next 210 = .ok (.putfield 22, 3) := by decide +kernel
theorem dX6_next_213 : decode cX6_next 213 = .ok (.iinc 4 1, 3) := by decide +kernel
theorem dX6_next_216 : decode cX6_next 216 = .ok (.goto (-44), 3) := by decide +kernel
theorem dX6_next_219 : decode cX6_next 219 = .ok (.aload_n 0, 1) := by decide +kernel
theorem dX6_next_220 : decode cX6_next 220 = .ok (.invokevirtual 39, 3) := by decide +kernel
theorem dX6_next_223 : decode cX6_next 223 = .ok (.ifCond .eq 12, 3) := by decide +kernel
theorem dX6_next_226 : decode cX6_next 226 = .ok (.aload_n 0, 1) := by decide +kernel
theorem dX6_next_227 : decode cX6_next 227 = .ok (.aload_n 0, 1) := by decide +kernel
theorem dX6_next_228 : decode cX6_next 228 = .ok (.getfield 22, 3) := by decide +kernel
theorem dX6_next_231 : decode cX6_next 231 = .ok (.invokevirtual 35, 3) := by decide +kernel
theorem dX6_next_234 : decode cX6_next 234 = .ok (.ireturn, 1) := by decide +kernel
theorem dX6_next_235 : decode cX6_next 235 = .ok (.aload_n 0, 1) := by decide +kernel
theorem dX6_next_236 : decode cX6_next 236 = .ok (.iload_n 2, 1) := by decide +kernel
theorem dX6_next_237 : decode cX6_next 237 = .ok (.ifCond .eq 8, 3) := by decide +kernel
theorem dX6_next_240 : decode cX6_next 240 = .ok (.iload_n 3, 1) := by decide +kernel
theorem dX6_next_241 : decode cX6_next 241 = .ok (.ineg, 1) := by decide +kernel
theorem dX6_next_242 : decode cX6_next 242 = .ok (.goto 4, 3) := by decide +kernel
theorem dX6_next_245 : decode cX6_next 245 = .ok (.iload_n 3, 1) := by decide +kernel
theorem dX6_next_246 : decode cX6_next 246 = .ok (.putfield 43, 3) := by decide +kernel
theorem dX6_next_249 : decode cX6_next 249 = .ok (.aload_n 0, 1) := by decide +kernel
theorem dX6_next_250 : decode cX6_next 250 = .ok (.getfield 43, 3) := by decide +kernel
theorem dX6_next_253 : decode cX6_next 253 = .ok (.aload_n 0, 1) := by decide +kernel
theorem dX6_next_254 : decode cX6_next 254 = .ok (.invokevirtual 46, 3) := by decide +kernel
theorem dX6_next_257 : decode cX6_next 257 = .ok (.if_icmp .lt 14, 3) := by decide +kernel
theorem dX6_next_260 : decode cX6_next 260 = .ok (.aload_n 0, 1) := by decide +kernel
theorem dX6_next_261 : decode cX6_next 261 = .ok (.getfield 43, 3) := by decide +kernel
theorem dX6_next_264 : decode cX6_next 264 = .ok (.aload_n 0, 1) := by decide +kernel
theorem dX6_next_265 : decode cX6_next 265 = .ok (.invokevirtual 31, 3) := by decide +kernel
theorem dX6_next_268 : decode cX6_next 268 = .ok (.if_icmp .le 9, 3) := by decide +kernel
theorem dX6_next_271 : decode cX6_next 271 = .ok (.aload_n 0, 1) := by decide +kernel
theorem dX6_next_272 : decode cX6_next 272 = .ok (.iload_n 1, 1) := by decide +kernel
theorem dX6_next_273 : decode cX6_next 273 = .ok (.invokevirtual 35, 3) := by decide +kernel
theorem dX6_next_276 : decode cX6_next 276 = .ok (.ireturn, 1) := by decide +kernel
theorem dX6_next_277 : decode cX6_next 277 = .ok (.aload_n 0, 1) := by decide +kernel
theorem dX6_next_278 : decode cX6_next 278 = .ok (.dup, 1) := by decide +kernel
theorem dX6_next_279 : decode cX6_next 279 = .ok (.getfield 25, 3) := by decide +kernel
theorem dX6_next_282 : decode cX6_next 282 = .ok (.aload_n 0, 1) := by decide +kernel
theorem dX6_next_283 : decode cX6_next 283 = .ok (.invokevirtual 49, 3) := by decide +kernel
theorem dX6_next_286 : decode cX6_next 286 = .ok (.iadd, 1) := by decide +kernel
theorem dX6_next_287 : decode cX6_next 287 = .ok (.putfield 25, 3) := by decide +kernel
theorem dX6_next_290 : decode cX6_next 290 = .ok (.aload_n 0, 1) := by decide +kernel
theorem dX6_next_291 : decode cX6_next 291 = .ok (.getfield 25, 3) := by decide +kernel
theorem dX6_next_294 : decode cX6_next 294 = .ok (.bipush 24, 2) := by decide +kernel
theorem dX6_next_296 : decode cX6_next 296 = .ok (.if_icmp .le 11, 3) := by decide +kernel
theorem dX6_next_299 : decode cX6_next 299 = .ok (.aload_n 0, 1) := by decide +kernel
theorem dX6_next_300 : decode cX6_next 300 = .ok (.iload_n 1, 1) := by decide +kernel
theorem dX6_next_301 : decode cX6_next 301 = .ok (.invokevirtual 35, 3) := by decide +kernel
theorem dX6_next_304 : decode cX6_next 304 = .ok (.ifCond .eq 7, 3) := by decide +kernel
theorem dX6_next_307 : decode cX6_next 307 = .ok (.iconst 1, 1) := by decide +kernel
theorem dX6_next_308 : decode cX6_next 308 = .ok (.goto 4, 3) := by decide +kernel
theorem dX6_next_311 : decode cX6_next 311 = .ok (.iconst 0, 1) := by decide +kernel
theorem dX6_next_312 : decode cX6_next 312 = .ok (.ireturn, 1) := by decide +kernel
theorem dX6_stepsOfItem_0 : decode cX6_stepsOfItem 0 = .ok (.aload_n 0, 1) := by decide +kernel
theorem dX6_stepsOfItem_1 : decode cX6_stepsOfItem 1 = .ok (.getfield 28, 3) := by decide +kernel
theorem dX6_stepsOfItem_4 : decode cX6_stepsOfItem 4 = .ok (.bipush 83, 2) := by decide +kernel
theorem dX6_stepsOfItem_6 : decode cX6_stepsOfItem 6 = .ok (.if_icmp .ne 10, 3) := by decide +kernel
theorem dX6_stepsOfItem_9 : decode cX6_stepsOfItem 9 = .ok (.aload_n 0, 1) := by decide +kernel
theorem dX6_stepsOfItem_10 : decode cX6_stepsOfItem 10 = .ok (.getfield 43, 3) := by decide +kernel
theorem dX6_stepsOfItem_13 : decode cX6_stepsOfItem 13 = .ok (.goto 4, 3) := by decide +kernel
theorem dX6_stepsOfItem_16 : decode cX6_stepsOfItem 16 = .ok (.iconst 0, 1) := by decide +kernel
theorem dX6_stepsOfItem_17 : decode cX6_stepsOfItem 17 = .ok (.ireturn, 1) := by decide +kernel
theorem dX6_failed_0 : decode cX6_failed 0 = .ok (.aload_n 0, 1) := by decide +kernel
theorem dX6_failed_1 : decode cX6_failed 1 = .ok (.iload_n 1, 1) := by decide +kernel
theorem dX6_failed_2 : decode cX6_failed 2 = .ok (.putfield 15, 3) := by decide +kernel
theorem dX6_failed_5 : decode cX6_failed 5 = .ok (.iconst 0, 1) := by decide +kernel
theorem dX6_failed_6 : decode cX6_failed 6 = .ok (.ireturn, 1) := by decide +kernel
theorem dX6_digitAhead_0 : decode cX6_digitAhead 0 = .ok (.aload_n 0, 1) := by decide +kernel
theorem dX6_digitAhead_1 : decode cX6_digitAhead 1 = .ok (.getfield 22, 3) := by decide +kernel
theorem dX6_digitAhead_4 : decode cX6_digitAhead 4 = .ok (.aload_n 0, 1) := by decide +kernel
theorem dX6_digitAhead_5 : decode cX6_digitAhead 5 = .ok (.getfield 19, 3) := by decide +kernel
theorem dX6_digitAhead_8 : decode cX6_digitAhead 8 = .ok (.if_icmp .ge 35, 3) := by decide +kernel
theorem dX6_digitAhead_11 : decode cX6_digitAhead 11 = .ok (.aload_n 0, 1) := by decide +kernel
theorem dX6_digitAhead_12 : decode cX6_digitAhead 12 = .ok (.getfield 9, 3) := by decide +kernel
theorem dX6_digitAhead_15 : decode cX6_digitAhead 15 = .ok (.aload_n 0, 1) := by decide +kernel
theorem dX6_digitAhead_16 : decode cX6_digitAhead 16 = .ok (.getfield 22, 3) := by decide +kernel
theorem dX6_digitAhead_19 : decode cX6_digitAhead 19 = .ok (.iaload, 1) := by decide +kernel
theorem dX6_digitAhead_20 : decode cX6_digitAhead 20 = .ok (.bipush 48, 2) := by decide +kernel
theorem dX6_digitAhead_22 : decode cX6_digitAhead 22 = .ok (.if_icmp .lt 21, 3) := by decide +kernel
theorem dX6_digitAhead_25 : decode cX6_digitAhead 25 = .ok (.aload_n 0, 1) := by decide +kernel
theorem dX6_digitAhead_26 : decode cX6_digitAhead 26 = .ok (.getfield 9, 3) := by decide +kernel
theorem dX6_digitAhead_29 : decode cX6_digitAhead 29 = .ok (.aload_n 0, 1) := by decide +kernel
theorem dX6_digitAhead_30 : decode cX6_digitAhead 30 = .ok (.getfield 22, 3) := by decide +kernel
theorem dX6_digitAhead_33 : decode cX6_digitAhead 33 = .ok (.iaload, 1) := by decide +kernel
theorem dX6_digitAhead_34 : decode cX6_digitAhead 34 = .ok (.bipush 57, 2) := by decide +kernel
theorem dX6_digitAhead_36 : decode cX6_digitAhead 36 = .ok (.if_icmp .gt 7, 3) := by decide +kernel
theorem dX6_digitAhead_39 : decode cX6_digitAhead 39 = .ok (.iconst 1, 1) := by decide +kernel
theorem dX6_digitAhead_40 : decode cX6_digitAhead 40 = .ok (.goto 4, 3) := by decide +kernel
theorem dX6_digitAhead_43 : decode cX6_digitAhead 43 = .ok (.iconst 0, 1) := by decide +kernel
theorem dX6_digitAhead_44 : decode cX6_digitAhead 44 = .ok (.ireturn, 1) := by decide +kernel
theorem dX6_least_0 : decode cX6_least 0 = .ok (.aload_n 0, 1) := by decide +kernel
theorem dX6_least_1 : decode cX6_least 1 = .ok (.getfield 28, 3) := by decide +kernel
theorem dX6_least_4 : decode cX6_least 4 = .ok (.tableswitch 57 80 87 #[55, 57, 57, 57, 51, 57, 48, 48], 48) := by decide +kernel
theorem dX6_least_52 : decode cX6_least 52 = .ok (.bipush (-50), 2) := by decide +kernel
theorem dX6_least_54 : decode cX6_least 54 = .ok (.ireturn, 1) := by decide +kernel
theorem dX6_least_55 : decode cX6_least 55 = .ok (.sipush (-500), 3) := by decide +kernel
theorem dX6_least_58 : decode cX6_least 58 = .ok (.ireturn, 1) := by decide +kernel
theorem dX6_least_59 : decode cX6_least 59 = .ok (.iconst 1, 1) := by decide +kernel
theorem dX6_least_60 : decode cX6_least 60 = .ok (.ireturn, 1) := by decide +kernel
theorem dX6_least_61 : decode cX6_least 61 = .ok (.iconst 0, 1) := by decide +kernel
theorem dX6_least_62 : decode cX6_least 62 = .ok (.ireturn, 1) := by decide +kernel
theorem dX6_greatest_0 : decode cX6_greatest 0 = .ok (.aload_n 0, 1) := by decide +kernel
theorem dX6_greatest_1 : decode cX6_greatest 1 = .ok (.getfield 28, 3) := by decide +kernel
theorem dX6_greatest_4 : decode cX6_greatest 4 = .ok (.tableswitch 105 71 87 #[90, 105, 105, 105, 105, 105, 105, 105, 105, 98, 105, 101, 87, 94, 105, 84, 84], 84) := by decide +kernel
theorem dX6_greatest_88 : decode cX6_greatest 88 = .ok (.bipush 50, 2) := by decide +kernel
theorem dX6_greatest_90 : decode cX6_greatest 90 = .ok (.ireturn, 1) := by decide +kernel
theorem dX6_greatest_91 : decode cX6_greatest 91 = .ok (.bipush 24, 2) := by decide +kernel
theorem dX6_greatest_93 : decode cX6_greatest 93 = .ok (.ireturn, 1) := by decide +kernel
theorem dX6_greatest_94 : decode cX6_greatest 94 = .ok (.sipush 9999, 3) := by decide +kernel
theorem dX6_greatest_97 : decode cX6_greatest 97 = .ok (.ireturn, 1) := by decide +kernel
theorem dX6_greatest_98 : decode cX6_greatest 98 = .ok (.sipush 500, 3) := by decide +kernel
theorem dX6_greatest_101 : decode cX6_greatest 101 = .ok (.ireturn, 1) := by decide +kernel
theorem dX6_greatest_102 : decode cX6_greatest 102 = .ok (.bipush 8, 2) := by decide +kernel
theorem dX6_greatest_104 : decode cX6_greatest 104 = .ok (.ireturn, 1) := by decide +kernel
theorem dX6_greatest_105 : decode cX6_greatest 105 = .ok (.sipush 1000, 3) := by decide +kernel
theorem dX6_greatest_108 : decode cX6_greatest 108 = .ok (.ireturn, 1) := by decide +kernel
theorem dX6_greatest_109 : decode cX6_greatest 109 = .ok (.bipush (-9), 2) := by decide +kernel
theorem dX6_greatest_111 : decode cX6_greatest 111 = .ok (.ireturn, 1) := by decide +kernel
theorem dX7_init_0 : decode cX7_init 0 = .ok (.aload_n 0, 1) := by decide +kernel
theorem dX7_init_1 : decode cX7_init 1 = .ok (.invokespecial 1, 3) := by decide +kernel
theorem dX7_init_4 : decode cX7_init 4 = .ok (.aload_n 0, 1) := by decide +kernel
theorem dX7_init_5 : decode cX7_init 5 = .ok (.iload_n 1, 1) := by decide +kernel
theorem dX7_init_6 : decode cX7_init 6 = .ok (.iload_n 2, 1) := by decide +kernel
theorem dX7_init_7 : decode cX7_init 7 = .ok (.multianewarray 7 2, 4) := by decide +kernel
theorem dX7_init_11 : decode cX7_init 11 = .ok (.putfield 9, 3) := by decide +kernel
theorem dX7_init_14 : decode cX7_init 14 = .ok (.aload_n 0, 1) := by decide +kernel
theorem dX7_init_15 : decode cX7_init 15 = .ok (.iload_n 1, 1) := by decide +kernel
theorem dX7_init_16 : decode cX7_init 16 = .ok (.newarray .int, 2) := by decide +kernel
theorem dX7_init_18 : decode cX7_init 18 = .ok (.putfield 14, 3) := by decide +kernel
theorem dX7_init_21 : decode cX7_init 21 = .ok (.iconst 0, 1) := by decide +kernel
theorem dX7_init_22 : decode cX7_init 22 = .ok (.istore_n 3, 1) := by decide +kernel
theorem dX7_init_23 : decode cX7_init 23 = .ok (.iload_n 3, 1) := by decide +kernel
theorem dX7_init_24 : decode cX7_init 24 = .ok (.iload_n 1, 1) := by decide +kernel
theorem dX7_init_25 : decode cX7_init 25 = .ok (.if_icmp .ge 16, 3) := by decide +kernel
theorem dX7_init_28 : decode cX7_init 28 = .ok (.aload_n 0, 1) := by decide +kernel
theorem dX7_init_29 : decode cX7_init 29 = .ok (.getfield 14, 3) := by decide +kernel
theorem dX7_init_32 : decode cX7_init 32 = .ok (.iload_n 3, 1) := by decide +kernel
theorem dX7_init_33 : decode cX7_init 33 = .ok (.iconst (-1), 1) := by decide +kernel
theorem dX7_init_34 : decode cX7_init 34 = .ok (.iastore, 1) := by decide +kernel
theorem dX7_init_35 : decode cX7_init 35 = .ok (.iinc 3 1, 3) := by decide +kernel
theorem dX7_init_38 : decode cX7_init 38 = .ok (.goto (-15), 3) := by decide +kernel
theorem dX7_init_41 : decode cX7_init 41 = .ok (.return_, 1) := by decide +kernel
theorem dX7_isNumber_0 : decode cX7_isNumber 0 = .ok (.iload_n 1, 1) := by decide +kernel
theorem dX7_isNumber_1 : decode cX7_isNumber 1 = .ok (.ifCond .lt 16, 3) := by decide +kernel
theorem dX7_isNumber_4 : decode cX7_isNumber 4 = .ok (.iload_n 1, 1) := by decide +kernel
theorem dX7_isNumber_5 : decode cX7_isNumber 5 = .ok (.aload_n 0, 1) := by decide +kernel
theorem dX7_isNumber_6 : decode cX7_isNumber 6 = .ok (.getfield 14, 3) := by decide +kernel
theorem dX7_isNumber_9 : decode cX7_isNumber 9 = .ok (.arraylength, 1) := by decide +kernel
theorem dX7_isNumber_10 : decode cX7_isNumber 10 = .ok (.if_icmp .ge 7, 3) := by decide +kernel
theorem dX7_isNumber_13 : decode cX7_isNumber 13 = .ok (.iconst 1, 1) := by decide +kernel
theorem dX7_isNumber_14 : decode cX7_isNumber 14 = .ok (.goto 4, 3) := by decide +kernel
theorem dX7_isNumber_17 : decode cX7_isNumber 17 = .ok (.iconst 0, 1) := by decide +kernel
theorem dX7_isNumber_18 : decode cX7_isNumber 18 = .ok (.ireturn, 1) := by decide +kernel
theorem dX7_isThere_0 : decode cX7_isThere 0 = .ok (.aload_n 0, 1) := by decide +kernel
theorem dX7_isThere_1 : decode cX7_isThere 1 = .ok (.getfield 14, 3) := by decide +kernel
theorem dX7_isThere_4 : decode cX7_isThere 4 = .ok (.iload_n 1, 1) := by decide +kernel
theorem dX7_isThere_5 : decode cX7_isThere 5 = .ok (.iaload, 1) := by decide +kernel
theorem dX7_isThere_6 : decode cX7_isThere 6 = .ok (.ifCond .lt 7, 3) := by decide +kernel
theorem dX7_isThere_9 : decode cX7_isThere 9 = .ok (.iconst 1, 1) := by decide +kernel
theorem dX7_isThere_10 : decode cX7_isThere 10 = .ok (.goto 4, 3) := by decide +kernel
theorem dX7_isThere_13 : decode cX7_isThere 13 = .ok (.iconst 0, 1) := by decide +kernel
theorem dX7_isThere_14 : decode cX7_isThere 14 = .ok (.ireturn, 1) := by decide +kernel
theorem dX7_hasPlace_0 : decode cX7_hasPlace 0 = .ok (.iload_n 2, 1) := by decide +kernel
theorem dX7_hasPlace_1 : decode cX7_hasPlace 1 = .ok (.ifCond .lt 17, 3) := by decide +kernel
theorem dX7_hasPlace_4 : decode cX7_hasPlace 4 = .ok (.iload_n 2, 1) := by decide +kernel
theorem dX7_hasPlace_5 : decode cX7_hasPlace 5 = .ok (.aload_n 0, 1) := by decide +kernel
theorem dX7_hasPlace_6 : decode cX7_hasPlace 6 = .ok (.getfield 14, 3) := by decide +kernel
theorem dX7_hasPlace_9 : decode cX7_hasPlace 9 = .ok (.iload_n 1, 1) := by decide +kernel
theorem dX7_hasPlace_10 : decode cX7_hasPlace 10 = .ok (.iaload, 1) := by decide +kernel
theorem dX7_hasPlace_11 : decode cX7_hasPlace 11 = .ok (.if_icmp .ge 7, 3) := by decide +kernel
theorem dX7_hasPlace_14 : decode cX7_hasPlace 14 = .ok (.iconst 1, 1) := by decide +kernel
theorem dX7_hasPlace_15 : decode cX7_hasPlace 15 = .ok (.goto 4, 3) := by decide +kernel
theorem dX7_hasPlace_18 : decode cX7_hasPlace 18 = .ok (.iconst 0, 1) := by decide +kernel
theorem dX7_hasPlace_19 : decode cX7_hasPlace 19 = .ok (.ireturn, 1) := by decide +kernel
theorem dX7_hasRun_0 : decode cX7_hasRun 0 = .ok (.iload_n 2, 1) := by decide +kernel
theorem dX7_hasRun_1 : decode cX7_hasRun 1 = .ok (.ifCond .lt 29, 3) := by decide +kernel
theorem dX7_hasRun_4 : decode cX7_hasRun 4 = .ok (.iload_n 2, 1) := by decide +kernel
theorem dX7_hasRun_5 : decode cX7_hasRun 5 = .ok (.aload_n 0, 1) := by decide +kernel
theorem dX7_hasRun_6 : decode cX7_hasRun 6 = .ok (.getfield 14, 3) := by decide +kernel
theorem dX7_hasRun_9 : decode cX7_hasRun 9 = .ok (.iload_n 1, 1) := by decide +kernel
theorem dX7_hasRun_10 : decode cX7_hasRun 10 = .ok (.iaload, 1) := by decide +kernel
theorem dX7_hasRun_11 : decode cX7_hasRun 11 = .ok (.if_icmp .gt 19, 3) := by decide +kernel
theorem dX7_hasRun_14 : decode cX7_hasRun 14 = .ok (.iload_n 3, 1) := by decide +kernel
theorem dX7_hasRun_15 : decode cX7_hasRun 15 = .ok (.aload_n 0, 1) := by decide +kernel
theorem dX7_hasRun_16 : decode cX7_hasRun 16 = .ok (.getfield 14, 3) := by decide +kernel
theorem dX7_hasRun_19 : decode cX7_hasRun 19 = .ok (.iload_n 1, 1) := by decide +kernel
theorem dX7_hasRun_20 : decode cX7_hasRun 20 = .ok (.iaload, 1) := by decide +kernel
theorem dX7_hasRun_21 : decode cX7_hasRun 21 = .ok (.iload_n 2, 1) := by decide +kernel
theorem dX7_hasRun_22 : decode cX7_hasRun 22 = .ok (.isub, 1) := by decide +kernel
theorem dX7_hasRun_23 : decode cX7_hasRun 23 = .ok (.if_icmp .gt 7, 3) := by decide +kernel
theorem dX7_hasRun_26 : decode cX7_hasRun 26 = .ok (.iconst 1, 1) := by decide +kernel
theorem dX7_hasRun_27 : decode cX7_hasRun 27 = .ok (.goto 4, 3) := by decide +kernel
theorem dX7_hasRun_30 : decode cX7_hasRun 30 = .ok (.iconst 0, 1) := by decide +kernel
theorem dX7_hasRun_31 : decode cX7_hasRun 31 = .ok (.ireturn, 1) := by decide +kernel
theorem dX7_make_0 : decode cX7_make 0 = .ok (.aload_n 0, 1) := by decide +kernel
theorem dX7_make_1 : decode cX7_make 1 = .ok (.getfield 14, 3) := by decide +kernel
theorem dX7_make_4 : decode cX7_make 4 = .ok (.iload_n 1, 1) := by decide +kernel
theorem dX7_make_5 : decode cX7_make 5 = .ok (.iload_n 2, 1) := by decide +kernel
theorem dX7_make_6 : decode cX7_make 6 = .ok (.iastore, 1) := by decide +kernel
theorem dX7_make_7 : decode cX7_make 7 = .ok (.iconst 0, 1) := by decide +kernel
theorem dX7_make_8 : decode cX7_make 8 = .ok (.istore 4, 2) := by decide +kernel
theorem dX7_make_10 : decode cX7_make 10 = .ok (.iload 4, 2) := by decide +kernel
theorem dX7_make_12 : decode cX7_make 12 = .ok (.iload_n 2, 1) := by decide +kernel
theorem dX7_make_13 : decode cX7_make 13 = .ok (.if_icmp .ge 19, 3) := by decide +kernel
theorem dX7_make_16 : decode cX7_make 16 = .ok (.aload_n 0, 1) := by decide +kernel
theorem dX7_make_17 : decode cX7_make 17 = .ok (.getfield 9, 3) := by decide +kernel
theorem dX7_make_20 : decode cX7_make 20 = .ok (.iload_n 1, 1) := by decide +kernel
theorem dX7_make_21 : decode cX7_make 21 = .ok (.aaload, 1) := by decide +kernel
theorem dX7_make_22 : decode cX7_make 22 = .ok (.iload 4, 2) := by decide +kernel
theorem dX7_make_24 : decode cX7_make 24 = .ok (.iload_n 3, 1) := by decide +kernel
theorem dX7_make_25 : decode cX7_make 25 = .ok (.iastore, 1) := by decide +kernel
theorem dX7_make_26 : decode cX7_make 26 = .ok (.iinc 4 1, 3) := by decide +kernel
theorem dX7_make_29 : decode cX7_make 29 = .ok (.goto (-19), 3) := by decide +kernel
theorem dX7_make_32 : decode cX7_make 32 = .ok (.return_, 1) := by decide +kernel
theorem dX7_remove_0 : decode cX7_remove 0 = .ok (.aload_n 0, 1) := by decide +kernel
theorem dX7_remove_1 : decode cX7_remove 1 = .ok (.getfield 14, 3) := by decide +kernel
theorem dX7_remove_4 : decode cX7_remove 4 = .ok (.iload_n 1, 1) := by decide +kernel
theorem dX7_remove_5 : decode cX7_remove 5 = .ok (.iconst (-1), 1) := by decide +kernel
theorem dX7_remove_6 : decode cX7_remove 6 = .ok (.iastore, 1) := by decide +kernel
theorem dX7_remove_7 : decode cX7_remove 7 = .ok (.return_, 1) := by decide +kernel
set_option maxRecDepth 20000 in
theorem ggX7_howMany_X7_isThere : GoodIn wsX7_howMany wsX7_isThere := goodIn_r _ [6, 1, 7, 8] (by decide +kernel) (by decide +kernel)
set_option maxRecDepth 20000 in
theorem gX7_howMany_X7_isThere : GoodIn wsX7_howMany (wsV RX7 18 RX7 yX7_isThere wsX7_isThere) := goodIn_app (goodIn_of _ (by decide +kernel)) ggX7_howMany_X7_isThere
theorem dX7_howMany_0 : decode cX7_howMany 0 = .ok (.iconst 0, 1) := by decide +kernel
theorem dX7_howMany_1 : decode cX7_howMany 1 = .ok (.istore_n 1, 1) := by decide +kernel
theorem dX7_howMany_2 : decode cX7_howMany 2 = .ok (.iconst 0, 1) := by decide +kernel
theorem dX7_howMany_3 : decode cX7_howMany 3 = .ok (.istore_n 2, 1) := by decide +kernel
theorem dX7_howMany_4 : decode cX7_howMany 4 = .ok (.iload_n 2, 1) := by decide +kernel
theorem dX7_howMany_5 : decode cX7_howMany 5 = .ok (.aload_n 0, 1) := by decide +kernel
theorem dX7_howMany_6 : decode cX7_howMany 6 = .ok (.getfield 14, 3) := by decide +kernel
theorem dX7_howMany_9 : decode cX7_howMany 9 = .ok (.arraylength, 1) := by decide +kernel
theorem dX7_howMany_10 : decode cX7_howMany 10 = .ok (.if_icmp .ge 25, 3) := by decide +kernel
theorem dX7_howMany_13 : decode cX7_howMany 13 = .ok (.iload_n 1, 1) := by decide +kernel
theorem dX7_howMany_14 : decode cX7_howMany 14 = .ok (.aload_n 0, 1) := by decide +kernel
theorem dX7_howMany_15 : decode cX7_howMany 15 = .ok (.iload_n 2, 1) := by decide +kernel
theorem dX7_howMany_16 : decode cX7_howMany 16 = .ok (.invokevirtual 18, 3) := by decide +kernel
theorem dX7_howMany_19 : decode cX7_howMany 19 = .ok (.ifCond .eq 7, 3) := by decide +kernel
theorem dX7_howMany_22 : decode cX7_howMany 22 = .ok (.iconst 1, 1) := by decide +kernel
theorem dX7_howMany_23 : decode cX7_howMany 23 = .ok (.goto 4, 3) := by decide +kernel
theorem dX7_howMany_26 : decode cX7_howMany 26 = .ok (.iconst 0, 1) := by decide +kernel
theorem dX7_howMany_27 : decode cX7_howMany 27 = .ok (.iadd, 1) := by decide +kernel
theorem dX7_howMany_28 : decode cX7_howMany 28 = .ok (.istore_n 1, 1) := by decide +kernel
theorem dX7_howMany_29 : decode cX7_howMany 29 = .ok (.iinc 2 1, 3) := by decide +kernel
theorem dX7_howMany_32 : decode cX7_howMany 32 = .ok (.goto (-28), 3) := by decide +kernel
theorem dX7_howMany_35 : decode cX7_howMany 35 = .ok (.iload_n 1, 1) := by decide +kernel
theorem dX7_howMany_36 : decode cX7_howMany 36 = .ok (.ireturn, 1) := by decide +kernel
theorem dX7_digested_0 : decode cX7_digested 0 = .ok (.lload_n 1, 1) := by decide +kernel
theorem dX7_digested_1 : decode cX7_digested 1 = .ok (.lstore_n 3, 1) := by decide +kernel
theorem dX7_digested_2 : decode cX7_digested 2 = .ok (.iconst 0, 1) := by decide +kernel
theorem dX7_digested_3 : decode cX7_digested 3 = .ok (.istore 5, 2) := by decide +kernel
theorem dX7_digested_5 : decode cX7_digested 5 = .ok (.iload 5, 2) := by decide +kernel
theorem dX7_digested_7 : decode cX7_digested 7 = .ok (.aload_n 0, 1) := by decide +kernel
theorem dX7_digested_8 : decode cX7_digested 8 = .ok (.getfield 14, 3) := by decide +kernel
theorem dX7_digested_11 : decode cX7_digested 11 = .ok (.arraylength, 1) := by decide +kernel
theorem dX7_digested_12 : decode cX7_digested 12 = .ok (.if_icmp .ge 63, 3) := by decide +kernel
theorem dX7_digested_15 : decode cX7_digested 15 = .ok (.ldc2_w 22, 3) := by decide +kernel
theorem dX7_digested_18 : decode cX7_digested 18 = .ok (.lload_n 3, 1) := by decide +kernel
theorem dX7_digested_19 : decode cX7_digested 19 = .ok (.lmul, 1) := by decide +kernel
theorem dX7_digested_20 : decode cX7_digested 20 = .ok (.aload_n 0, 1) := by decide +kernel
theorem dX7_digested_21 : decode cX7_digested 21 = .ok (.getfield 14, 3) := by decide +kernel
theorem dX7_digested_24 : decode cX7_digested 24 = .ok (.iload 5, 2) := by decide +kernel
theorem dX7_digested_26 : decode cX7_digested 26 = .ok (.iaload, 1) := by decide +kernel
theorem dX7_digested_27 : decode cX7_digested 27 = .ok (.i2l, 1) := by decide +kernel
theorem dX7_digested_28 : decode cX7_digested 28 = .ok (.ladd, 1) := by decide +kernel
theorem dX7_digested_29 : decode cX7_digested 29 = .ok (.lstore_n 3, 1) := by decide +kernel
theorem dX7_digested_30 : decode cX7_digested 30 = .ok (.iconst 0, 1) := by decide +kernel
theorem dX7_digested_31 : decode cX7_digested 31 = .ok (.istore 6, 2) := by decide +kernel
theorem dX7_digested_33 : decode cX7_digested 33 = .ok (.iload 6, 2) := by decide +kernel
theorem dX7_digested_35 : decode cX7_digested 35 = .ok (.aload_n 0, 1) := by decide +kernel
theorem dX7_digested_36 : decode cX7_digested 36 = .ok (.getfield 14, 3) := by decide +kernel
theorem dX7_digested_39 : decode cX7_digested 39 = .ok (.iload 5, 2) := by decide +kernel
theorem dX7_digested_41 : decode cX7_digested 41 = .ok (.iaload, 1) := by decide +kernel
theorem dX7_digested_42 : decode cX7_digested 42 = .ok (.if_icmp .ge 27, 3) := by decide +kernel
theorem dX7_digested_45 : decode cX7_digested 45 = .ok (.ldc2_w 22, 3) := by decide +kernel
theorem dX7_digested_48 : decode cX7_digested 48 = .ok (.lload_n 3, 1) := by decide +kernel
theorem dX7_digested_49 : decode cX7_digested 49 = .ok (.lmul, 1) := by decide +kernel
theorem dX7_digested_50 : decode cX7_digested 50 = .ok (.aload_n 0, 1) := by decide +kernel
theorem dX7_digested_51 : decode cX7_digested 51 = .ok (.getfield 9, 3) := by decide +kernel
theorem dX7_digested_54 : decode cX7_digested 54 = .ok (.iload 5, 2) := by decide +kernel
theorem dX7_digested_56 : decode cX7_digested 56 = .ok (.aaload, 1) := by decide +kernel
theorem dX7_digested_57 : decode cX7_digested 57 = .ok (.iload 6, 2) := by decide +kernel
theorem dX7_digested_59 : decode cX7_digested 59 = .ok (.iaload, 1) := by decide +kernel
theorem dX7_digested_60 : decode cX7_digested 60 = .ok (.i2l, 1) := by decide +kernel
theorem dX7_digested_61 : decode cX7_digested 61 = .ok (.ladd, 1) := by decide +kernel
theorem dX7_digested_62 : decode cX7_digested 62 = .ok (.lstore_n 3, 1) := by decide +kernel
theorem dX7_digested_63 : decode cX7_digested 63 = .ok (.iinc 6 1, 3) := by decide +kernel
theorem dX7_digested_66 : decode cX7_digested 66 = .ok (.goto (-33), 3) := by decide +kernel
theorem dX7_digested_69 : decode cX7_digested 69 = .ok (.iinc 5 1, 3) := by decide +kernel
theorem dX7_digested_72 : decode cX7_digested 72 = .ok (.goto (-67), 3) := by decide +kernel
theorem dX7_digested_75 : decode cX7_digested 75 = .ok (.lload_n 3, 1) := by decide +kernel
theorem dX7_digested_76 : decode cX7_digested 76 = .ok (.lreturn, 1) := by decide +kernel
theorem dX8_init_0 : decode cX8_init 0 = .ok (.aload_n 0, 1) := by decide +kernel
theorem dX8_init_1 : decode cX8_init 1 = .ok (.invokespecial 3, 3) := by decide +kernel
theorem dX8_init_4 : decode cX8_init 4 = .ok (.aload_n 0, 1) := by decide +kernel
theorem dX8_init_5 : decode cX8_init 5 = .ok (.bipush 96, 2) := by decide +kernel
theorem dX8_init_7 : decode cX8_init 7 = .ok (.newarray .int, 2) := by decide +kernel
theorem dX8_init_9 : decode cX8_init 9 = .ok (.putfield 9, 3) := by decide +kernel
theorem dX8_init_12 : decode cX8_init 12 = .ok (.aload_n 0, 1) := by decide +kernel
theorem dX8_init_13 : decode cX8_init 13 = .ok (.bipush 48, 2) := by decide +kernel
theorem dX8_init_15 : decode cX8_init 15 = .ok (.newarray .int, 2) := by decide +kernel
theorem dX8_init_17 : decode cX8_init 17 = .ok (.putfield 15, 3) := by decide +kernel
theorem dX8_init_20 : decode cX8_init 20 = .ok (.aload_n 0, 1) := by decide +kernel
theorem dX8_init_21 : decode cX8_init 21 = .ok (.bipush 48, 2) := by decide +kernel
theorem dX8_init_23 : decode cX8_init 23 = .ok (.newarray .int, 2) := by decide +kernel
theorem dX8_init_25 : decode cX8_init 25 = .ok (.putfield 18, 3) := by decide +kernel
theorem dX8_init_28 : decode cX8_init 28 = .ok (.aload_n 0, 1) := by decide +kernel
theorem dX8_init_29 : decode cX8_init 29 = .ok (.bipush 48, 2) := by decide +kernel
theorem dX8_init_31 : decode cX8_init 31 = .ok (.newarray .int, 2) := by decide +kernel
theorem dX8_init_33 : decode cX8_init 33 = .ok (.putfield 21, 3) := by decide +kernel
theorem dX8_init_36 : decode cX8_init 36 = .ok (.return_, 1) := by decide +kernel
set_option maxRecDepth 20000 in
theorem ggX8_advance_X8_pushFlows : GoodIn wsX8_advance wsX8_pushFlows := goodIn_r _ [11, 1, 12, 13, 14, 15, 16, 17, 18, 19, 20, 21, 22, 23, 24, 25, 10, 26, 27, 28, 29, 30, 31, 32, 33, 34, 35, 36, 37, 38, 39, 40, 41, 42, 111, 112, 113, 114, 115, 116, 117, 118, 119, 120, 121, 122, 123, 124, 125, 126, 127, 128, 129, 130, 131, 132, 133, 134, 135, 136, 137] (by decide +kernel) (by decide +kernel)
set_option maxRecDepth 20000 in
theorem gX8_advance_X8_pushFlows : GoodIn wsX8_advance (wsV RX8 24 RX8 yX8_pushFlows wsX8_pushFlows) := goodIn_app (goodIn_of _ (by decide +kernel)) ggX8_advance_X8_pushFlows
set_option maxRecDepth 20000 in
theorem ggX8_advance_X8_limitFlows : GoodIn wsX8_advance wsX8_limitFlows := goodIn_r _ [46, 47, 1, 48, 49, 50, 51, 12, 13, 14, 15, 16, 17, 18, 52, 53, 54, 10, 55, 27, 28, 29, 30, 56, 57, 58, 111, 112, 113, 114, 115, 116, 117, 118, 119, 120, 121, 122, 123, 124, 125, 126, 127, 128, 129, 130, 131, 132, 133] (by decide +kernel) (by decide +kernel)
set_option maxRecDepth 20000 in
theorem gX8_advance_X8_limitFlows : GoodIn wsX8_advance (wsV RX8 28 RX8 yX8_limitFlows wsX8_limitFlows) := goodIn_app (goodIn_of _ (by decide +kernel)) ggX8_advance_X8_limitFlows
set_option maxRecDepth 20000 in
theorem ggX8_advance_X8_moveWater : GoodIn wsX8_advance wsX8_moveWater := goodIn_r _ [62, 6, 2, 3, 4, 5, 1, 12, 13, 14, 15, 16, 17, 18, 27, 28, 29, 30, 115, 116, 117, 118, 119, 120, 121, 122, 123, 124, 125, 126, 127, 128, 129, 130, 131, 132, 133, 111, 112, 113, 114] (by decide +kernel) (by decide +kernel)
set_option maxRecDepth 20000 in
theorem gX8_advance_X8_moveWater : GoodIn wsX8_advance (wsV RX8 31 RX8 yX8_moveWater wsX8_moveWater) := goodIn_app (goodIn_of _ (by decide +kernel)) ggX8_advance_X8_moveWater
set_option maxRecDepth 20000 in
theorem ggX8_advance_X8_addRivers : GoodIn wsX8_advance wsX8_addRivers := goodIn_r _ [66, 6, 115, 116, 117, 118, 119, 120, 121, 122, 123, 124, 125, 126, 127, 128, 129, 130, 131, 132, 133, 138, 139, 140, 111, 112, 113, 114] (by decide +kernel) (by decide +kernel)
set_option maxRecDepth 20000 in
theorem gX8_advance_X8_addRivers : GoodIn wsX8_advance (wsV RX8 34 RX8 yX8_addRivers wsX8_addRivers) := goodIn_app (goodIn_of _ (by decide +kernel)) ggX8_advance_X8_addRivers
set_option maxRecDepth 20000 in
theorem ggX8_advance_X8_tooMuch : GoodIn wsX8_advance wsX8_tooMuch := goodIn_r _ [70, 6, 71, 12, 13, 14, 15, 16, 17, 18, 111, 112, 113, 114, 115, 116, 117, 118, 119, 120, 121, 122, 123, 124, 125, 126, 127, 128, 129, 130, 131, 132, 133] (by decide +kernel) (by decide +kernel)
set_option maxRecDepth 20000 in
theorem gX8_advance_X8_tooMuch : GoodIn wsX8_advance (wsV RX8 38 RX8 yX8_tooMuch wsX8_tooMuch) := goodIn_app (goodIn_of _ (by decide +kernel)) ggX8_advance_X8_tooMuch
set_option maxRecDepth 20000 in
theorem ggX8_advance_X8_carryStuff : GoodIn wsX8_advance wsX8_carryStuff := goodIn_r _ [75, 76, 2, 3, 4, 5, 1, 48, 49, 50, 51, 12, 13, 14, 15, 16, 17, 18, 52, 53, 54, 10, 55, 27, 28, 29, 30, 56, 57, 58, 115, 116, 117, 118, 119, 120, 121, 122, 123, 124, 125, 126, 127, 128, 129, 130, 131, 132, 133, 111, 112, 113, 114] (by decide +kernel) (by decide +kernel)
set_option maxRecDepth 20000 in
theorem gX8_advance_X8_carryStuff : GoodIn wsX8_advance (wsV RX8 42 RX8 yX8_carryStuff wsX8_carryStuff) := goodIn_app (goodIn_of _ (by decide +kernel)) ggX8_advance_X8_carryStuff
set_option maxRecDepth 20000 in
theorem ggX8_advance_X0_cells : GoodIn wsX8_advance wsX0_cells := goodIn_r _ [16, 17, 18, 115, 116, 117, 118, 119, 120, 121, 122, 123, 124, 125, 126, 127, 128, 129, 130, 131, 132, 133] (by decide +kernel) (by decide +kernel)
set_option maxRecDepth 20000 in
theorem gX8_advance_X0_cells : GoodIn wsX8_advance (wsV RX8 49 RX0 yX0_cells wsX0_cells) := goodIn_app (goodIn_of _ (by decide +kernel)) ggX8_advance_X0_cells
set_option maxRecDepth 20000 in
theorem ggX8_advance_X0_hasTide : GoodIn wsX8_advance wsX0_hasTide := goodIn_r _ [80, 81, 82, 83, 84, 15, 85, 41, 86, 87, 88, 89, 90, 91, 115, 116, 117, 118, 119, 120, 121, 122, 123, 124, 125, 126, 127, 128, 129, 130, 131, 132, 133, 141, 142] (by decide +kernel) (by decide +kernel)
set_option maxRecDepth 20000 in
theorem gX8_advance_X0_hasTide : GoodIn wsX8_advance (wsV RX8 64 RX0 yX0_hasTide wsX0_hasTide) := goodIn_app (goodIn_of _ (by decide +kernel)) ggX8_advance_X0_hasTide
set_option maxRecDepth 20000 in
theorem ggX8_advance_X0_tideLevel : GoodIn wsX8_advance wsX0_tideLevel := goodIn_r _ [95, 96, 81, 97, 98, 99, 100, 101, 115, 116, 117, 118, 119, 120, 121, 122, 123, 124, 125, 126, 127, 128, 129, 130, 131, 132, 133, 141, 142] (by decide +kernel) (by decide +kernel)
set_option maxRecDepth 20000 in
theorem gX8_advance_X0_tideLevel : GoodIn wsX8_advance (wsV RX8 68 RX0 yX0_tideLevel wsX0_tideLevel) := goodIn_app (goodIn_of _ (by decide +kernel)) ggX8_advance_X0_tideLevel
set_option maxRecDepth 20000 in
theorem ggX8_advance_X8_leadRim : GoodIn wsX8_advance wsX8_leadRim := goodIn_r _ [104, 71, 105, 106, 50, 107, 108, 109, 110, 115, 116, 117, 118, 119, 120, 121, 122, 123, 124, 125, 126, 127, 128, 129, 130, 131, 132, 133] (by decide +kernel) (by decide +kernel)
set_option maxRecDepth 20000 in
theorem gX8_advance_X8_leadRim : GoodIn wsX8_advance (va_wsS RX8 72 yX8_leadRim wsX8_leadRim) := goodIn_app (goodIn_of _ (by decide +kernel)) ggX8_advance_X8_leadRim
theorem dX8_advance_0 : decode cX8_advance 0 = .ok (.aload_n 0, 1) := by decide +kernel
theorem dX8_advance_1 : decode cX8_advance 1 = .ok (.aload_n 1, 1) := by decide +kernel
theorem dX8_advance_2 : decode cX8_advance 2 = .ok (.invokevirtual 24, 3) := by decide +kernel
theorem dX8_advance_5 : decode cX8_advance 5 = .ok (.aload_n 0, 1) := by decide +kernel
theorem dX8_advance_6 : decode cX8_advance 6 = .ok (.aload_n 1, 1) := by decide +kernel
theorem dX8_advance_7 : decode cX8_advance 7 = .ok (.invokevirtual 28, 3) := by decide +kernel
theorem dX8_advance_10 : decode cX8_advance 10 = .ok (.aload_n 0, 1) := by decide +kernel
theorem dX8_advance_11 : decode cX8_advance 11 = .ok (.aload_n 1, 1) := by decide +kernel
theorem dX8_advance_12 : decode cX8_advance 12 = .ok (.invokevirtual 31, 3) := by decide +kernel
theorem dX8_advance_15 : decode cX8_advance 15 = .ok (.aload_n 0, 1) := by decide +kernel
theorem dX8_advance_16 : decode cX8_advance 16 = .ok (.aload_n 1, 1) := by decide +kernel
theorem dX8_advance_17 : decode cX8_advance 17 = .ok (.invokevirtual 34, 3) := by decide +kernel
theorem dX8_advance_20 : decode cX8_advance 20 = .ok (.istore_n 3, 1) := by decide +kernel
theorem dX8_advance_21 : decode cX8_advance 21 = .ok (.aload_n 0, 1) := by decide +kernel
theorem dX8_advance_22 : decode cX8_advance 22 = .ok (.aload_n 1, 1) := by decide +kernel
theorem dX8_advance_23 : decode cX8_advance 23 = .ok (.invokevirtual 38, 3) := by decide +kernel
theorem dX8_advance_26 : decode cX8_advance 26 = .ok (.ifCond .eq 5, 3) := by decide +kernel
theorem dX8_advance_29 : decode cX8_advance 29 = .ok (.iconst 0, 1) := by decide +kernel
theorem dX8_advance_30 : decode cX8_advance 30 = .ok (.ireturn, 1) := by decide +kernel
theorem dX8_advance_31 : decode cX8_advance 31 = .ok (.iconst 0, 1) := by decide +kernel
theorem dX8_advance_32 : decode cX8_advance 32 = .ok (.istore 4, 2) := by decide +kernel
theorem dX8_advance_34 : decode cX8_advance 34 = .ok (.iload 4, 2) := by decide +kernel
theorem dX8_advance_36 : decode cX8_advance 36 = .ok (.iconst 3, 1) := by decide +kernel
theorem dX8_advance_37 : decode cX8_advance 37 = .ok (.if_icmp .ge 19, 3) := by decide +kernel
theorem dX8_advance_40 : decode cX8_advance 40 = .ok (.aload_n 0, 1) := by decide +kernel
theorem dX8_advance_41 : decode cX8_advance 41 = .ok (.aload_n 1, 1) := by decide +kernel
theorem dX8_advance_42 : decode cX8_advance 42 = .ok (.iload 4, 2) := by decide +kernel
theorem dX8_advance_44 : decode cX8_advance 44 = .ok (.bipush 48, 2) := by decide +kernel
theorem dX8_advance_46 : decode cX8_advance 46 = .ok (.imul, 1) := by decide +kernel
theorem dX8_advance_47 : decode cX8_advance 47 = .ok (.invokevirtual 42, 3) := by decide +kernel
theorem dX8_advance_50 : decode cX8_advance 50 = .ok (.iinc 4 1, 3) := by decide +kernel
theorem dX8_advance_53 : decode cX8_advance 53 = .ok (.goto (-19), 3) := by decide +kernel
theorem dX8_advance_56 : decode cX8_advance 56 = .ok (.aload_n 0, 1) := by decide +kernel
theorem dX8_advance_57 : decode cX8_advance 57 = .ok (.getfield 9, 3) := by decide +kernel
theorem dX8_advance_60 : decode cX8_advance 60 = .ok (.iconst 0, 1) := by decide +kernel
theorem dX8_advance_61 : decode cX8_advance 61 = .ok (.aload_n 1, 1) := by decide +kernel
theorem dX8_advance_62 : decode cX8_advance 62 = .ok (.getfield 46, 3) := by decide +kernel
theorem dX8_advance_65 : decode cX8_advance 65 = .ok (.iconst 0, 1) := by decide +kernel
theorem dX8_advance_66 : decode cX8_advance 66 = .ok (.iconst 2, 1) := by decide +kernel
theorem dX8_advance_67 : decode cX8_advance 67 = .ok (.aload_n 1, 1) := by decide +kernel
theorem dX8_advance_68 : decode cX8_advance 68 = .ok (.invokevirtual 49, 3) := by decide +kernel
theorem dX8_advance_71 : decode cX8_advance 71 = .ok (.imul, 1) := by decide +kernel
theorem dX8_advance_72 : decode cX8_advance 72 = .ok (.invokestatic 53, 3) := by decide +kernel
theorem dX8_advance_75 : decode cX8_advance 75 = .ok (.aload_n 0, 1) := by decide +kernel
theorem dX8_advance_76 : decode cX8_advance 76 = .ok (.getfield 18, 3) := by decide +kernel
theorem dX8_advance_79 : decode cX8_advance 79 = .ok (.iconst 0, 1) := by decide +kernel
theorem dX8_advance_80 : decode cX8_advance 80 = .ok (.aload_n 1, 1) := by decide +kernel
theorem dX8_advance_81 : decode cX8_advance 81 = .ok (.getfield 59, 3) := by decide +kernel
theorem dX8_advance_84 : decode cX8_advance 84 = .ok (.iconst 0, 1) := by decide +kernel
theorem dX8_advance_85 : decode cX8_advance 85 = .ok (.aload_n 1, 1) := by decide +kernel
theorem dX8_advance_86 : decode cX8_advance 86 = .ok (.invokevirtual 49, 3) := by decide +kernel
theorem dX8_advance_89 : decode cX8_advance 89 = .ok (.invokestatic 53, 3) := by decide +kernel
theorem dX8_advance_92 : decode cX8_advance 92 = .ok (.aload_n 1, 1) := by decide +kernel
theorem dX8_advance_93 : decode cX8_advance 93 = .ok (.dup, 1) := by decide +kernel
theorem dX8_advance_94 : decode cX8_advance 94 = .ok (.getfield 60, 3) := by decide +kernel
theorem dX8_advance_97 : decode cX8_advance 97 = .ok (.iload_n 3, 1) := by decide +kernel
theorem dX8_advance_98 : decode cX8_advance 98 = .ok (.iadd, 1) := by decide +kernel
theorem dX8_advance_99 : decode cX8_advance 99 = .ok (.putfield 60, 3) := by decide +kernel
theorem dX8_advance_102 : decode cX8_advance 102 = .ok (.aload_n 1, 1) := by decide +kernel
theorem dX8_advance_103 : decode cX8_advance 103 = .ok (.aload_n 2, 1) := by decide +kernel
theorem dX8_advance_104 : decode cX8_advance 104 = .ok (.invokevirtual 64, 3) := by decide +kernel
theorem dX8_advance_107 : decode cX8_advance 107 = .ok (.ifCond .eq 12, 3) := by decide +kernel
theorem dX8_advance_110 : decode cX8_advance 110 = .ok (.aload_n 1, 1) := by decide +kernel
theorem dX8_advance_111 : decode cX8_advance 111 = .ok (.aload_n 1, 1) := by decide +kernel
theorem dX8_advance_112 : decode cX8_advance 112 = .ok (.aload_n 2, 1) := by decide +kernel
theorem dX8_advance_113 : decode cX8_advance 113 = .ok (.invokevirtual 68, 3) := by decide +kernel
theorem dX8_advance_116 : decode cX8_advance 116 = .ok (.invokestatic 72, 3) := by decide +kernel
theorem dX8_advance_119 : decode cX8_advance 119 = .ok (.aload_n 1, 1) := by decide +kernel
theorem dX8_advance_120 : decode cX8_advance 120 = .ok (.dup, 1) := by decide +kernel
theorem dX8_advance_121 : decode cX8_advance 121 = .ok (.getfield 75, 3) := by decide +kernel
theorem dX8_advance_124 : decode cX8_advance 124 = .ok (.iconst 1, 1) := by decide +kernel
theorem dX8_advance_125 : decode cX8_advance 125 = .ok (.iadd, 1) := by decide +kernel
theorem dX8_advance_126 : decode cX8_advance 126 = .ok (.putfield 75, 3) := by decide +kernel
theorem dX8_advance_129 : decode cX8_advance 129 = .ok (.iconst 1, 1) := by decide +kernel
theorem dX8_advance_130 : decode cX8_advance 130 = .ok (.ireturn, 1) := by decide +kernel
set_option maxRecDepth 20000 in
theorem ggX8_pushFlows_X0_cells : GoodIn wsX8_pushFlows wsX0_cells := goodIn_r _ [6, 7, 8, 38, 39, 40, 41, 42, 43, 44, 45, 46, 47, 48, 49, 50, 51, 52, 53, 54, 55, 56] (by decide +kernel) (by decide +kernel)
set_option maxRecDepth 20000 in
theorem gX8_pushFlows_X0_cells : GoodIn wsX8_pushFlows (wsV RX8 49 RX0 yX0_cells wsX0_cells) := goodIn_app (goodIn_of _ (by decide +kernel)) ggX8_pushFlows_X0_cells
set_option maxRecDepth 20000 in
theorem ggX8_pushFlows_X0_hasSide : GoodIn wsX8_pushFlows wsX0_hasSide := goodIn_r _ [12, 7, 8, 38, 39, 40, 41, 42, 43, 44, 45, 46, 47, 48, 49, 50, 51, 52, 53, 54, 55, 56] (by decide +kernel) (by decide +kernel)
set_option maxRecDepth 20000 in
theorem gX8_pushFlows_X0_hasSide : GoodIn wsX8_pushFlows (wsV RX8 78 RX0 yX0_hasSide wsX0_hasSide) := goodIn_app (goodIn_of _ (by decide +kernel)) ggX8_pushFlows_X0_hasSide
set_option maxRecDepth 20000 in
theorem ggX8_pushFlows_X8_pushed : GoodIn wsX8_pushFlows wsX8_pushed := goodIn_r _ [17, 18, 19, 20, 5, 21, 7, 22, 23, 24, 25, 26, 27, 28, 29, 30, 31, 32, 33, 38, 39, 40, 41, 42, 43, 44, 45, 46, 47, 48, 49, 50, 51, 52, 53, 54, 55, 56, 57, 58, 59, 60] (by decide +kernel) (by decide +kernel)
set_option maxRecDepth 20000 in
theorem gX8_pushFlows_X8_pushed : GoodIn wsX8_pushFlows (wsV RX8 86 RX8 yX8_pushed wsX8_pushed) := goodIn_app (goodIn_of _ (by decide +kernel)) ggX8_pushFlows_X8_pushed
theorem dX8_pushFlows_0 : decode cX8_pushFlows 0 = .ok (.iconst 0, 1) := by decide +kernel
theorem dX8_pushFlows_1 : decode cX8_pushFlows 1 = .ok (.istore_n 2, 1) := by decide +kernel
theorem dX8_pushFlows_2 : decode cX8_pushFlows 2 = .ok (.iload_n 2, 1) := by decide +kernel
theorem dX8_pushFlows_3 : decode cX8_pushFlows 3 = .ok (.iconst 2, 1) := by decide +kernel
theorem dX8_pushFlows_4 : decode cX8_pushFlows 4 = .ok (.aload_n 1, 1) := by decide +kernel
theorem dX8_pushFlows_5 : decode cX8_pushFlows 5 = .ok (.invokevirtual 49, 3) := by decide +kernel
theorem dX8_pushFlows_8 : decode cX8_pushFlows 8 = .ok (.imul, 1) := by decide +kernel
theorem dX8_pushFlows_9 : decode cX8_pushFlows 9 = .ok (.if_icmp .ge 42, 3) := by decide +kernel
theorem dX8_pushFlows_12 : decode cX8_pushFlows 12 = .ok (.aload_n 0, 1) := by decide +kernel
theorem dX8_pushFlows_13 : decode cX8_pushFlows 13 = .ok (.getfield 9, 3) := by decide +kernel
theorem dX8_pushFlows_16 : decode cX8_pushFlows 16 = .ok (.iload_n 2, 1) := by decide +kernel
theorem dX8_pushFlows_17 : decode cX8_pushFlows 17 = .ok (.aload_n 1, 1) := by decide +kernel
theorem dX8_pushFlows_18 : decode cX8_pushFlows 18 = .ok (.iload_n 2, 1) := by decide +kernel
theorem dX8_pushFlows_19 : decode cX8_pushFlows 19 = .ok (.invokevirtual 78, 3) := by decide +kernel
theorem dX8_pushFlows_22 : decode cX8_pushFlows 22 = .ok (.ifCond .eq 21, 3) := by decide +kernel
theorem dX8_pushFlows_25 : decode cX8_pushFlows 25 = .ok (.aload_n 1, 1) := by decide +kernel
theorem dX8_pushFlows_26 : decode cX8_pushFlows 26 = .ok (.getfield 82, 3) := by decide +kernel
theorem dX8_pushFlows_29 : decode cX8_pushFlows 29 = .ok (.iload_n 2, 1) := by decide +kernel
theorem dX8_pushFlows_30 : decode cX8_pushFlows 30 = .ok (.baload, 1) := by decide +kernel
theorem dX8_pushFlows_31 : decode cX8_pushFlows 31 = .ok (.ifCond .ne 12, 3) := by decide +kernel
theorem dX8_pushFlows_34 : decode cX8_pushFlows 34 = .ok (.aload_n 0, 1) := by decide +kernel
theorem dX8_pushFlows_35 : decode cX8_pushFlows 35 = .ok (.aload_n 1, 1) := by decide +kernel
theorem dX8_pushFlows_36 : decode cX8_pushFlows 36 = .ok (.iload_n 2, 1) := by decide +kernel
theorem dX8_pushFlows_37 : decode cX8_pushFlows 37 = .ok (.invokevirtual 86, 3) := by decide +kernel
theorem dX8_pushFlows_40 : decode cX8_pushFlows 40 = .ok (.goto 4, 3) := by decide +kernel
theorem dX8_pushFlows_43 : decode cX8_pushFlows 43 = .ok (.iconst 0, 1) := by decide +kernel
theorem dX8_pushFlows_44 : decode cX8_pushFlows 44 = .ok (.iastore, 1) := by decide +kernel
theorem dX8_pushFlows_45 : decode cX8_pushFlows 45 = .ok (.iinc 2 1, 3) := by decide +kernel
theorem dX8_pushFlows_48 : decode cX8_pushFlows 48 = .ok (.goto (-46), 3) := by decide +kernel
theorem dX8_pushFlows_51 : decode cX8_pushFlows 51 = .ok (.return_, 1) := by decide +kernel
set_option maxRecDepth 20000 in
theorem ggX8_pushed_X0_farCell : GoodIn wsX8_pushed wsX0_farCell := goodIn_r _ [5, 6, 19, 20, 21, 22, 23, 24, 25, 26, 27, 28, 29, 30, 31, 32, 33, 34, 35, 36, 37] (by decide +kernel) (by decide +kernel)
set_option maxRecDepth 20000 in
theorem gX8_pushed_X0_farCell : GoodIn wsX8_pushed (wsV RX8 90 RX0 yX0_farCell wsX0_farCell) := goodIn_app (goodIn_of _ (by decide +kernel)) ggX8_pushed_X0_farCell
set_option maxRecDepth 20000 in
theorem ggX8_pushed_X0_level : GoodIn wsX8_pushed wsX0_level := goodIn_r _ [10, 11, 12, 19, 20, 21, 22, 23, 24, 25, 26, 27, 28, 29, 30, 31, 32, 33, 34, 35, 36, 37] (by decide +kernel) (by decide +kernel)
set_option maxRecDepth 20000 in
theorem gX8_pushed_X0_level : GoodIn wsX8_pushed (wsV RX8 94 RX0 yX0_level wsX0_level) := goodIn_app (goodIn_of _ (by decide +kernel)) ggX8_pushed_X0_level
set_option maxRecDepth 20000 in
theorem ggX8_pushed_X0_windAt : GoodIn wsX8_pushed wsX0_windAt := goodIn_r _ [16, 17, 18, 19, 20, 21, 22, 23, 24, 25, 26, 27, 28, 29, 30, 31, 32, 33, 34, 35, 36, 37, 38, 39, 40, 41] (by decide +kernel) (by decide +kernel)
set_option maxRecDepth 20000 in
theorem gX8_pushed_X0_windAt : GoodIn wsX8_pushed (wsV RX8 106 RX0 yX0_windAt wsX0_windAt) := goodIn_app (goodIn_of _ (by decide +kernel)) ggX8_pushed_X0_windAt
theorem dX8_pushed_0 : decode cX8_pushed 0 = .ok (.iload_n 2, 1) := by decide +kernel
theorem dX8_pushed_1 : decode cX8_pushed 1 = .ok (.iconst 2, 1) := by decide +kernel
theorem dX8_pushed_2 : decode cX8_pushed 2 = .ok (.idiv, 1) := by decide +kernel
theorem dX8_pushed_3 : decode cX8_pushed 3 = .ok (.istore_n 3, 1) := by decide +kernel
theorem dX8_pushed_4 : decode cX8_pushed 4 = .ok (.aload_n 1, 1) := by decide +kernel
theorem dX8_pushed_5 : decode cX8_pushed 5 = .ok (.iload_n 2, 1) := by decide +kernel
theorem dX8_pushed_6 : decode cX8_pushed 6 = .ok (.invokevirtual 90, 3) := by decide +kernel
theorem dX8_pushed_9 : decode cX8_pushed 9 = .ok (.istore 4, 2) := by decide +kernel
theorem dX8_pushed_11 : decode cX8_pushed 11 = .ok (.aload_n 1, 1) := by decide +kernel
theorem dX8_pushed_12 : decode cX8_pushed 12 = .ok (.iload_n 3, 1) := by decide +kernel
theorem dX8_pushed_13 : decode cX8_pushed 13 = .ok (.invokevirtual 94, 3) := by decide +kernel
theorem dX8_pushed_16 : decode cX8_pushed 16 = .ok (.istore 5, 2) := by decide +kernel
theorem dX8_pushed_18 : decode cX8_pushed 18 = .ok (.aload_n 1, 1) := by decide +kernel
theorem dX8_pushed_19 : decode cX8_pushed 19 = .ok (.iload 4, 2) := by decide +kernel
theorem dX8_pushed_21 : decode cX8_pushed 21 = .ok (.invokevirtual 94, 3) := by decide +kernel
theorem dX8_pushed_24 : decode cX8_pushed 24 = .ok (.istore 6, 2) := by decide +kernel
theorem dX8_pushed_26 : decode cX8_pushed 26 = .ok (.aload_n 1, 1) := by decide +kernel
theorem dX8_pushed_27 : decode cX8_pushed 27 = .ok (.getfield 46, 3) := by decide +kernel
theorem dX8_pushed_30 : decode cX8_pushed 30 = .ok (.iload_n 2, 1) := by decide +kernel
theorem dX8_pushed_31 : decode cX8_pushed 31 = .ok (.iaload, 1) := by decide +kernel
theorem dX8_pushed_32 : decode cX8_pushed 32 = .ok (.aload_n 1, 1) := by decide +kernel
theorem dX8_pushed_33 : decode cX8_pushed 33 = .ok (.getfield 97, 3) := by decide +kernel
theorem dX8_pushed_36 : decode cX8_pushed 36 = .ok (.getfield 101, 3) := by decide +kernel
theorem dX8_pushed_39 : decode cX8_pushed 39 = .ok (.iload 5, 2) := by decide +kernel
theorem dX8_pushed_41 : decode cX8_pushed 41 = .ok (.iload 6, 2) := by decide +kernel
theorem dX8_pushed_43 : decode cX8_pushed 43 = .ok (.isub, 1) := by decide +kernel
theorem dX8_pushed_44 : decode cX8_pushed 44 = .ok (.imul, 1) := by decide +kernel
theorem dX8_pushed_45 : decode cX8_pushed 45 = .ok (.bipush 8, 2) := by decide +kernel
theorem dX8_pushed_47 : decode cX8_pushed 47 = .ok (.idiv, 1) := by decide +kernel
theorem dX8_pushed_48 : decode cX8_pushed 48 = .ok (.iadd, 1) := by decide +kernel
theorem dX8_pushed_49 : decode cX8_pushed 49 = .ok (.aload_n 1, 1) := by decide +kernel
theorem dX8_pushed_50 : decode cX8_pushed 50 = .ok (.iload_n 2, 1) := by decide +kernel
theorem dX8_pushed_51 : decode cX8_pushed 51 = .ok (.invokevirtual 106, 3) := by decide +kernel
theorem dX8_pushed_54 : decode cX8_pushed 54 = .ok (.iadd, 1) := by decide +kernel
theorem dX8_pushed_55 : decode cX8_pushed 55 = .ok (.istore 7, 2) := by decide +kernel
theorem dX8_pushed_57 : decode cX8_pushed 57 = .ok (.aload_n 1, 1) := by decide +kernel
theorem dX8_pushed_58 : decode cX8_pushed 58 = .ok (.getfield 97, 3) := by decide +kernel
theorem dX8_pushed_61 : decode cX8_pushed 61 = .ok (.getfield 109, 3) := by decide +kernel
theorem dX8_pushed_64 : decode cX8_pushed 64 = .ok (.ifCond .le 18, 3) := by decide +kernel
theorem dX8_pushed_67 : decode cX8_pushed 67 = .ok (.iload 7, 2) := by decide +kernel
theorem dX8_pushed_69 : decode cX8_pushed 69 = .ok (.iload 7, 2) := by decide +kernel
theorem dX8_pushed_71 : decode cX8_pushed 71 = .ok (.aload_n 1, 1) := by decide +kernel
theorem dX8_pushed_72 : decode cX8_pushed 72 = .ok (.getfield 97, 3) := by decide +kernel
theorem dX8_pushed_75 : decode cX8_pushed 75 = .ok (.getfield 109, 3) := by decide +kernel
theorem dX8_pushed_78 : decode cX8_pushed 78 = .ok (.idiv, 1) := by decide +kernel
theorem dX8_pushed_79 : decode cX8_pushed 79 = .ok (.isub, 1) := by decide +kernel
theorem dX8_pushed_80 : decode cX8_pushed 80 = .ok (.istore 7, 2) := by decide +kernel
theorem dX8_pushed_82 : decode cX8_pushed 82 = .ok (.iload 7, 2) := by decide +kernel
theorem dX8_pushed_84 : decode cX8_pushed 84 = .ok (.ifCond .le 26, 3) := by decide +kernel
theorem dX8_pushed_87 : decode cX8_pushed 87 = .ok (.aload_n 1, 1) := by decide +kernel
theorem dX8_pushed_88 : decode cX8_pushed 88 = .ok (.getfield 59, 3) := by decide +kernel
theorem dX8_pushed_91 : decode cX8_pushed 91 = .ok (.iload_n 3, 1) := by decide +kernel
theorem dX8_pushed_92 : decode cX8_pushed 92 = .ok (.iaload, 1) := by decide +kernel
theorem dX8_pushed_93 : decode cX8_pushed 93 = .ok (.ifCond .eq 15, 3) := by decide +kernel
theorem dX8_pushed_96 : decode cX8_pushed 96 = .ok (.aload_n 1, 1) := by decide +kernel
theorem dX8_pushed_97 : decode cX8_pushed 97 = .ok (.getfield 112, 3) := by decide +kernel
theorem dX8_pushed_100 : decode cX8_pushed 100 = .ok (.iload 4, 2) := by decide +kernel
theorem dX8_pushed_102 : decode cX8_pushed 102 = .ok (.iaload, 1) := by decide +kernel
theorem dX8_pushed_103 : decode cX8_pushed 103 = .ok (.iload 5, 2) := by decide +kernel
theorem dX8_pushed_105 : decode cX8_pushed 105 = .ok (.if_icmp .lt 5, 3) := by decide +kernel
theorem dX8_pushed_108 : decode cX8_pushed 108 = .ok (.iconst 0, 1) := by decide +kernel
theorem dX8_pushed_109 : decode cX8_pushed 109 = .ok (.ireturn, 1) := by decide +kernel
theorem dX8_pushed_110 : decode cX8_pushed 110 = .ok (.iload 7, 2) := by decide +kernel
theorem dX8_pushed_112 : decode cX8_pushed 112 = .ok (.ifCond .ge 26, 3) := by decide +kernel
theorem dX8_pushed_115 : decode cX8_pushed 115 = .ok (.aload_n 1, 1) := by decide +kernel
theorem dX8_pushed_116 : decode cX8_pushed 116 = .ok (.getfield 59, 3) := by decide +kernel
theorem dX8_pushed_119 : decode cX8_pushed 119 = .ok (.iload 4, 2) := by decide +kernel
theorem dX8_pushed_121 : decode cX8_pushed 121 = .ok (.iaload, 1) := by decide +kernel
theorem dX8_pushed_122 : decode cX8_pushed 122 = .ok (.ifCond .eq 14, 3) := by decide +kernel
theorem dX8_pushed_125 : decode cX8_pushed 125 = .ok (.aload_n 1, 1) := by decide +kernel
theorem dX8_pushed_126 : decode cX8_pushed 126 = .ok (.getfield 112, 3) := by decide +kernel
theorem dX8_pushed_129 : decode cX8_pushed 129 = .ok (.iload_n 3, 1) := by decide +kernel
theorem dX8_pushed_130 : decode cX8_pushed 130 = .ok (.iaload, 1) := by decide +kernel
theorem dX8_pushed_131 : decode cX8_pushed 131 = .ok (.iload 6, 2) := by decide +kernel
theorem dX8_pushed_133 : decode cX8_pushed 133 = .ok (.if_icmp .lt 5, 3) := by decide +kernel
theorem dX8_pushed_136 : decode cX8_pushed 136 = .ok (.iconst 0, 1) := by decide +kernel
theorem dX8_pushed_137 : decode cX8_pushed 137 = .ok (.ireturn, 1) := by decide +kernel
theorem dX8_pushed_138 : decode cX8_pushed 138 = .ok (.iload 7, 2) := by decide +kernel
theorem dX8_pushed_140 : decode cX8_pushed 140 = .ok (.ireturn, 1) := by decide +kernel
set_option maxRecDepth 20000 in
theorem ggX8_limitFlows_X0_cells : GoodIn wsX8_limitFlows wsX0_cells := goodIn_r _ [11, 12, 13, 30, 31, 32, 33, 34, 35, 36, 37, 38, 39, 40, 41, 42, 43, 44, 45, 46, 47, 48] (by decide +kernel) (by decide +kernel)
set_option maxRecDepth 20000 in
theorem gX8_limitFlows_X0_cells : GoodIn wsX8_limitFlows (wsV RX8 49 RX0 yX0_cells wsX0_cells) := goodIn_app (goodIn_of _ (by decide +kernel)) ggX8_limitFlows_X0_cells
set_option maxRecDepth 20000 in
theorem ggX8_limitFlows_X8_source : GoodIn wsX8_limitFlows wsX8_source := goodIn_r _ [18, 2, 19, 20, 21, 10, 22, 12, 26, 27, 28, 29, 30, 31, 32, 33, 34, 35, 36, 37, 38, 39, 40, 41, 42, 43, 44, 45, 46, 47, 48] (by decide +kernel) (by decide +kernel)
set_option maxRecDepth 20000 in
theorem gX8_limitFlows_X8_source : GoodIn wsX8_limitFlows (wsV RX8 115 RX8 yX8_source wsX8_source) := goodIn_app (goodIn_of _ (by decide +kernel)) ggX8_limitFlows_X8_source
set_option maxRecDepth 20000 in
theorem ggX8_limitFlows_X8_share : GoodIn wsX8_limitFlows wsX8_share := goodIn_r _ [25] (by decide +kernel) (by decide +kernel)
set_option maxRecDepth 20000 in
theorem gX8_limitFlows_X8_share : GoodIn wsX8_limitFlows (va_wsS RX8 123 yX8_share wsX8_share) := goodIn_app (goodIn_of _ (by decide +kernel)) ggX8_limitFlows_X8_share
theorem dX8_limitFlows_0 : decode cX8_limitFlows 0 = .ok (.iconst 0, 1) := by decide +kernel
theorem dX8_limitFlows_1 : decode cX8_limitFlows 1 = .ok (.istore_n 2, 1) := by decide +kernel
theorem dX8_limitFlows_2 : decode cX8_limitFlows 2 = .ok (.iload_n 2, 1) := by decide +kernel
theorem dX8_limitFlows_3 : decode cX8_limitFlows 3 = .ok (.aload_n 1, 1) := by decide +kernel
theorem dX8_limitFlows_4 : decode cX8_limitFlows 4 = .ok (.invokevirtual 49, 3) := by decide +kernel
theorem dX8_limitFlows_7 : decode cX8_limitFlows 7 = .ok (.if_icmp .ge 16, 3) := by decide +kernel
theorem dX8_limitFlows_10 : decode cX8_limitFlows 10 = .ok (.aload_n 0, 1) := by decide +kernel
theorem dX8_limitFlows_11 : decode cX8_limitFlows 11 = .ok (.getfield 15, 3) := by decide +kernel
theorem dX8_limitFlows_14 : decode cX8_limitFlows 14 = .ok (.iload_n 2, 1) := by decide +kernel
theorem dX8_limitFlows_15 : decode cX8_limitFlows 15 = .ok (.iconst 0, 1) := by decide +kernel
theorem dX8_limitFlows_16 : decode cX8_limitFlows 16 = .ok (.iastore, 1) := by decide +kernel
theorem dX8_limitFlows_17 : decode cX8_limitFlows 17 = .ok (.iinc 2 1, 3) := by decide +kernel
theorem dX8_limitFlows_20 : decode cX8_limitFlows 20 = .ok (.goto (-18), 3) := by decide +kernel
theorem dX8_limitFlows_23 : decode cX8_limitFlows 23 = .ok (.iconst 0, 1) := by decide +kernel
theorem dX8_limitFlows_24 : decode cX8_limitFlows 24 = .ok (.istore_n 2, 1) := by decide +kernel
theorem dX8_limitFlows_25 : decode cX8_limitFlows 25 = .ok (.iload_n 2, 1) := by decide +kernel
theorem dX8_limitFlows_26 : decode cX8_limitFlows 26 = .ok (.iconst 2, 1) := by decide +kernel
theorem dX8_limitFlows_27 : decode cX8_limitFlows 27 = .ok (.aload_n 1, 1) := by decide +kernel
theorem dX8_limitFlows_28 : decode cX8_limitFlows 28 = .ok (.invokevirtual 49, 3) := by decide +kernel
theorem dX8_limitFlows_31 : decode cX8_limitFlows 31 = .ok (.imul, 1) := by decide +kernel
theorem dX8_limitFlows_32 : decode cX8_limitFlows 32 = .ok (.if_icmp .ge 41, 3) := by decide +kernel
theorem dX8_limitFlows_35 : decode cX8_limitFlows 35 = .ok (.aload_n 0, 1) := by decide +kernel
theorem dX8_limitFlows_36 : decode cX8_limitFlows 36 = .ok (.getfield 9, 3) := by decide +kernel
theorem dX8_limitFlows_39 : decode cX8_limitFlows 39 = .ok (.iload_n 2, 1) := by decide +kernel
theorem dX8_limitFlows_40 : decode cX8_limitFlows 40 = .ok (.iaload, 1) := by decide +kernel
theorem dX8_limitFlows_41 : decode cX8_limitFlows 41 = .ok (.ifCond .eq 26, 3) := by decide +kernel
theorem dX8_limitFlows_44 : decode cX8_limitFlows 44 = .ok (.aload_n 0, 1) := by decide +kernel
theorem dX8_limitFlows_45 : decode cX8_limitFlows 45 = .ok (.getfield 15, 3) := by decide +kernel
theorem dX8_limitFlows_48 : decode cX8_limitFlows 48 = .ok (.aload_n 0, 1) := by decide +kernel
theorem dX8_limitFlows_49 : decode cX8_limitFlows 49 = .ok (.aload_n 1, 1) := by decide +kernel
theorem dX8_limitFlows_50 : decode cX8_limitFlows 50 = .ok (.iload_n 2, 1) := by decide +kernel
theorem dX8_limitFlows_51 : decode cX8_limitFlows 51 = .ok (.invokevirtual 115, 3) := by decide +kernel
theorem dX8_limitFlows_54 : decode cX8_limitFlows 54 = .ok (.dup2, 1) := by decide +kernel
theorem dX8_limitFlows_55 : decode cX8_limitFlows 55 = .ok (.iaload, 1) := by decide +kernel
theorem dX8_limitFlows_56 : decode cX8_limitFlows 56 = .ok (.aload_n 0, 1) := by decide +kernel
theorem dX8_limitFlows_57 : decode cX8_limitFlows 57 = .ok (.getfield 9, 3) := by decide +kernel
theorem dX8_limitFlows_60 : decode cX8_limitFlows 60 = .ok (.iload_n 2, 1) := by decide +kernel
theorem dX8_limitFlows_61 : decode cX8_limitFlows 61 = .ok (.iaload, 1) := by decide +kernel
theorem dX8_limitFlows_62 : decode cX8_limitFlows 62 = .ok (.invokestatic 118, 3) := by decide +kernel
theorem dX8_limitFlows_65 : decode cX8_limitFlows 65 = .ok (.iadd, 1) := by decide +kernel
theorem dX8_limitFlows_66 : decode cX8_limitFlows 66 = .ok (.iastore, 1) := by decide +kernel
theorem dX8_limitFlows_67 : decode cX8_limitFlows 67 = .ok (.iinc 2 1, 3) := by decide +kernel
theorem dX8_limitFlows_70 : decode cX8_limitFlows 70 = .ok (.goto (-45), 3) := by decide +kernel
theorem dX8_limitFlows_73 : decode cX8_limitFlows 73 = .ok (.iconst 0, 1) := by decide +kernel
theorem dX8_limitFlows_74 : decode cX8_limitFlows 74 = .ok (.istore_n 2, 1) := by decide +kernel
theorem dX8_limitFlows_75 : decode cX8_limitFlows 75 = .ok (.iload_n 2, 1) := by decide +kernel
theorem dX8_limitFlows_76 : decode cX8_limitFlows 76 = .ok (.iconst 2, 1) := by decide +kernel
theorem dX8_limitFlows_77 : decode cX8_limitFlows 77 = .ok (.aload_n 1, 1) := by decide +kernel
theorem dX8_limitFlows_78 : decode cX8_limitFlows 78 = .ok (.invokevirtual 49, 3) := by decide +kernel
theorem dX8_limitFlows_81 : decode cX8_limitFlows 81 = .ok (.imul, 1) := by decide +kernel
theorem dX8_limitFlows_82 : decode cX8_limitFlows 82 = .ok (.if_icmp .ge 70, 3) := by decide +kernel
theorem dX8_limitFlows_85 : decode cX8_limitFlows 85 = .ok (.aload_n 0, 1) := by decide +kernel
theorem dX8_limitFlows_86 : decode cX8_limitFlows 86 = .ok (.getfield 9, 3) := by decide +kernel
theorem dX8_limitFlows_89 : decode cX8_limitFlows 89 = .ok (.iload_n 2, 1) := by decide +kernel
theorem dX8_limitFlows_90 : decode cX8_limitFlows 90 = .ok (.iaload, 1) := by decide +kernel
theorem dX8_limitFlows_91 : decode cX8_limitFlows 91 = .ok (.ifCond .ne 6, 3) := by decide +kernel
theorem dX8_limitFlows_94 : decode cX8_limitFlows 94 = .ok (.goto 52, 3) := by decide +kernel
theorem dX8_limitFlows_97 : decode cX8_limitFlows 97 = .ok (.aload_n 0, 1) := by decide +kernel
theorem dX8_limitFlows_98 : decode cX8_limitFlows 98 = .ok (.aload_n 1, 1) := by decide +kernel
theorem dX8_limitFlows_99 : decode cX8_limitFlows 99 = .ok (.iload_n 2, 1) := by decide +kernel
theorem dX8_limitFlows_100 : decode cX8_limitFlows 100 = .ok (.invokevirtual 115, 3) := by decide +kernel
theorem dX8_limitFlows_103 : decode cX8_limitFlows 103 = .ok (.istore_n 3, 1) := by decide +kernel
theorem dX8_limitFlows_104 : decode cX8_limitFlows 104 = .ok (.aload_n 0, 1) := by decide +kernel
theorem dX8_limitFlows_105 : decode cX8_limitFlows 105 = .ok (.getfield 15, 3) := by decide +kernel
theorem dX8_limitFlows_108 : decode cX8_limitFlows 108 = .ok (.iload_n 3, 1) := by decide +kernel
theorem dX8_limitFlows_109 : decode cX8_limitFlows 109 = .ok (.iaload, 1) := by decide +kernel
theorem dX8_limitFlows_110 : decode cX8_limitFlows 110 = .ok (.aload_n 1, 1) := by decide +kernel
theorem dX8_limitFlows_111 : decode cX8_limitFlows 111 = .ok (.getfield 59, 3) := by decide +kernel
theorem dX8_limitFlows_114 : decode cX8_limitFlows 114 = .ok (.iload_n 3, 1) := by decide +kernel
theorem dX8_limitFlows_115 : decode cX8_limitFlows 115 = .ok (.iaload, 1) := by decide +kernel
theorem dX8_limitFlows_116 : decode cX8_limitFlows 116 = .ok (.if_icmp .le 30, 3) := by decide +kernel
theorem dX8_limitFlows_119 : decode cX8_limitFlows 119 = .ok (.aload_n 0, 1) := by decide +kernel
theorem dX8_limitFlows_120 : decode cX8_limitFlows 120 = .ok (.getfield 9, 3) := by decide +kernel
theorem dX8_limitFlows_123 : decode cX8_limitFlows 123 = .ok (.iload_n 2, 1) := by decide +kernel
theorem dX8_limitFlows_124 : decode cX8_limitFlows 124 = .ok (.aload_n 0, 1) := by decide +kernel
theorem dX8_limitFlows_125 : decode cX8_limitFlows 125 = .ok (.getfield 9, 3) := by decide +kernel
theorem dX8_limitFlows_128 : decode cX8_limitFlows 128 = .ok (.iload_n 2, 1) := by decide +kernel
theorem dX8_limitFlows_129 : decode cX8_limitFlows 129 = .ok (.iaload, 1) := by decide +kernel
theorem dX8_limitFlows_130 : decode cX8_limitFlows 130 = .ok (.aload_n 1, 1) := by decide +kernel
theorem dX8_limitFlows_131 : decode cX8_limitFlows 131 = .ok (.getfield 59, 3) := by decide +kernel
theorem dX8_limitFlows_134 : decode cX8_limitFlows 134 = .ok (.iload_n 3, 1) := by decide +kernel
theorem dX8_limitFlows_135 : decode cX8_limitFlows 135 = .ok (.iaload, 1) := by decide +kernel
theorem dX8_limitFlows_136 : decode cX8_limitFlows 136 = .ok (.aload_n 0, 1) := by decide +kernel
theorem dX8_limitFlows_137 : decode cX8_limitFlows 137 = .ok (.getfield 15, 3) := by decide +kernel
theorem dX8_limitFlows_140 : decode cX8_limitFlows 140 = .ok (.iload_n 3, 1) := by decide +kernel
theorem dX8_limitFlows_141 : decode cX8_limitFlows 141 = .ok (.iaload, 1) := by decide +kernel
theorem dX8_limitFlows_142 : decode cX8_limitFlows 142 = .ok (.invokestatic 123, 3) := by decide +kernel
theorem dX8_limitFlows_145 : decode cX8_limitFlows 145 = .ok (.iastore, 1) := by decide +kernel
theorem dX8_limitFlows_146 : decode cX8_limitFlows 146 = .ok (.iinc 2 1, 3) := by decide +kernel
theorem dX8_limitFlows_149 : decode cX8_limitFlows 149 = .ok (.goto (-74), 3) := by decide +kernel
theorem dX8_limitFlows_152 : decode cX8_limitFlows 152 = .ok (.return_, 1) := by decide +kernel
set_option maxRecDepth 20000 in
theorem ggX8_source_X0_farCell : GoodIn wsX8_source wsX0_farCell := goodIn_r _ [6, 7, 12, 13, 14, 15, 16, 17, 18, 19, 20, 21, 22, 23, 24, 25, 26, 27, 28, 29, 30] (by decide +kernel) (by decide +kernel)
set_option maxRecDepth 20000 in
theorem gX8_source_X0_farCell : GoodIn wsX8_source (wsV RX8 90 RX0 yX0_farCell wsX0_farCell) := goodIn_app (goodIn_of _ (by decide +kernel)) ggX8_source_X0_farCell
theorem dX8_source_0 : decode cX8_source 0 = .ok (.aload_n 0, 1) := by decide +kernel
theorem dX8_source_1 : decode cX8_source 1 = .ok (.getfield 9, 3) := by decide +kernel
theorem dX8_source_4 : decode cX8_source 4 = .ok (.iload_n 2, 1) := by decide +kernel
theorem dX8_source_5 : decode cX8_source 5 = .ok (.iaload, 1) := by decide +kernel
theorem dX8_source_6 : decode cX8_source 6 = .ok (.ifCond .le 9, 3) := by decide +kernel
theorem dX8_source_9 : decode cX8_source 9 = .ok (.iload_n 2, 1) := by decide +kernel
theorem dX8_source_10 : decode cX8_source 10 = .ok (.iconst 2, 1) := by decide +kernel
theorem dX8_source_11 : decode cX8_source 11 = .ok (.idiv, 1) := by decide +kernel
theorem dX8_source_12 : decode cX8_source 12 = .ok (.goto 8, 3) := by decide +kernel
theorem dX8_source_15 : decode cX8_source 15 = .ok (.aload_n 1, 1) := by decide +kernel
theorem dX8_source_16 : decode cX8_source 16 = .ok (.iload_n 2, 1) := by decide +kernel
theorem dX8_source_17 : decode cX8_source 17 = .ok (.invokevirtual 90, 3) := by decide +kernel
theorem dX8_source_20 : decode cX8_source 20 = .ok (.ireturn, 1) := by decide +kernel
theorem dX8_share_0 : decode cX8_share 0 = .ok (.iload_n 2, 1) := by decide +kernel
theorem dX8_share_1 : decode cX8_share 1 = .ok (.ifCond .le 15, 3) := by decide +kernel
theorem dX8_share_4 : decode cX8_share 4 = .ok (.iload_n 0, 1) := by decide +kernel
theorem dX8_share_5 : decode cX8_share 5 = .ok (.i2l, 1) := by decide +kernel
theorem dX8_share_6 : decode cX8_share 6 = .ok (.iload_n 1, 1) := by decide +kernel
theorem dX8_share_7 : decode cX8_share 7 = .ok (.i2l, 1) := by decide +kernel
theorem dX8_share_8 : decode cX8_share 8 = .ok (.lmul, 1) := by decide +kernel
theorem dX8_share_9 : decode cX8_share 9 = .ok (.iload_n 2, 1) := by decide +kernel
theorem dX8_share_10 : decode cX8_share 10 = .ok (.i2l, 1) := by decide +kernel
theorem dX8_share_11 : decode cX8_share 11 = .ok (.ldiv, 1) := by decide +kernel
theorem dX8_share_12 : decode cX8_share 12 = .ok (.l2i, 1) := by decide +kernel
theorem dX8_share_13 : decode cX8_share 13 = .ok (.goto 4, 3) := by decide +kernel
theorem dX8_share_16 : decode cX8_share 16 = .ok (.iconst 0, 1) := by decide +kernel
theorem dX8_share_17 : decode cX8_share 17 = .ok (.ireturn, 1) := by decide +kernel
set_option maxRecDepth 20000 in
theorem ggX8_moveWater_X0_cells : GoodIn wsX8_moveWater wsX0_cells := goodIn_r _ [11, 12, 13, 18, 19, 20, 21, 22, 23, 24, 25, 26, 27, 28, 29, 30, 31, 32, 33, 34, 35, 36] (by decide +kernel) (by decide +kernel)
set_option maxRecDepth 20000 in
theorem gX8_moveWater_X0_cells : GoodIn wsX8_moveWater (wsV RX8 49 RX0 yX0_cells wsX0_cells) := goodIn_app (goodIn_of _ (by decide +kernel)) ggX8_moveWater_X0_cells
set_option maxRecDepth 20000 in
theorem ggX8_moveWater_X0_farCell : GoodIn wsX8_moveWater wsX0_farCell := goodIn_r _ [17, 12, 18, 19, 20, 21, 22, 23, 24, 25, 26, 27, 28, 29, 30, 31, 32, 33, 34, 35, 36] (by decide +kernel) (by decide +kernel)
set_option maxRecDepth 20000 in
theorem gX8_moveWater_X0_farCell : GoodIn wsX8_moveWater (wsV RX8 90 RX0 yX0_farCell wsX0_farCell) := goodIn_app (goodIn_of _ (by decide +kernel)) ggX8_moveWater_X0_farCell
theorem dX8_moveWater_0 : decode cX8_moveWater 0 = .ok (.aload_n 1, 1) := by decide +kernel
theorem dX8_moveWater_1 : decode cX8_moveWater 1 = .ok (.getfield 59, 3) := by decide +kernel
theorem dX8_moveWater_4 : decode cX8_moveWater 4 = .ok (.iconst 0, 1) := by decide +kernel
theorem dX8_moveWater_5 : decode cX8_moveWater 5 = .ok (.aload_n 0, 1) := by decide +kernel
theorem dX8_moveWater_6 : decode cX8_moveWater 6 = .ok (.getfield 18, 3) := by decide +kernel
theorem dX8_moveWater_9 : decode cX8_moveWater 9 = .ok (.iconst 0, 1) := by decide +kernel
theorem dX8_moveWater_10 : decode cX8_moveWater 10 = .ok (.aload_n 1, 1) := by decide +kernel
theorem dX8_moveWater_11 : decode cX8_moveWater 11 = .ok (.invokevirtual 49, 3) := by decide +kernel
theorem dX8_moveWater_14 : decode cX8_moveWater 14 = .ok (.invokestatic 53, 3) := by decide +kernel
theorem dX8_moveWater_17 : decode cX8_moveWater 17 = .ok (.iconst 0, 1) := by decide +kernel
theorem dX8_moveWater_18 : decode cX8_moveWater 18 = .ok (.istore_n 2, 1) := by decide +kernel
theorem dX8_moveWater_19 : decode cX8_moveWater 19 = .ok (.iload_n 2, 1) := by decide +kernel
theorem dX8_moveWater_20 : decode cX8_moveWater 20 = .ok (.iconst 2, 1) := by decide +kernel
theorem dX8_moveWater_21 : decode cX8_moveWater 21 = .ok (.aload_n 1, 1) := by decide +kernel
theorem dX8_moveWater_22 : decode cX8_moveWater 22 = .ok (.invokevirtual 49, 3) := by decide +kernel
theorem dX8_moveWater_25 : decode cX8_moveWater 25 = .ok (.imul, 1) := by decide +kernel
theorem dX8_moveWater_26 : decode cX8_moveWater 26 = .ok (.if_icmp .ge 57, 3) := by decide +kernel
theorem dX8_moveWater_29 : decode cX8_moveWater 29 = .ok (.aload_n 0, 1) := by decide +kernel
theorem dX8_moveWater_30 : decode cX8_moveWater 30 = .ok (.getfield 9, 3) := by decide +kernel
theorem dX8_moveWater_33 : decode cX8_moveWater 33 = .ok (.iload_n 2, 1) := by decide +kernel
theorem dX8_moveWater_34 : decode cX8_moveWater 34 = .ok (.iaload, 1) := by decide +kernel
theorem dX8_moveWater_35 : decode cX8_moveWater 35 = .ok (.ifCond .ne 6, 3) := by decide +kernel
theorem dX8_moveWater_38 : decode cX8_moveWater 38 = .ok (.goto 39, 3) := by decide +kernel
theorem dX8_moveWater_41 : decode cX8_moveWater 41 = .ok (.aload_n 0, 1) := by decide +kernel
theorem dX8_moveWater_42 : decode cX8_moveWater 42 = .ok (.getfield 18, 3) := by decide +kernel
theorem dX8_moveWater_45 : decode cX8_moveWater 45 = .ok (.iload_n 2, 1) := by decide +kernel
theorem dX8_moveWater_46 : decode cX8_moveWater 46 = .ok (.iconst 2, 1) := by decide +kernel
theorem dX8_moveWater_47 : decode cX8_moveWater 47 = .ok (.idiv, 1) := by decide +kernel
theorem dX8_moveWater_48 : decode cX8_moveWater 48 = .ok (.dup2, 1) := by decide +kernel
theorem dX8_moveWater_49 : decode cX8_moveWater 49 = .ok (.iaload, 1) := by decide +kernel
theorem dX8_moveWater_50 : decode cX8_moveWater 50 = .ok (.aload_n 0, 1) := by decide +kernel
theorem dX8_moveWater_51 : decode cX8_moveWater 51 = .ok (.getfield 9, 3) := by decide +kernel
theorem dX8_moveWater_54 : decode cX8_moveWater 54 = .ok (.iload_n 2, 1) := by decide +kernel
theorem dX8_moveWater_55 : decode cX8_moveWater 55 = .ok (.iaload, 1) := by decide +kernel
theorem dX8_moveWater_56 : decode cX8_moveWater 56 = .ok (.isub, 1) := by decide +kernel
theorem dX8_moveWater_57 : decode cX8_moveWater 57 = .ok (.iastore, 1) := by decide +kernel
theorem dX8_moveWater_58 : decode cX8_moveWater 58 = .ok (.aload_n 0, 1) := by decide +kernel
theorem dX8_moveWater_59 : decode cX8_moveWater 59 = .ok (.getfield 18, 3) := by decide +kernel
theorem dX8_moveWater_62 : decode cX8_moveWater 62 = .ok (.aload_n 1, 1) := by decide +kernel
theorem dX8_moveWater_63 : decode cX8_moveWater 63 = .ok (.iload_n 2, 1) := by decide +kernel
theorem dX8_moveWater_64 : decode cX8_moveWater 64 = .ok (.invokevirtual 90, 3) := by decide +kernel
theorem dX8_moveWater_67 : decode cX8_moveWater 67 = .ok (.dup2, 1) := by decide +kernel
theorem dX8_moveWater_68 : decode cX8_moveWater 68 = .ok (.iaload, 1) := by decide +kernel
theorem dX8_moveWater_69 : decode cX8_moveWater 69 = .ok (.aload_n 0, 1) := by decide +kernel
theorem dX8_moveWater_70 : decode cX8_moveWater 70 = .ok (.getfield 9, 3) := by decide +kernel
theorem dX8_moveWater_73 : decode cX8_moveWater 73 = .ok (.iload_n 2, 1) := by decide +kernel
theorem dX8_moveWater_74 : decode cX8_moveWater 74 = .ok (.iaload, 1) := by decide +kernel
theorem dX8_moveWater_75 : decode cX8_moveWater 75 = .ok (.iadd, 1) := by decide +kernel
theorem dX8_moveWater_76 : decode cX8_moveWater 76 = .ok (.iastore, 1) := by decide +kernel
theorem dX8_moveWater_77 : decode cX8_moveWater 77 = .ok (.iinc 2 1, 3) := by decide +kernel
theorem dX8_moveWater_80 : decode cX8_moveWater 80 = .ok (.goto (-61), 3) := by decide +kernel
theorem dX8_moveWater_83 : decode cX8_moveWater 83 = .ok (.return_, 1) := by decide +kernel
theorem dX8_addRivers_0 : decode cX8_addRivers 0 = .ok (.iconst 0, 1) := by decide +kernel
theorem dX8_addRivers_1 : decode cX8_addRivers 1 = .ok (.istore_n 2, 1) := by decide +kernel
theorem dX8_addRivers_2 : decode cX8_addRivers 2 = .ok (.iconst 0, 1) := by decide +kernel
theorem dX8_addRivers_3 : decode cX8_addRivers 3 = .ok (.istore_n 3, 1) := by decide +kernel
theorem dX8_addRivers_4 : decode cX8_addRivers 4 = .ok (.iload_n 3, 1) := by decide +kernel
theorem dX8_addRivers_5 : decode cX8_addRivers 5 = .ok (.aload_n 1, 1) := by decide +kernel
theorem dX8_addRivers_6 : decode cX8_addRivers 6 = .ok (.getfield 127, 3) := by decide +kernel
theorem dX8_addRivers_9 : decode cX8_addRivers 9 = .ok (.getfield 131, 3) := by decide +kernel
theorem dX8_addRivers_12 : decode cX8_addRivers 12 = .ok (.if_icmp .ge 47, 3) := by decide +kernel
theorem dX8_addRivers_15 : decode cX8_addRivers 15 = .ok (.aload_n 0, 1) := by decide +kernel
theorem dX8_addRivers_16 : decode cX8_addRivers 16 = .ok (.getfield 18, 3) := by decide +kernel
theorem dX8_addRivers_19 : decode cX8_addRivers 19 = .ok (.aload_n 1, 1) := by decide +kernel
theorem dX8_addRivers_20 : decode cX8_addRivers 20 = .ok (.getfield 127, 3) := by decide +kernel
theorem dX8_addRivers_23 : decode cX8_addRivers 23 = .ok (.getfield 136, 3) := by decide +kernel
theorem dX8_addRivers_26 : decode cX8_addRivers 26 = .ok (.iload_n 3, 1) := by decide +kernel
theorem dX8_addRivers_27 : decode cX8_addRivers 27 = .ok (.iaload, 1) := by decide +kernel
theorem dX8_addRivers_28 : decode cX8_addRivers 28 = .ok (.dup2, 1) := by decide +kernel
theorem dX8_addRivers_29 : decode cX8_addRivers 29 = .ok (.iaload, 1) := by decide +kernel
theorem dX8_addRivers_30 : decode cX8_addRivers 30 = .ok (.aload_n 1, 1) := by decide +kernel
theorem dX8_addRivers_31 : decode cX8_addRivers 31 = .ok (.getfield 127, 3) := by decide +kernel
theorem dX8_addRivers_34 : decode cX8_addRivers 34 = .ok (.getfield 139, 3) := by decide +kernel
theorem dX8_addRivers_37 : decode cX8_addRivers 37 = .ok (.iload_n 3, 1) := by decide +kernel
theorem dX8_addRivers_38 : decode cX8_addRivers 38 = .ok (.iaload, 1) := by decide +kernel
theorem dX8_addRivers_39 : decode cX8_addRivers 39 = .ok (.iadd, 1) := by decide +kernel
theorem dX8_addRivers_40 : decode cX8_addRivers 40 = .ok (.iastore, 1) := by decide +kernel
theorem dX8_addRivers_41 : decode cX8_addRivers 41 = .ok (.iload_n 2, 1) := by decide +kernel
theorem dX8_addRivers_42 : decode cX8_addRivers 42 = .ok (.aload_n 1, 1) := by decide +kernel
theorem dX8_addRivers_43 : decode cX8_addRivers 43 = .ok (.getfield 127, 3) := by decide +kernel
theorem dX8_addRivers_46 : decode cX8_addRivers 46 = .ok (.getfield 139, 3) := by decide +kernel
theorem dX8_addRivers_49 : decode cX8_addRivers 49 = .ok (.iload_n 3, 1) := by decide +kernel
theorem dX8_addRivers_50 : decode cX8_addRivers 50 = .ok (.iaload, 1) := by decide +kernel
theorem dX8_addRivers_51 : decode cX8_addRivers 51 = .ok (.iadd, 1) := by decide +kernel
theorem dX8_addRivers_52 : decode cX8_addRivers 52 = .ok (.istore_n 2, 1) := by decide +kernel
theorem dX8_addRivers_53 : decode cX8_addRivers 53 = .ok (.iinc 3 1, 3) := by decide +kernel
theorem dX8_addRivers_56 : decode cX8_addRivers 56 = .ok (.goto (-52), 3) := by decide +kernel
theorem dX8_addRivers_59 : decode cX8_addRivers 59 = .ok (.iload_n 2, 1) := by decide +kernel
theorem dX8_addRivers_60 : decode cX8_addRivers 60 = .ok (.ireturn, 1) := by decide +kernel
set_option maxRecDepth 20000 in
theorem ggX8_tooMuch_X0_cells : GoodIn wsX8_tooMuch wsX0_cells := goodIn_r _ [7, 8, 9, 14, 15, 16, 17, 18, 19, 20, 21, 22, 23, 24, 25, 26, 27, 28, 29, 30, 31, 32] (by decide +kernel) (by decide +kernel)
set_option maxRecDepth 20000 in
theorem gX8_tooMuch_X0_cells : GoodIn wsX8_tooMuch (wsV RX8 49 RX0 yX0_cells wsX0_cells) := goodIn_app (goodIn_of _ (by decide +kernel)) ggX8_tooMuch_X0_cells
theorem dX8_tooMuch_0 : decode cX8_tooMuch 0 = .ok (.iconst 0, 1) := by decide +kernel
theorem dX8_tooMuch_1 : decode cX8_tooMuch 1 = .ok (.istore_n 2, 1) := by decide +kernel
theorem dX8_tooMuch_2 : decode cX8_tooMuch 2 = .ok (.iload_n 2, 1) := by decide +kernel
theorem dX8_tooMuch_3 : decode cX8_tooMuch 3 = .ok (.aload_n 1, 1) := by decide +kernel
theorem dX8_tooMuch_4 : decode cX8_tooMuch 4 = .ok (.invokevirtual 49, 3) := by decide +kernel
theorem dX8_tooMuch_7 : decode cX8_tooMuch 7 = .ok (.if_icmp .ge 22, 3) := by decide +kernel
theorem dX8_tooMuch_10 : decode cX8_tooMuch 10 = .ok (.aload_n 0, 1) := by decide +kernel
theorem dX8_tooMuch_11 : decode cX8_tooMuch 11 = .ok (.getfield 18, 3) := by decide +kernel
theorem dX8_tooMuch_14 : decode cX8_tooMuch 14 = .ok (.iload_n 2, 1) := by decide +kernel
theorem dX8_tooMuch_15 : decode cX8_tooMuch 15 = .ok (.iaload, 1) := by decide +kernel
theorem dX8_tooMuch_16 : decode cX8_tooMuch 16 = .ok (.ldc 142, 2) := by decide +kernel
theorem dX8_tooMuch_18 : decode cX8_tooMuch 18 = .ok (.if_icmp .le 5, 3) := by decide +kernel
theorem dX8_tooMuch_21 : decode cX8_tooMuch 21 = .ok (.iconst 1, 1) := by decide +kernel
theorem dX8_tooMuch_22 : decode cX8_tooMuch 22 = .ok (.ireturn, 1) := by decide +kernel
theorem dX8_tooMuch_23 : decode cX8_tooMuch 23 = .ok (.iinc 2 1, 3) := by decide +kernel
theorem dX8_tooMuch_26 : decode cX8_tooMuch 26 = .ok (.goto (-24), 3) := by decide +kernel
theorem dX8_tooMuch_29 : decode cX8_tooMuch 29 = .ok (.iconst 0, 1) := by decide +kernel
theorem dX8_tooMuch_30 : decode cX8_tooMuch 30 = .ok (.ireturn, 1) := by decide +kernel
set_option maxRecDepth 20000 in
theorem ggX8_carryStuff_X0_cells : GoodIn wsX8_carryStuff wsX0_cells := goodIn_r _ [15, 16, 17, 30, 31, 32, 33, 34, 35, 36, 37, 38, 39, 40, 41, 42, 43, 44, 45, 46, 47, 48] (by decide +kernel) (by decide +kernel)
set_option maxRecDepth 20000 in
theorem gX8_carryStuff_X0_cells : GoodIn wsX8_carryStuff (wsV RX8 49 RX0 yX0_cells wsX0_cells) := goodIn_app (goodIn_of _ (by decide +kernel)) ggX8_carryStuff_X0_cells
set_option maxRecDepth 20000 in
theorem ggX8_carryStuff_X8_source : GoodIn wsX8_carryStuff wsX8_source := goodIn_r _ [22, 6, 23, 24, 25, 14, 26, 16, 49, 50, 51, 52, 30, 31, 32, 33, 34, 35, 36, 37, 38, 39, 40, 41, 42, 43, 44, 45, 46, 47, 48] (by decide +kernel) (by decide +kernel)
set_option maxRecDepth 20000 in
theorem gX8_carryStuff_X8_source : GoodIn wsX8_carryStuff (wsV RX8 115 RX8 yX8_source wsX8_source) := goodIn_app (goodIn_of _ (by decide +kernel)) ggX8_carryStuff_X8_source
set_option maxRecDepth 20000 in
theorem ggX8_carryStuff_X0_farCell : GoodIn wsX8_carryStuff wsX0_farCell := goodIn_r _ [26, 16, 30, 31, 32, 33, 34, 35, 36, 37, 38, 39, 40, 41, 42, 43, 44, 45, 46, 47, 48] (by decide +kernel) (by decide +kernel)
set_option maxRecDepth 20000 in
theorem gX8_carryStuff_X0_farCell : GoodIn wsX8_carryStuff (wsV RX8 90 RX0 yX0_farCell wsX0_farCell) := goodIn_app (goodIn_of _ (by decide +kernel)) ggX8_carryStuff_X0_farCell
set_option maxRecDepth 20000 in
theorem ggX8_carryStuff_X8_share : GoodIn wsX8_carryStuff wsX8_share := goodIn_r _ [29] (by decide +kernel) (by decide +kernel)
set_option maxRecDepth 20000 in
theorem gX8_carryStuff_X8_share : GoodIn wsX8_carryStuff (va_wsS RX8 123 yX8_share wsX8_share) := goodIn_app (goodIn_of _ (by decide +kernel)) ggX8_carryStuff_X8_share
theorem dX8_carryStuff_0 : decode cX8_carryStuff 0 = .ok (.aload_n 1, 1) := by decide +kernel
theorem dX8_carryStuff_1 : decode cX8_carryStuff 1 = .ok (.getfield 143, 3) := by decide +kernel
theorem dX8_carryStuff_4 : decode cX8_carryStuff 4 = .ok (.iload_n 2, 1) := by decide +kernel
theorem dX8_carryStuff_5 : decode cX8_carryStuff 5 = .ok (.aload_n 0, 1) := by decide +kernel
theorem dX8_carryStuff_6 : decode cX8_carryStuff 6 = .ok (.getfield 21, 3) := by decide +kernel
theorem dX8_carryStuff_9 : decode cX8_carryStuff 9 = .ok (.iconst 0, 1) := by decide +kernel
theorem dX8_carryStuff_10 : decode cX8_carryStuff 10 = .ok (.aload_n 1, 1) := by decide +kernel
theorem dX8_carryStuff_11 : decode cX8_carryStuff 11 = .ok (.invokevirtual 49, 3) := by decide +kernel
theorem dX8_carryStuff_14 : decode cX8_carryStuff 14 = .ok (.invokestatic 53, 3) := by decide +kernel
theorem dX8_carryStuff_17 : decode cX8_carryStuff 17 = .ok (.iconst 0, 1) := by decide +kernel
theorem dX8_carryStuff_18 : decode cX8_carryStuff 18 = .ok (.istore_n 3, 1) := by decide +kernel
theorem dX8_carryStuff_19 : decode cX8_carryStuff 19 = .ok (.iload_n 3, 1) := by decide +kernel
theorem dX8_carryStuff_20 : decode cX8_carryStuff 20 = .ok (.iconst 2, 1) := by decide +kernel
theorem dX8_carryStuff_21 : decode cX8_carryStuff 21 = .ok (.aload_n 1, 1) := by decide +kernel
theorem dX8_carryStuff_22 : decode cX8_carryStuff 22 = .ok (.invokevirtual 49, 3) := by decide +kernel
theorem dX8_carryStuff_25 : decode cX8_carryStuff 25 = .ok (.imul, 1) := by decide +kernel
theorem dX8_carryStuff_26 : decode cX8_carryStuff 26 = .ok (.if_icmp .ge 105, 3) := by decide +kernel
theorem dX8_carryStuff_29 : decode cX8_carryStuff 29 = .ok (.aload_n 0, 1) := by decide +kernel
theorem dX8_carryStuff_30 : decode cX8_carryStuff 30 = .ok (.getfield 9, 3) := by decide +kernel
theorem dX8_carryStuff_33 : decode cX8_carryStuff 33 = .ok (.iload_n 3, 1) := by decide +kernel
theorem dX8_carryStuff_34 : decode cX8_carryStuff 34 = .ok (.iaload, 1) := by decide +kernel
theorem dX8_carryStuff_35 : decode cX8_carryStuff 35 = .ok (.ifCond .ne 6, 3) := by decide +kernel
theorem dX8_carryStuff_38 : decode cX8_carryStuff 38 = .ok (.goto 87, 3) := by decide +kernel
theorem dX8_carryStuff_41 : decode cX8_carryStuff 41 = .ok (.aload_n 0, 1) := by decide +kernel
theorem dX8_carryStuff_42 : decode cX8_carryStuff 42 = .ok (.aload_n 1, 1) := by decide +kernel
theorem dX8_carryStuff_43 : decode cX8_carryStuff 43 = .ok (.iload_n 3, 1) := by decide +kernel
theorem dX8_carryStuff_44 : decode cX8_carryStuff 44 = .ok (.invokevirtual 115, 3) := by decide +kernel
theorem dX8_carryStuff_47 : decode cX8_carryStuff 47 = .ok (.istore 4, 2) := by decide +kernel
theorem dX8_carryStuff_49 : decode cX8_carryStuff 49 = .ok (.aload_n 0, 1) := by decide +kernel
theorem dX8_carryStuff_50 : decode cX8_carryStuff 50 = .ok (.getfield 9, 3) := by decide +kernel
theorem dX8_carryStuff_53 : decode cX8_carryStuff 53 = .ok (.iload_n 3, 1) := by decide +kernel
theorem dX8_carryStuff_54 : decode cX8_carryStuff 54 = .ok (.iaload, 1) := by decide +kernel
theorem dX8_carryStuff_55 : decode cX8_carryStuff 55 = .ok (.ifCond .le 11, 3) := by decide +kernel
theorem dX8_carryStuff_58 : decode cX8_carryStuff 58 = .ok (.aload_n 1, 1) := by decide +kernel
theorem dX8_carryStuff_59 : decode cX8_carryStuff 59 = .ok (.iload_n 3, 1) := by decide +kernel
theorem dX8_carryStuff_60 : decode cX8_carryStuff 60 = .ok (.invokevirtual 90, 3) := by decide +kernel
theorem dX8_carryStuff_63 : decode cX8_carryStuff 63 = .ok (.goto 6, 3) := by decide +kernel
theorem dX8_carryStuff_66 : decode cX8_carryStuff 66 = .ok (.iload_n 3, 1) := by decide +kernel
theorem dX8_carryStuff_67 : decode cX8_carryStuff 67 = .ok (.iconst 2, 1) := by decide +kernel
theorem dX8_carryStuff_68 : decode cX8_carryStuff 68 = .ok (.idiv, 1) := by decide +kernel
theorem dX8_carryStuff_69 : decode cX8_carryStuff 69 = .ok (.istore 5, 2) := by decide +kernel
theorem dX8_carryStuff_71 : decode cX8_carryStuff 71 = .ok (.aload_n 1, 1) := by decide +kernel
theorem dX8_carryStuff_72 : decode cX8_carryStuff 72 = .ok (.getfield 143, 3) := by decide +kernel
theorem dX8_carryStuff_75 : decode cX8_carryStuff 75 = .ok (.iload_n 2, 1) := by decide +kernel
theorem dX8_carryStuff_76 : decode cX8_carryStuff 76 = .ok (.iload 4, 2) := by decide +kernel
theorem dX8_carryStuff_78 : decode cX8_carryStuff 78 = .ok (.iadd, 1) := by decide +kernel
theorem dX8_carryStuff_79 : decode cX8_carryStuff 79 = .ok (.iaload, 1) := by decide +kernel
theorem dX8_carryStuff_80 : decode cX8_carryStuff 80 = .ok (.aload_n 0, 1) := by decide +kernel
theorem dX8_carryStuff_81 : decode cX8_carryStuff 81 = .ok (.getfield 9, 3) := by decide +kernel
theorem dX8_carryStuff_84 : decode cX8_carryStuff 84 = .ok (.iload_n 3, 1) := by decide +kernel
theorem dX8_carryStuff_85 : decode cX8_carryStuff 85 = .ok (.iaload, 1) := by decide +kernel
theorem dX8_carryStuff_86 : decode cX8_carryStuff 86 = .ok (.invokestatic 118, 3) := by decide +kernel
theorem dX8_carryStuff_89 : decode cX8_carryStuff 89 = .ok (.aload_n 1, 1) := by decide +kernel
theorem dX8_carryStuff_90 : decode cX8_carryStuff 90 = .ok (.getfield 59, 3) := by decide +kernel
theorem dX8_carryStuff_93 : decode cX8_carryStuff 93 = .ok (.iload 4, 2) := by decide +kernel
theorem dX8_carryStuff_95 : decode cX8_carryStuff 95 = .ok (.iaload, 1) := by decide +kernel
theorem dX8_carryStuff_96 : decode cX8_carryStuff 96 = .ok (.invokestatic 123, 3) := by decide +kernel
theorem dX8_carryStuff_99 : decode cX8_carryStuff 99 = .ok (.istore 6, 2) := by decide +kernel
theorem dX8_carryStuff_101 : decode cX8_carryStuff 101 = .ok (.aload_n 0, 1) := by decide +kernel
theorem dX8_carryStuff_102 : decode cX8_carryStuff 102 = .ok (.getfield 21, 3) := by decide +kernel
theorem dX8_carryStuff_105 : decode cX8_carryStuff 105 = .ok (.iload 4, 2) := by decide +kernel
theorem dX8_carryStuff_107 : decode cX8_carryStuff 107 = .ok (.dup2, 1) := by decide +kernel
theorem dX8_carryStuff_108 : decode cX8_carryStuff 108 = .ok (.iaload, 1) := by decide +kernel
theorem dX8_carryStuff_109 : decode cX8_carryStuff 109 = .ok (.iload 6, 2) := by decide +kernel
theorem dX8_carryStuff_111 : decode cX8_carryStuff 111 = .ok (.isub, 1) := by decide +kernel
theorem dX8_carryStuff_112 : decode cX8_carryStuff 112 = .ok (.iastore, 1) := by decide +kernel
theorem dX8_carryStuff_113 : decode cX8_carryStuff 113 = .ok (.aload_n 0, 1) := by decide +kernel
theorem dX8_carryStuff_114 : decode cX8_carryStuff 114 = .ok (.getfield 21, 3) := by decide +kernel
theorem dX8_carryStuff_117 : decode cX8_carryStuff 117 = .ok (.iload 5, 2) := by decide +kernel
theorem dX8_carryStuff_119 : decode cX8_carryStuff 119 = .ok (.dup2, 1) := by decide +kernel
theorem dX8_carryStuff_120 : decode cX8_carryStuff 120 = .ok (.iaload, 1) := by decide +kernel
theorem dX8_carryStuff_121 : decode cX8_carryStuff 121 = .ok (.iload 6, 2) := by decide +kernel
theorem dX8_carryStuff_123 : decode cX8_carryStuff 123 = .ok (.iadd, 1) := by decide +kernel
theorem dX8_carryStuff_124 : decode cX8_carryStuff 124 = .ok (.iastore, 1) := by decide +kernel
theorem dX8_carryStuff_125 : decode cX8_carryStuff 125 = .ok (.iinc 3 1, 3) := by decide +kernel
theorem dX8_carryStuff_128 : decode cX8_carryStuff 128 = .ok (.goto (-109), 3) := by decide +kernel
theorem dX8_carryStuff_131 : decode cX8_carryStuff 131 = .ok (.aload_n 0, 1) := by decide +kernel
theorem dX8_carryStuff_132 : decode cX8_carryStuff 132 = .ok (.getfield 21, 3) := by decide +kernel
theorem dX8_carryStuff_135 : decode cX8_carryStuff 135 = .ok (.iconst 0, 1) := by decide +kernel
theorem dX8_carryStuff_136 : decode cX8_carryStuff 136 = .ok (.aload_n 1, 1) := by decide +kernel
theorem dX8_carryStuff_137 : decode cX8_carryStuff 137 = .ok (.getfield 143, 3) := by decide +kernel
theorem dX8_carryStuff_140 : decode cX8_carryStuff 140 = .ok (.iload_n 2, 1) := by decide +kernel
theorem dX8_carryStuff_141 : decode cX8_carryStuff 141 = .ok (.aload_n 1, 1) := by decide +kernel
theorem dX8_carryStuff_142 : decode cX8_carryStuff 142 = .ok (.invokevirtual 49, 3) := by decide +kernel
theorem dX8_carryStuff_145 : decode cX8_carryStuff 145 = .ok (.invokestatic 53, 3) := by decide +kernel
theorem dX8_carryStuff_148 : decode cX8_carryStuff 148 = .ok (.return_, 1) := by decide +kernel
theorem dX8_leadRim_0 : decode cX8_leadRim 0 = .ok (.iconst 0, 1) := by decide +kernel
theorem dX8_leadRim_1 : decode cX8_leadRim 1 = .ok (.istore_n 2, 1) := by decide +kernel
theorem dX8_leadRim_2 : decode cX8_leadRim 2 = .ok (.iload_n 2, 1) := by decide +kernel
theorem dX8_leadRim_3 : decode cX8_leadRim 3 = .ok (.aload_n 0, 1) := by decide +kernel
theorem dX8_leadRim_4 : decode cX8_leadRim 4 = .ok (.getfield 144, 3) := by decide +kernel
theorem dX8_leadRim_7 : decode cX8_leadRim 7 = .ok (.if_icmp .ge 61, 3) := by decide +kernel
theorem dX8_leadRim_10 : decode cX8_leadRim 10 = .ok (.iload_n 2, 1) := by decide +kernel
theorem dX8_leadRim_11 : decode cX8_leadRim 11 = .ok (.aload_n 0, 1) := by decide +kernel
theorem dX8_leadRim_12 : decode cX8_leadRim 12 = .ok (.getfield 147, 3) := by decide +kernel
theorem dX8_leadRim_15 : decode cX8_leadRim 15 = .ok (.imul, 1) := by decide +kernel
theorem dX8_leadRim_16 : decode cX8_leadRim 16 = .ok (.istore_n 3, 1) := by decide +kernel
theorem dX8_leadRim_17 : decode cX8_leadRim 17 = .ok (.iconst 0, 1) := by decide +kernel
theorem dX8_leadRim_18 : decode cX8_leadRim 18 = .ok (.ldc 142, 2) := by decide +kernel
theorem dX8_leadRim_20 : decode cX8_leadRim 20 = .ok (.iload_n 1, 1) := by decide +kernel
theorem dX8_leadRim_21 : decode cX8_leadRim 21 = .ok (.aload_n 0, 1) := by decide +kernel
theorem dX8_leadRim_22 : decode cX8_leadRim 22 = .ok (.getfield 112, 3) := by decide +kernel
theorem dX8_leadRim_25 : decode cX8_leadRim 25 = .ok (.iload_n 3, 1) := by decide +kernel
theorem dX8_leadRim_26 : decode cX8_leadRim 26 = .ok (.iaload, 1) := by decide +kernel
theorem dX8_leadRim_27 : decode cX8_leadRim 27 = .ok (.isub, 1) := by decide +kernel
theorem dX8_leadRim_28 : decode cX8_leadRim 28 = .ok (.invokestatic 150, 3) := by decide +kernel
theorem dX8_leadRim_31 : decode cX8_leadRim 31 = .ok (.invokestatic 154, 3) := by decide +kernel
theorem dX8_leadRim_34 : decode cX8_leadRim 34 = .ok (.istore 4, 2) := by decide +kernel
theorem dX8_leadRim_36 : decode cX8_leadRim 36 = .ok (.aload_n 0, 1) := by decide +kernel
theorem dX8_leadRim_37 : decode cX8_leadRim 37 = .ok (.dup, 1) := by decide +kernel
theorem dX8_leadRim_38 : decode cX8_leadRim 38 = .ok (.getfield 157, 3) := by decide +kernel
theorem dX8_leadRim_41 : decode cX8_leadRim 41 = .ok (.iload 4, 2) := by decide +kernel
theorem dX8_leadRim_43 : decode cX8_leadRim 43 = .ok (.aload_n 0, 1) := by decide +kernel
theorem dX8_leadRim_44 : decode cX8_leadRim 44 = .ok (.getfield 59, 3) := by decide +kernel
theorem dX8_leadRim_47 : decode cX8_leadRim 47 = .ok (.iload_n 3, 1) := by decide +kernel
theorem dX8_leadRim_48 : decode cX8_leadRim 48 = .ok (.iaload, 1) := by decide +kernel
theorem dX8_leadRim_49 : decode cX8_leadRim 49 = .ok (.isub, 1) := by decide +kernel
theorem dX8_leadRim_50 : decode cX8_leadRim 50 = .ok (.iadd, 1) := by decide +kernel
theorem dX8_leadRim_51 : decode cX8_leadRim 51 = .ok (.putfield 157, 3) := by decide +kernel
theorem dX8_leadRim_54 : decode cX8_leadRim 54 = .ok (.aload_n 0, 1) := by decide +kernel
theorem dX8_leadRim_55 : decode cX8_leadRim 55 = .ok (.getfield 59, 3) := by decide +kernel
theorem dX8_leadRim_58 : decode cX8_leadRim 58 = .ok (.iload_n 3, 1) := by decide +kernel
theorem dX8_leadRim_59 : decode cX8_leadRim 59 = .ok (.iload 4, 2) := by decide +kernel
theorem dX8_leadRim_61 : decode cX8_leadRim 61 = .ok (.iastore, 1) := by decide +kernel
theorem dX8_leadRim_62 : decode cX8_leadRim 62 = .ok (.iinc 2 1, 3) := by decide +kernel
theorem dX8_leadRim_65 : decode cX8_leadRim 65 = .ok (.goto (-63), 3) := by decide +kernel
theorem dX8_leadRim_68 : decode cX8_leadRim 68 = .ok (.return_, 1) := by decide +kernel
theorem dX9_init_0 : decode cX9_init 0 = .ok (.aload_n 0, 1) := by decide +kernel
theorem dX9_init_1 : decode cX9_init 1 = .ok (.invokespecial 1, 3) := by decide +kernel
theorem dX9_init_4 : decode cX9_init 4 = .ok (.return_, 1) := by decide +kernel
set_option maxRecDepth 20000 in
theorem ggX9_hear_X2_fromOldest : GoodIn wsX9_hear wsX2_fromOldest := goodIn_r _ [8, 9, 17, 18, 19, 20, 21, 22] (by decide +kernel) (by decide +kernel)
set_option maxRecDepth 20000 in
theorem gX9_hear_X2_fromOldest : GoodIn wsX9_hear (wsV RX9 26 RX2 yX2_fromOldest wsX2_fromOldest) := goodIn_app (goodIn_of _ (by decide +kernel)) ggX9_hear_X2_fromOldest
set_option maxRecDepth 20000 in
theorem ggX9_hear_X9_signed : GoodIn wsX9_hear wsX9_signed := goodIn_r _ [13] (by decide +kernel) (by decide +kernel)
set_option maxRecDepth 20000 in
theorem gX9_hear_X9_signed : GoodIn wsX9_hear (va_wsS RX9 38 yX9_signed wsX9_signed) := goodIn_app (goodIn_of _ (by decide +kernel)) ggX9_hear_X9_signed
theorem dX9_hear_0 : decode cX9_hear 0 = .ok (.aload_n 0, 1) := by decide +kernel
theorem dX9_hear_1 : decode cX9_hear 1 = .ok (.lconst 0, 1) := by decide +kernel
theorem dX9_hear_2 : decode cX9_hear 2 = .ok (.putfield 7, 3) := by decide +kernel
theorem dX9_hear_5 : decode cX9_hear 5 = .ok (.aload_n 0, 1) := by decide +kernel
theorem dX9_hear_6 : decode cX9_hear 6 = .ok (.lconst 0, 1) := by decide +kernel
theorem dX9_hear_7 : decode cX9_hear 7 = .ok (.putfield 13, 3) := by decide +kernel
theorem dX9_hear_10 : decode cX9_hear 10 = .ok (.aload_n 0, 1) := by decide +kernel
theorem dX9_hear_11 : decode cX9_hear 11 = .ok (.iconst 1, 1) := by decide +kernel
theorem dX9_hear_12 : decode cX9_hear 12 = .ok (.putfield 16, 3) := by decide +kernel
theorem dX9_hear_15 : decode cX9_hear 15 = .ok (.iconst 0, 1) := by decide +kernel
theorem dX9_hear_16 : decode cX9_hear 16 = .ok (.istore_n 3, 1) := by decide +kernel
theorem dX9_hear_17 : decode cX9_hear 17 = .ok (.iload_n 3, 1) := by decide +kernel
theorem dX9_hear_18 : decode cX9_hear 18 = .ok (.aload_n 1, 1) := by decide +kernel
theorem dX9_hear_19 : decode cX9_hear 19 = .ok (.getfield 20, 3) := by decide +kernel
theorem dX9_hear_22 : decode cX9_hear 22 = .ok (.if_icmp .ge 77, 3) := by decide +kernel
theorem dX9_hear_25 : decode cX9_hear 25 = .ok (.aload_n 1, 1) := by decide +kernel
theorem dX9_hear_26 : decode cX9_hear 26 = .ok (.iload_n 3, 1) := by decide +kernel
theorem dX9_hear_27 : decode cX9_hear 27 = .ok (.invokevirtual 26, 3) := by decide +kernel
theorem dX9_hear_30 : decode cX9_hear 30 = .ok (.istore 4, 2) := by decide +kernel
theorem dX9_hear_32 : decode cX9_hear 32 = .ok (.aload_n 1, 1) := by decide +kernel
theorem dX9_hear_33 : decode cX9_hear 33 = .ok (.getfield 30, 3) := by decide +kernel
theorem dX9_hear_36 : decode cX9_hear 36 = .ok (.iload 4, 2) := by decide +kernel
theorem dX9_hear_38 : decode cX9_hear 38 = .ok (.baload, 1) := by decide +kernel
theorem dX9_hear_39 : decode cX9_hear 39 = .ok (.ifCond .eq 6, 3) := by decide +kernel
theorem dX9_hear_42 : decode cX9_hear 42 = .ok (.goto 51, 3) := by decide +kernel
theorem dX9_hear_45 : decode cX9_hear 45 = .ok (.aload_n 0, 1) := by decide +kernel
theorem dX9_hear_46 : decode cX9_hear 46 = .ok (.dup, 1) := by decide +kernel
theorem dX9_hear_47 : decode cX9_hear 47 = .ok (.getfield 7, 3) := by decide +kernel
theorem dX9_hear_50 : decode cX9_hear 50 = .ok (.aload_n 1, 1) := by decide +kernel
theorem dX9_hear_51 : decode cX9_hear 51 = .ok (.getfield 34, 3) := by decide +kernel
theorem dX9_hear_54 : decode cX9_hear 54 = .ok (.iload 4, 2) := by decide +kernel
theorem dX9_hear_56 : decode cX9_hear 56 = .ok (.iaload, 1) := by decide +kernel
theorem dX9_hear_57 : decode cX9_hear 57 = .ok (.iload_n 3, 1) := by decide +kernel
theorem dX9_hear_58 : decode cX9_hear 58 = .ok (.iload_n 2, 1) := by decide +kernel
theorem dX9_hear_59 : decode cX9_hear 59 = .ok (.invokestatic 38, 3) := by decide +kernel
theorem dX9_hear_62 : decode cX9_hear 62 = .ok (.i2l, 1) := by decide +kernel
theorem dX9_hear_63 : decode cX9_hear 63 = .ok (.ladd, 1) := by decide +kernel
theorem dX9_hear_64 : decode cX9_hear 64 = .ok (.putfield 7, 3) := by decide +kernel
theorem dX9_hear_67 : decode cX9_hear 67 = .ok (.aload_n 0, 1) := by decide +kernel
theorem dX9_hear_68 : decode cX9_hear 68 = .ok (.dup, 1) := by decide +kernel
theorem dX9_hear_69 : decode cX9_hear 69 = .ok (.getfield 13, 3) := by decide +kernel
theorem dX9_hear_72 : decode cX9_hear 72 = .ok (.aload_n 1, 1) := by decide +kernel
theorem dX9_hear_73 : decode cX9_hear 73 = .ok (.getfield 34, 3) := by decide +kernel
theorem dX9_hear_76 : decode cX9_hear 76 = .ok (.iload 4, 2) := by decide +kernel
theorem dX9_hear_78 : decode cX9_hear 78 = .ok (.iaload, 1) := by decide +kernel
theorem dX9_hear_79 : decode cX9_hear 79 = .ok (.iload_n 3, 1) := by decide +kernel
theorem dX9_hear_80 : decode cX9_hear 80 = .ok (.iload_n 2, 1) := by decide +kernel
theorem dX9_hear_81 : decode cX9_hear 81 = .ok (.iconst 4, 1) := by decide +kernel
theorem dX9_hear_82 : decode cX9_hear 82 = .ok (.idiv, 1) := by decide +kernel
theorem dX9_hear_83 : decode cX9_hear 83 = .ok (.iadd, 1) := by decide +kernel
theorem dX9_hear_84 : decode cX9_hear 84 = .ok (.iload_n 2, 1) := by decide +kernel
theorem dX9_hear_85 : decode cX9_hear 85 = .ok (.invokestatic 38, 3) := by decide +kernel
theorem dX9_hear_88 : decode cX9_hear 88 = .ok (.i2l, 1) := by decide +kernel
theorem dX9_hear_89 : decode cX9_hear 89 = .ok (.ladd, 1) := by decide +kernel
theorem dX9_hear_90 : decode cX9_hear 90 = .ok (.putfield 13, 3) := by decide +kernel
theorem dX9_hear_93 : decode cX9_hear 93 = .ok (.iinc 3 1, 3) := by decide +kernel
theorem dX9_hear_96 : decode cX9_hear 96 = .ok (.goto (-79), 3) := by decide +kernel
theorem dX9_hear_99 : decode cX9_hear 99 = .ok (.return_, 1) := by decide +kernel
theorem dX9_signed_0 : decode cX9_signed 0 = .ok (.iload_n 1, 1) := by decide +kernel
theorem dX9_signed_1 : decode cX9_signed 1 = .ok (.iload_n 2, 1) := by decide +kernel
theorem dX9_signed_2 : decode cX9_signed 2 = .ok (.irem, 1) := by decide +kernel
theorem dX9_signed_3 : decode cX9_signed 3 = .ok (.iload_n 2, 1) := by decide +kernel
theorem dX9_signed_4 : decode cX9_signed 4 = .ok (.iconst 2, 1) := by decide +kernel
theorem dX9_signed_5 : decode cX9_signed 5 = .ok (.idiv, 1) := by decide +kernel
theorem dX9_signed_6 : decode cX9_signed 6 = .ok (.if_icmp .lt 8, 3) := by decide +kernel
theorem dX9_signed_9 : decode cX9_signed 9 = .ok (.iload_n 0, 1) := by decide +kernel
theorem dX9_signed_10 : decode cX9_signed 10 = .ok (.ineg, 1) := by decide +kernel
theorem dX9_signed_11 : decode cX9_signed 11 = .ok (.goto 4, 3) := by decide +kernel
theorem dX9_signed_14 : decode cX9_signed 14 = .ok (.iload_n 0, 1) := by decide +kernel
theorem dX9_signed_15 : decode cX9_signed 15 = .ok (.ireturn, 1) := by decide +kernel
theorem dX9_power_0 : decode cX9_power 0 = .ok (.aload_n 0, 1) := by decide +kernel
theorem dX9_power_1 : decode cX9_power 1 = .ok (.getfield 7, 3) := by decide +kernel
theorem dX9_power_4 : decode cX9_power 4 = .ok (.aload_n 0, 1) := by decide +kernel
theorem dX9_power_5 : decode cX9_power 5 = .ok (.getfield 7, 3) := by decide +kernel
theorem dX9_power_8 : decode cX9_power 8 = .ok (.lmul, 1) := by decide +kernel
theorem dX9_power_9 : decode cX9_power 9 = .ok (.aload_n 0, 1) := by decide +kernel
theorem dX9_power_10 : decode cX9_power 10 = .ok (.getfield 13, 3) := by decide +kernel
theorem dX9_power_13 : decode cX9_power 13 = .ok (.aload_n 0, 1) := by decide +kernel
theorem dX9_power_14 : decode cX9_power 14 = .ok (.getfield 13, 3) := by decide +kernel
theorem dX9_power_17 : decode cX9_power 17 = .ok (.lmul, 1) := by decide +kernel
theorem dX9_power_18 : decode cX9_power 18 = .ok (.ladd, 1) := by decide +kernel
theorem dX9_power_19 : decode cX9_power 19 = .ok (.lreturn, 1) := by decide +kernel
