/-! The start: what the entry of the law gives, both constructors, and then the loop. -/
set_option maxRecDepth 100000 in
theorem s_N : ∀ t ∈ q_nsL, q_nw t ∈ lw_tbl :=
  List.forall_mem_cons.mpr ⟨q_t1 31 (by decide +kernel),
  List.forall_mem_cons.mpr ⟨q_t1 32 (by decide +kernel),
  List.forall_mem_cons.mpr ⟨q_t1 34 (by decide +kernel),
  List.forall_mem_cons.mpr ⟨q_t1 55 (by decide +kernel),
  List.forall_mem_cons.mpr ⟨q_t1 56 (by decide +kernel),
  List.forall_mem_cons.mpr ⟨q_t1 58 (by decide +kernel),
  List.forall_mem_cons.mpr ⟨q_t1 59 (by decide +kernel),
  List.forall_mem_cons.mpr ⟨q_t1 61 (by decide +kernel),
  List.forall_mem_cons.mpr ⟨q_t1 62 (by decide +kernel),
  List.forall_mem_cons.mpr ⟨q_t1 64 (by decide +kernel),
  List.forall_mem_cons.mpr ⟨q_t1 65 (by decide +kernel),
  List.forall_mem_cons.mpr ⟨q_t1 83 (by decide +kernel),
  List.forall_mem_cons.mpr ⟨q_t1 84 (by decide +kernel),
  List.forall_mem_cons.mpr ⟨q_t1 85 (by decide +kernel),
  List.forall_mem_cons.mpr ⟨q_t1 87 (by decide +kernel),
  List.forall_mem_cons.mpr ⟨q_t1 88 (by decide +kernel),
  List.forall_mem_cons.mpr ⟨q_t1 90 (by decide +kernel),
  List.forall_mem_cons.mpr ⟨q_t1 91 (by decide +kernel),
  List.forall_mem_cons.mpr ⟨q_t1 92 (by decide +kernel),
  List.forall_mem_cons.mpr ⟨q_t1 107 (by decide +kernel),
  List.forall_mem_cons.mpr ⟨q_t1 109 (by decide +kernel),
  List.forall_mem_cons.mpr ⟨q_t1 111 (by decide +kernel),
  List.forall_mem_cons.mpr ⟨q_t1 112 (by decide +kernel),
  List.forall_mem_cons.mpr ⟨q_t1 113 (by decide +kernel),
  List.forall_mem_cons.mpr ⟨q_t1 114 (by decide +kernel),
  List.forall_mem_cons.mpr ⟨q_t1 115 (by decide +kernel),
  List.forall_mem_cons.mpr ⟨q_t1 116 (by decide +kernel),
  List.forall_mem_cons.mpr ⟨q_t1 129 (by decide +kernel),
  List.forall_mem_cons.mpr ⟨q_t1 130 (by decide +kernel),
  List.forall_mem_cons.mpr ⟨q_t1 132 (by decide +kernel),
  List.forall_mem_cons.mpr ⟨q_t1 133 (by decide +kernel),
  List.forall_mem_cons.mpr ⟨q_t1 135 (by decide +kernel),
  List.forall_mem_cons.mpr ⟨q_t1 136 (by decide +kernel),
  List.forall_mem_cons.mpr ⟨q_t1 138 (by decide +kernel),
  List.forall_mem_cons.mpr ⟨q_t1 139 (by decide +kernel),
  List.forall_mem_cons.mpr ⟨q_t1 140 (by decide +kernel),
  List.forall_mem_cons.mpr ⟨q_t1 142 (by decide +kernel),
  List.forall_mem_cons.mpr ⟨q_t1 143 (by decide +kernel),
  List.forall_mem_cons.mpr ⟨q_t1 145 (by decide +kernel),
  List.forall_mem_cons.mpr ⟨q_t1 146 (by decide +kernel),
  List.forall_mem_cons.mpr ⟨q_t1 148 (by decide +kernel),
  List.forall_mem_cons.mpr ⟨q_t1 149 (by decide +kernel),
  List.forall_mem_cons.mpr ⟨q_t1 151 (by decide +kernel),
  List.forall_mem_cons.mpr ⟨q_t1 155 (by decide +kernel),
  List.forall_mem_cons.mpr ⟨q_t1 157 (by decide +kernel),
  List.forall_mem_cons.mpr ⟨q_t1 159 (by decide +kernel),
  List.forall_mem_cons.mpr ⟨q_t1 160 (by decide +kernel),
  List.forall_mem_cons.mpr ⟨q_t1 161 (by decide +kernel),
  List.forall_mem_cons.mpr ⟨q_t1 163 (by decide +kernel),
  List.forall_mem_cons.mpr ⟨q_t1 164 (by decide +kernel),
  List.forall_mem_cons.mpr ⟨q_t1 166 (by decide +kernel),
  List.forall_mem_cons.mpr ⟨q_t1 168 (by decide +kernel),
  List.forall_mem_cons.mpr ⟨q_t1 170 (by decide +kernel),
  List.forall_mem_cons.mpr ⟨q_t1 172 (by decide +kernel),
  List.forall_mem_cons.mpr ⟨q_t1 174 (by decide +kernel),
  List.forall_mem_cons.mpr ⟨q_t2 39 (by decide +kernel),
  List.forall_mem_cons.mpr ⟨q_t2 41 (by decide +kernel),
  List.forall_mem_cons.mpr ⟨q_t2 58 (by decide +kernel),
  List.forall_mem_cons.mpr ⟨q_t2 59 (by decide +kernel),
  fun _ h => absurd h List.not_mem_nil⟩⟩⟩⟩⟩⟩⟩⟩⟩⟩⟩⟩⟩⟩⟩⟩⟩⟩⟩⟩⟩⟩⟩⟩⟩⟩⟩⟩⟩⟩⟩⟩⟩⟩⟩⟩⟩⟩⟩⟩⟩⟩⟩⟩⟩⟩⟩⟩⟩⟩⟩⟩⟩⟩⟩⟩⟩⟩⟩
set_option maxRecDepth 100000 in
theorem s_bN : ∀ t ∈ b_nmL, b_mw t ∈ lw_tbl :=
  List.forall_mem_cons.mpr ⟨q_t1 44 (by decide +kernel),
  List.forall_mem_cons.mpr ⟨q_t1 50 (by decide +kernel),
  List.forall_mem_cons.mpr ⟨q_t1 78 (by decide +kernel),
  List.forall_mem_cons.mpr ⟨q_t1 102 (by decide +kernel),
  List.forall_mem_cons.mpr ⟨q_t1 216 (by decide +kernel),
  List.forall_mem_cons.mpr ⟨q_t1 235 (by decide +kernel),
  List.forall_mem_cons.mpr ⟨q_t2 22 (by decide +kernel),
  List.forall_mem_cons.mpr ⟨q_t2 34 (by decide +kernel),
  List.forall_mem_cons.mpr ⟨q_t2 51 (by decide +kernel),
  fun _ h => absurd h List.not_mem_nil⟩⟩⟩⟩⟩⟩⟩⟩⟩
set_option maxRecDepth 100000 in
theorem s_objs : q_objs = ((0, 0) :: (1, 0) :: (1, 1) :: (1, 2) :: (2, 0) :: (2, 1) :: (2, 2) :: (2, 3) :: (2, 4) :: (2, 5) :: (2, 6) :: (3, 0) :: (3, 1) :: (3, 2) :: (3, 3) :: (3, 4) :: (3, 5) :: (3, 6) :: (4, 0) :: (4, 1) :: (4, 2) :: (4, 3) :: (4, 4) :: (4, 5) :: (4, 6) :: (5, 0) :: (5, 1) :: (5, 2) :: (5, 3) :: (5, 4) :: (5, 5) :: (5, 6) :: (6, 0) :: (7, 0) :: (8, 0) :: (8, 1) :: (8, 2) :: (8, 3) :: (8, 4) :: (8, 5) :: (8, 6) :: (8, 7) :: (9, 0) :: (9, 1) :: (9, 2) :: (9, 3) :: (9, 4) :: (9, 5) :: (9, 6) :: (9, 7) :: (10, 0) :: (10, 1) :: (20, 0) :: (20, 1) :: (20, 2) :: (21, 0) :: (22, 0) :: (23, 0) :: (30, 0) :: (30, 1) :: (30, 2) :: (30, 3) :: (30, 4) :: (30, 5) :: (31, 0) :: (31, 1) :: (31, 2) :: (31, 3) :: (31, 4) :: (31, 5) :: (32, 0) :: (32, 1) :: (32, 2) :: (32, 3) :: (32, 4) :: (32, 5) :: (32, 6) :: (32, 7) :: (33, 0) :: (33, 1) :: (33, 2) :: (34, 0) :: (35, 0) :: (36, 0) :: (37, 0) :: (37, 1) :: (37, 2) :: (37, 3) :: (37, 4) :: (37, 5) :: (37, 6) :: (38, 0) :: (38, 1) :: (38, 2) :: (38, 3) :: (38, 4) :: (38, 5) :: (38, 6) :: (39, 0) :: (39, 1) :: (39, 2) :: (39, 3) :: (39, 4) :: (39, 5) :: (39, 6) :: (40, 0) :: (40, 1) :: (40, 2) :: (40, 3) :: (40, 4) :: (40, 5) :: (40, 6) :: (41, 0) :: (41, 1) :: (41, 2) :: (41, 3) :: (41, 4) :: (41, 5) :: (41, 6) :: (42, 0) :: (42, 1) :: (42, 2) :: (42, 3) :: (42, 4) :: (42, 5) :: (42, 6) :: (43, 0) :: (43, 1) :: (43, 2) :: (43, 3) :: (43, 4) :: (43, 5) :: (43, 6) :: (44, 0) :: (44, 1) :: (44, 2) :: (44, 3) :: (44, 4) :: (44, 5) :: (44, 6) :: (45, 0) :: (45, 1) :: (45, 2) :: (45, 3) :: (45, 4) :: (45, 5) :: (45, 6) :: (46, 0) :: (46, 1) :: (46, 2) :: (46, 3) :: (46, 4) :: (46, 5) :: (46, 6) :: (47, 0) :: (48, 0) :: (49, 0) :: (50, 0) :: (51, 0) :: (52, 0) :: (52, 1) :: (52, 2) :: (52, 3) :: (52, 4) :: (52, 5) :: (52, 6) :: (52, 7) :: (53, 0) :: (53, 1) :: (53, 2) :: (53, 3) :: (53, 4) :: (53, 5) :: (53, 6) :: (53, 7) :: [] : List (Nat × Nat)) := by decide +kernel
set_option maxRecDepth 100000 in
theorem s_eqv (D : va_G) (ca : Nat → ClassId) (base : Nat) (V : qV) : ∀ o ∈ q_objs, b_eqv (b_V (b_G D ca base) V (b_off o.1 o.2)) (q_rep (b_G D ca base) b_mem0 o.1 o.2) := by
  rw [s_objs]
  exact List.forall_mem_cons.mpr ⟨bf_0_0 D ca base V,
  List.forall_mem_cons.mpr ⟨bf_1_0 D ca base V,
  List.forall_mem_cons.mpr ⟨bf_1_1 D ca base V,
  List.forall_mem_cons.mpr ⟨bf_1_2 D ca base V,
  List.forall_mem_cons.mpr ⟨bf_2_0 D ca base V,
  List.forall_mem_cons.mpr ⟨bf_2_1 D ca base V,
  List.forall_mem_cons.mpr ⟨bf_2_2 D ca base V,
  List.forall_mem_cons.mpr ⟨bf_2_3 D ca base V,
  List.forall_mem_cons.mpr ⟨bf_2_4 D ca base V,
  List.forall_mem_cons.mpr ⟨bf_2_5 D ca base V,
  List.forall_mem_cons.mpr ⟨bf_2_6 D ca base V,
  List.forall_mem_cons.mpr ⟨bf_3_0 D ca base V,
  List.forall_mem_cons.mpr ⟨bf_3_1 D ca base V,
  List.forall_mem_cons.mpr ⟨bf_3_2 D ca base V,
  List.forall_mem_cons.mpr ⟨bf_3_3 D ca base V,
  List.forall_mem_cons.mpr ⟨bf_3_4 D ca base V,
  List.forall_mem_cons.mpr ⟨bf_3_5 D ca base V,
  List.forall_mem_cons.mpr ⟨bf_3_6 D ca base V,
  List.forall_mem_cons.mpr ⟨bf_4_0 D ca base V,
  List.forall_mem_cons.mpr ⟨bf_4_1 D ca base V,
  List.forall_mem_cons.mpr ⟨bf_4_2 D ca base V,
  List.forall_mem_cons.mpr ⟨bf_4_3 D ca base V,
  List.forall_mem_cons.mpr ⟨bf_4_4 D ca base V,
  List.forall_mem_cons.mpr ⟨bf_4_5 D ca base V,
  List.forall_mem_cons.mpr ⟨bf_4_6 D ca base V,
  List.forall_mem_cons.mpr ⟨bf_5_0 D ca base V,
  List.forall_mem_cons.mpr ⟨bf_5_1 D ca base V,
  List.forall_mem_cons.mpr ⟨bf_5_2 D ca base V,
  List.forall_mem_cons.mpr ⟨bf_5_3 D ca base V,
  List.forall_mem_cons.mpr ⟨bf_5_4 D ca base V,
  List.forall_mem_cons.mpr ⟨bf_5_5 D ca base V,
  List.forall_mem_cons.mpr ⟨bf_5_6 D ca base V,
  List.forall_mem_cons.mpr ⟨bf_6_0 D ca base V,
  List.forall_mem_cons.mpr ⟨bf_7_0 D ca base V,
  List.forall_mem_cons.mpr ⟨bf_8_0 D ca base V,
  List.forall_mem_cons.mpr ⟨bf_8_1 D ca base V,
  List.forall_mem_cons.mpr ⟨bf_8_2 D ca base V,
  List.forall_mem_cons.mpr ⟨bf_8_3 D ca base V,
  List.forall_mem_cons.mpr ⟨bf_8_4 D ca base V,
  List.forall_mem_cons.mpr ⟨bf_8_5 D ca base V,
  List.forall_mem_cons.mpr ⟨bf_8_6 D ca base V,
  List.forall_mem_cons.mpr ⟨bf_8_7 D ca base V,
  List.forall_mem_cons.mpr ⟨bf_9_0 D ca base V,
  List.forall_mem_cons.mpr ⟨bf_9_1 D ca base V,
  List.forall_mem_cons.mpr ⟨bf_9_2 D ca base V,
  List.forall_mem_cons.mpr ⟨bf_9_3 D ca base V,
  List.forall_mem_cons.mpr ⟨bf_9_4 D ca base V,
  List.forall_mem_cons.mpr ⟨bf_9_5 D ca base V,
  List.forall_mem_cons.mpr ⟨bf_9_6 D ca base V,
  List.forall_mem_cons.mpr ⟨bf_9_7 D ca base V,
  List.forall_mem_cons.mpr ⟨bf_10_0 D ca base V,
  List.forall_mem_cons.mpr ⟨bf_10_1 D ca base V,
  List.forall_mem_cons.mpr ⟨bf_20_0 D ca base V,
  List.forall_mem_cons.mpr ⟨bf_20_1 D ca base V,
  List.forall_mem_cons.mpr ⟨bf_20_2 D ca base V,
  List.forall_mem_cons.mpr ⟨bf_21_0 D ca base V,
  List.forall_mem_cons.mpr ⟨bf_22_0 D ca base V,
  List.forall_mem_cons.mpr ⟨bf_23_0 D ca base V,
  List.forall_mem_cons.mpr ⟨bf_30_0 D ca base V,
  List.forall_mem_cons.mpr ⟨bf_30_1 D ca base V,
  List.forall_mem_cons.mpr ⟨bf_30_2 D ca base V,
  List.forall_mem_cons.mpr ⟨bf_30_3 D ca base V,
  List.forall_mem_cons.mpr ⟨bf_30_4 D ca base V,
  List.forall_mem_cons.mpr ⟨bf_30_5 D ca base V,
  List.forall_mem_cons.mpr ⟨bf_31_0 D ca base V,
  List.forall_mem_cons.mpr ⟨bf_31_1 D ca base V,
  List.forall_mem_cons.mpr ⟨bf_31_2 D ca base V,
  List.forall_mem_cons.mpr ⟨bf_31_3 D ca base V,
  List.forall_mem_cons.mpr ⟨bf_31_4 D ca base V,
  List.forall_mem_cons.mpr ⟨bf_31_5 D ca base V,
  List.forall_mem_cons.mpr ⟨bf_32_0 D ca base V,
  List.forall_mem_cons.mpr ⟨bf_32_1 D ca base V,
  List.forall_mem_cons.mpr ⟨bf_32_2 D ca base V,
  List.forall_mem_cons.mpr ⟨bf_32_3 D ca base V,
  List.forall_mem_cons.mpr ⟨bf_32_4 D ca base V,
  List.forall_mem_cons.mpr ⟨bf_32_5 D ca base V,
  List.forall_mem_cons.mpr ⟨bf_32_6 D ca base V,
  List.forall_mem_cons.mpr ⟨bf_32_7 D ca base V,
  List.forall_mem_cons.mpr ⟨bf_33_0 D ca base V,
  List.forall_mem_cons.mpr ⟨bf_33_1 D ca base V,
  List.forall_mem_cons.mpr ⟨bf_33_2 D ca base V,
  List.forall_mem_cons.mpr ⟨bf_34_0 D ca base V,
  List.forall_mem_cons.mpr ⟨bf_35_0 D ca base V,
  List.forall_mem_cons.mpr ⟨bf_36_0 D ca base V,
  List.forall_mem_cons.mpr ⟨bf_37_0 D ca base V,
  List.forall_mem_cons.mpr ⟨bf_37_1 D ca base V,
  List.forall_mem_cons.mpr ⟨bf_37_2 D ca base V,
  List.forall_mem_cons.mpr ⟨bf_37_3 D ca base V,
  List.forall_mem_cons.mpr ⟨bf_37_4 D ca base V,
  List.forall_mem_cons.mpr ⟨bf_37_5 D ca base V,
  List.forall_mem_cons.mpr ⟨bf_37_6 D ca base V,
  List.forall_mem_cons.mpr ⟨bf_38_0 D ca base V,
  List.forall_mem_cons.mpr ⟨bf_38_1 D ca base V,
  List.forall_mem_cons.mpr ⟨bf_38_2 D ca base V,
  List.forall_mem_cons.mpr ⟨bf_38_3 D ca base V,
  List.forall_mem_cons.mpr ⟨bf_38_4 D ca base V,
  List.forall_mem_cons.mpr ⟨bf_38_5 D ca base V,
  List.forall_mem_cons.mpr ⟨bf_38_6 D ca base V,
  List.forall_mem_cons.mpr ⟨bf_39_0 D ca base V,
  List.forall_mem_cons.mpr ⟨bf_39_1 D ca base V,
  List.forall_mem_cons.mpr ⟨bf_39_2 D ca base V,
  List.forall_mem_cons.mpr ⟨bf_39_3 D ca base V,
  List.forall_mem_cons.mpr ⟨bf_39_4 D ca base V,
  List.forall_mem_cons.mpr ⟨bf_39_5 D ca base V,
  List.forall_mem_cons.mpr ⟨bf_39_6 D ca base V,
  List.forall_mem_cons.mpr ⟨bf_40_0 D ca base V,
  List.forall_mem_cons.mpr ⟨bf_40_1 D ca base V,
  List.forall_mem_cons.mpr ⟨bf_40_2 D ca base V,
  List.forall_mem_cons.mpr ⟨bf_40_3 D ca base V,
  List.forall_mem_cons.mpr ⟨bf_40_4 D ca base V,
  List.forall_mem_cons.mpr ⟨bf_40_5 D ca base V,
  List.forall_mem_cons.mpr ⟨bf_40_6 D ca base V,
  List.forall_mem_cons.mpr ⟨bf_41_0 D ca base V,
  List.forall_mem_cons.mpr ⟨bf_41_1 D ca base V,
  List.forall_mem_cons.mpr ⟨bf_41_2 D ca base V,
  List.forall_mem_cons.mpr ⟨bf_41_3 D ca base V,
  List.forall_mem_cons.mpr ⟨bf_41_4 D ca base V,
  List.forall_mem_cons.mpr ⟨bf_41_5 D ca base V,
  List.forall_mem_cons.mpr ⟨bf_41_6 D ca base V,
  List.forall_mem_cons.mpr ⟨bf_42_0 D ca base V,
  List.forall_mem_cons.mpr ⟨bf_42_1 D ca base V,
  List.forall_mem_cons.mpr ⟨bf_42_2 D ca base V,
  List.forall_mem_cons.mpr ⟨bf_42_3 D ca base V,
  List.forall_mem_cons.mpr ⟨bf_42_4 D ca base V,
  List.forall_mem_cons.mpr ⟨bf_42_5 D ca base V,
  List.forall_mem_cons.mpr ⟨bf_42_6 D ca base V,
  List.forall_mem_cons.mpr ⟨bf_43_0 D ca base V,
  List.forall_mem_cons.mpr ⟨bf_43_1 D ca base V,
  List.forall_mem_cons.mpr ⟨bf_43_2 D ca base V,
  List.forall_mem_cons.mpr ⟨bf_43_3 D ca base V,
  List.forall_mem_cons.mpr ⟨bf_43_4 D ca base V,
  List.forall_mem_cons.mpr ⟨bf_43_5 D ca base V,
  List.forall_mem_cons.mpr ⟨bf_43_6 D ca base V,
  List.forall_mem_cons.mpr ⟨bf_44_0 D ca base V,
  List.forall_mem_cons.mpr ⟨bf_44_1 D ca base V,
  List.forall_mem_cons.mpr ⟨bf_44_2 D ca base V,
  List.forall_mem_cons.mpr ⟨bf_44_3 D ca base V,
  List.forall_mem_cons.mpr ⟨bf_44_4 D ca base V,
  List.forall_mem_cons.mpr ⟨bf_44_5 D ca base V,
  List.forall_mem_cons.mpr ⟨bf_44_6 D ca base V,
  List.forall_mem_cons.mpr ⟨bf_45_0 D ca base V,
  List.forall_mem_cons.mpr ⟨bf_45_1 D ca base V,
  List.forall_mem_cons.mpr ⟨bf_45_2 D ca base V,
  List.forall_mem_cons.mpr ⟨bf_45_3 D ca base V,
  List.forall_mem_cons.mpr ⟨bf_45_4 D ca base V,
  List.forall_mem_cons.mpr ⟨bf_45_5 D ca base V,
  List.forall_mem_cons.mpr ⟨bf_45_6 D ca base V,
  List.forall_mem_cons.mpr ⟨bf_46_0 D ca base V,
  List.forall_mem_cons.mpr ⟨bf_46_1 D ca base V,
  List.forall_mem_cons.mpr ⟨bf_46_2 D ca base V,
  List.forall_mem_cons.mpr ⟨bf_46_3 D ca base V,
  List.forall_mem_cons.mpr ⟨bf_46_4 D ca base V,
  List.forall_mem_cons.mpr ⟨bf_46_5 D ca base V,
  List.forall_mem_cons.mpr ⟨bf_46_6 D ca base V,
  List.forall_mem_cons.mpr ⟨bf_47_0 D ca base V,
  List.forall_mem_cons.mpr ⟨bf_48_0 D ca base V,
  List.forall_mem_cons.mpr ⟨bf_49_0 D ca base V,
  List.forall_mem_cons.mpr ⟨bf_50_0 D ca base V,
  List.forall_mem_cons.mpr ⟨bf_51_0 D ca base V,
  List.forall_mem_cons.mpr ⟨bf_52_0 D ca base V,
  List.forall_mem_cons.mpr ⟨bf_52_1 D ca base V,
  List.forall_mem_cons.mpr ⟨bf_52_2 D ca base V,
  List.forall_mem_cons.mpr ⟨bf_52_3 D ca base V,
  List.forall_mem_cons.mpr ⟨bf_52_4 D ca base V,
  List.forall_mem_cons.mpr ⟨bf_52_5 D ca base V,
  List.forall_mem_cons.mpr ⟨bf_52_6 D ca base V,
  List.forall_mem_cons.mpr ⟨bf_52_7 D ca base V,
  List.forall_mem_cons.mpr ⟨bf_53_0 D ca base V,
  List.forall_mem_cons.mpr ⟨bf_53_1 D ca base V,
  List.forall_mem_cons.mpr ⟨bf_53_2 D ca base V,
  List.forall_mem_cons.mpr ⟨bf_53_3 D ca base V,
  List.forall_mem_cons.mpr ⟨bf_53_4 D ca base V,
  List.forall_mem_cons.mpr ⟨bf_53_5 D ca base V,
  List.forall_mem_cons.mpr ⟨bf_53_6 D ca base V,
  List.forall_mem_cons.mpr ⟨bf_53_7 D ca base V,
  fun _ h => absurd h List.not_mem_nil⟩⟩⟩⟩⟩⟩⟩⟩⟩⟩⟩⟩⟩⟩⟩⟩⟩⟩⟩⟩⟩⟩⟩⟩⟩⟩⟩⟩⟩⟩⟩⟩⟩⟩⟩⟩⟩⟩⟩⟩⟩⟩⟩⟩⟩⟩⟩⟩⟩⟩⟩⟩⟩⟩⟩⟩⟩⟩⟩⟩⟩⟩⟩⟩⟩⟩⟩⟩⟩⟩⟩⟩⟩⟩⟩⟩⟩⟩⟩⟩⟩⟩⟩⟩⟩⟩⟩⟩⟩⟩⟩⟩⟩⟩⟩⟩⟩⟩⟩⟩⟩⟩⟩⟩⟩⟩⟩⟩⟩⟩⟩⟩⟩⟩⟩⟩⟩⟩⟩⟩⟩⟩⟩⟩⟩⟩⟩⟩⟩⟩⟩⟩⟩⟩⟩⟩⟩⟩⟩⟩⟩⟩⟩⟩⟩⟩⟩⟩⟩⟩⟩⟩⟩⟩⟩⟩⟩⟩⟩⟩⟩⟩⟩⟩⟩⟩⟩⟩⟩⟩⟩⟩⟩⟩⟩
theorem df_X10 : ∀ j, j < 19 → defaultValue (tyX10 j) = vp_V [.null, .null, .null, .null, .null, .null, .null, .null, .null, .null, .null, .null, .null, .null, .int 0, .int 0, .int 0, .long 0, .long 0] j := by
  intro j hj
  match j, hj with
  | 0, _ => rfl
  | 1, _ => rfl
  | 2, _ => rfl
  | 3, _ => rfl
  | 4, _ => rfl
  | 5, _ => rfl
  | 6, _ => rfl
  | 7, _ => rfl
  | 8, _ => rfl
  | 9, _ => rfl
  | 10, _ => rfl
  | 11, _ => rfl
  | 12, _ => rfl
  | 13, _ => rfl
  | 14, _ => rfl
  | 15, _ => rfl
  | 16, _ => rfl
  | 17, _ => rfl
  | 18, _ => rfl
  | n + 19, h => exact absurd h (by omega)
theorem eL_law_0 : decode cL_law 0 = .ok (.new 20, 3) := by decide +kernel
theorem eL_law_3 : decode cL_law 3 = .ok (.dup, 1) := by decide +kernel
theorem eL_law_4 : decode cL_law 4 = .ok (.invokespecial 42, 3) := by decide +kernel
theorem eL_law_7 : decode cL_law 7 = .ok (.astore_n 1, 1) := by decide +kernel
theorem ws_0 : Cond.classLink RL 20 RX10 ∈ q_tb := q_tb_of (q_t1 14 (by decide +kernel)) rfl
theorem ws_1 : Cond.methodLink RL 42 yX10_init ∈ q_tb := q_tb_of (q_t1 16 (by decide +kernel)) rfl
theorem wi_0 : Cond.instantiable RX0 19 ∈ q_tb := q_tb_of (q_t1 43 (by decide +kernel)) rfl
theorem wi_1 : Cond.instantiable RX1 3 ∈ q_tb := q_tb_of (q_t2 33 (by decide +kernel)) rfl
theorem wi_2 : Cond.instantiable RX2 6 ∈ q_tb := q_tb_of (q_t2 50 (by decide +kernel)) rfl
theorem wi_3 : Cond.instantiable RX3 4 ∈ q_tb := q_tb_of (q_t1 49 (by decide +kernel)) rfl
theorem wi_4 : Cond.instantiable RX4 5 ∈ q_tb := q_tb_of (q_t1 101 (by decide +kernel)) rfl
theorem wi_5 : Cond.instantiable RX5 3 ∈ q_tb := q_tb_of (q_t1 77 (by decide +kernel)) rfl
theorem wi_6 : Cond.instantiable RX6 7 ∈ q_tb := q_tb_of (q_t1 234 (by decide +kernel)) rfl
theorem wi_7 : Cond.instantiable RX7 2 ∈ q_tb := q_tb_of (q_t1 23 (by decide +kernel)) rfl
theorem wi_8 : Cond.instantiable RX8 4 ∈ q_tb := q_tb_of (q_t1 215 (by decide +kernel)) rfl
theorem wi_9 : Cond.instantiable RX9 3 ∈ q_tb := q_tb_of (q_t2 21 (by decide +kernel)) rfl
theorem wi_10 : Cond.instantiable RX10 19 ∈ q_tb := q_tb_of (q_t1 15 (by decide +kernel)) rfl
theorem wa_0 : Cond.arrayClass .int ∈ lw_tbl := q_t1 40 (by decide +kernel)
theorem wa_1 : Cond.arrayClass .boolean ∈ lw_tbl := q_t1 75 (by decide +kernel)
theorem wa_2 : Cond.arrayClass .int ∈ lw_tbl := q_t1 40 (by decide +kernel)
theorem wa_3 : Cond.arrayOver (.object "SeaCells$Board") ∈ lw_tbl := q_t1 42 (by decide +kernel)
theorem wa_4 : Cond.arrayOver (.object "SeaCells$Boat") ∈ lw_tbl := q_t2 17 (by decide +kernel)
theorem wa_5 : Cond.arrayOver (.object "SeaCells$Gauge") ∈ lw_tbl := q_t2 19 (by decide +kernel)
theorem wa_6 : Cond.arrayOver (.array .int) ∈ lw_tbl := q_t1 29 (by decide +kernel)
theorem s_arrC {A : Array Value} {s : State} {ty : FieldType} (h : (Cond.arrayClass ty).before A s = true) : ∃ c, ArrOfT s c ty ∧ s.vm.findClass ("[" ++ ty.toString) = some c := by
  obtain ⟨c, k, comp, h1, h2, h3⟩ := Cond.arrayClass_spec h
  exact ⟨c, fun n z => ⟨(fun k h => by cases h), k, h2, comp, h3⟩, h1⟩
theorem s_arrO {A : Array Value} {s : State} {C : String} (h : (Cond.arrayOver (.object C)).before A s = true) : ∃ c, ArrOfT s c (.object C) ∧ va_RA s c (.object C) := by
  obtain ⟨comp, c, k, h1, h2, h3, h4, h5⟩ := Cond.arrayOver_spec h
  exact ⟨c, fun n z => ⟨(fun k h => by cases h), k, h3, comp, h4⟩, k, comp, h3, h4, h1, h5⟩
theorem s_arrA {A : Array Value} {s : State} (h : (Cond.arrayOver (.array .int)).before A s = true) : ∃ c, ArrOfT s c (.array .int) ∧ s.vm.findClass ("[" ++ (FieldType.array .int).toString) = some c := by
  unfold Cond.before Cond.holds at h
  simp only [Cond.value, beq_iff_eq] at h
  cases hc : s.vm.findClass (FieldType.array .int).toString with
  | none => rw [hc] at h; simp at h
  | some comp =>
    rw [hc, Option.bind_some, Option.bind_eq_some_iff] at h
    obtain ⟨c, hi, h2⟩ := h
    rw [Option.map_eq_some_iff] at h2
    obtain ⟨k, hk, hb⟩ := h2
    cases hkd : k.kind with
    | array comp2 ty =>
      rw [hkd] at hb
      dsimp only at hb
      rw [Bool.and_eq_true] at hb
      have e1 := of_decide_eq_true hb.1
      have e2 := of_decide_eq_true hb.2
      exact ⟨c, fun n z => ⟨(fun k h => by cases h), k, hk, comp2, by rw [hkd, e1]⟩, e2⟩
    | _ => rw [hkd] at hb; simp at hb
set_option maxRecDepth 100000 in
theorem s_off : ∀ o ∈ q_objs, b_off o.1 o.2 < 175 := by decide +kernel
set_option maxRecDepth 100000 in
theorem s_nd : va_nd (q_objs.map (fun o => b_off o.1 o.2)) = true := by decide +kernel
theorem s_D {D : va_G} {ca : Nat → ClassId} {base : Nat} : q_D (b_G D ca base) := by
  intro μ
  refine ⟨fun i j p q hi hj hpq => ?_, fun k q hk => ?_⟩
  · unfold q_pic at hi hj
    rw [List.getElem?_map, Option.map_eq_some_iff] at hi hj
    obtain ⟨o, ho, rfl⟩ := hi
    obtain ⟨o', ho', rfl⟩ := hj
    have h : base + b_off o.1 o.2 = base + b_off o'.1 o'.2 := hpq
    have h2 : b_off o'.1 o'.2 = b_off o.1 o.2 := by omega
    exact va_nd_inj _ s_nd i j (b_off o.1 o.2) (by rw [List.getElem?_map, ho]; rfl) (by rw [List.getElem?_map, ho', ← h2]; rfl)
  · unfold q_pic at hk
    rw [List.getElem?_map, Option.map_eq_some_iff] at hk
    obtain ⟨o, ho, rfl⟩ := hk
    exact Nat.le_add_right _ _
theorem s_W {D : va_G} {ca : Nat → ClassId} {base : Nat} {V : qV} {H : Heap} (h : b_W (b_G D ca base) 175 (b_V (b_G D ca base) V) H) : q_W (b_G D ca base) b_mem0 H := by
  intro k q hk
  unfold q_pic at hk
  rw [List.getElem?_map, Option.map_eq_some_iff] at hk
  obtain ⟨o, ho, rfl⟩ := hk
  have hm := List.mem_of_getElem? ho
  exact s_eqv D ca base V o hm _ _ _ _ (h _ _ (b_get (s_off o hm)))
theorem s_K {A : Array Value} {s : State} (hts : ∀ w ∈ q_tb, w.before A s = true) (htt : ∀ w ∈ lw_tbl, w.before A s = true) : ∃ (D : va_G) (ca : Nat → ClassId), ∀ base, q_K (b_G D ca base) s := by
  have H : ∀ c : Nat, ∃ (cC : ClassId) (iS : Nat → Nat), ∀ q : vw_C, vwCl[c]? = some q → u_Kn s q.1 q.2.1 q.2.2 cC iS := by
    intro c
    match c with
    | 0 =>
      obtain ⟨cC, iS, h⟩ := u_known hts in_X0 (hts _ wi_0)
      exact ⟨cC, iS, fun q hq => by cases hq; exact h⟩
    | 1 =>
      obtain ⟨cC, iS, h⟩ := u_known hts in_X1 (hts _ wi_1)
      exact ⟨cC, iS, fun q hq => by cases hq; exact h⟩
    | 2 =>
      obtain ⟨cC, iS, h⟩ := u_known hts in_X2 (hts _ wi_2)
      exact ⟨cC, iS, fun q hq => by cases hq; exact h⟩
    | 3 =>
      obtain ⟨cC, iS, h⟩ := u_known hts in_X3 (hts _ wi_3)
      exact ⟨cC, iS, fun q hq => by cases hq; exact h⟩
    | 4 =>
      obtain ⟨cC, iS, h⟩ := u_known hts in_X4 (hts _ wi_4)
      exact ⟨cC, iS, fun q hq => by cases hq; exact h⟩
    | 5 =>
      obtain ⟨cC, iS, h⟩ := u_known hts in_X5 (hts _ wi_5)
      exact ⟨cC, iS, fun q hq => by cases hq; exact h⟩
    | 6 =>
      obtain ⟨cC, iS, h⟩ := u_known hts in_X6 (hts _ wi_6)
      exact ⟨cC, iS, fun q hq => by cases hq; exact h⟩
    | 7 =>
      obtain ⟨cC, iS, h⟩ := u_known hts in_X7 (hts _ wi_7)
      exact ⟨cC, iS, fun q hq => by cases hq; exact h⟩
    | 8 =>
      obtain ⟨cC, iS, h⟩ := u_known hts in_X8 (hts _ wi_8)
      exact ⟨cC, iS, fun q hq => by cases hq; exact h⟩
    | 9 =>
      obtain ⟨cC, iS, h⟩ := u_known hts in_X9 (hts _ wi_9)
      exact ⟨cC, iS, fun q hq => by cases hq; exact h⟩
    | 10 =>
      obtain ⟨cC, iS, h⟩ := u_known hts in_X10 (hts _ wi_10)
      exact ⟨cC, iS, fun q hq => by cases hq; exact h⟩
    | n + 11 => exact ⟨0, fun _ => 0, fun q hq => by simp [vwCl] at hq⟩
  obtain ⟨c0, a0, b0⟩ := s_arrC (htt _ wa_0)
  obtain ⟨c1, a1, b1⟩ := s_arrC (htt _ wa_1)
  obtain ⟨c2, a2, b2⟩ := s_arrC (htt _ wa_2)
  obtain ⟨c3, a3, b3⟩ := s_arrO (htt _ wa_3)
  obtain ⟨c4, a4, b4⟩ := s_arrO (htt _ wa_4)
  obtain ⟨c5, a5, b5⟩ := s_arrO (htt _ wa_5)
  obtain ⟨c6, a6, b6⟩ := s_arrA (htt _ wa_6)
  refine ⟨(fun c => (H c).choose, fun c => (H c).choose_spec.choose), fun j => match j with | 0 => c0 | 1 => c1 | 2 => c2 | 3 => c3 | 4 => c4 | 5 => c5 | _ => c6, fun base => ⟨fun c q hq => (H c).choose_spec.choose_spec q hq, fun k q hk => ?_⟩⟩
  match k, hk with
  | 0, hk => cases hk; exact ⟨a0, b0⟩
  | 1, hk => cases hk; exact ⟨a1, b1⟩
  | 2, hk => cases hk; exact ⟨a2, b2⟩
  | 3, hk => cases hk; exact ⟨a3, b3⟩
  | 4, hk => cases hk; exact ⟨a4, b4⟩
  | 5, hk => cases hk; exact ⟨a5, b5⟩
  | 6, hk => cases hk; exact ⟨a6, b6⟩
  | n + 7, hk => simp [q_tys] at hk
def sW (l : Launch) (G : qG) (p : Program) (e : Env) (s : State) (m : MethodId) (args : Array Value) (below : List Frame) (meth : Method) (c : Code) (Q : State → Prop) (pc : Nat) (lv : List (Nat × Value)) (st : List Value) (n : Nat) (V : qV) (cl sl : Nat) : Prop :=
  ∀ (H : Heap) (locs : List Loc) (ls : Array Slot), b_W G n V H → va_S (q_A G) s.heap H locs → lv_has ls 12 lv → W p l e room_1 s m args below meth c H locs cl sl Q (F0 m pc ls st)
section SW
variable {l : Launch} {G : qG} {p : Program} {e : Env} {s : State} {m : MethodId} {args : Array Value} {below : List Frame} {meth : Method} {c : Code} {Q : State → Prop} {pc : Nat} {lv : List (Nat × Value)} {st : List Value} {n : Nat} {V : qV} {cl sl : Nat}
theorem s_new {N ci idx : Nat} {C : String} {T : u_T} {ty : Nat → FieldType} {fs : List Value} (hc : CallFix p m c cL_law 12 s args q_tb RL) (hSt : b_St G s) (hz : s.heap.size + cl = G.2.2.2 + n) (d : decode cL_law pc = .ok (.new idx, 3)) (k : Nat) (hn : pc + 3 = k) (hin : ∀ w ∈ u_ws C T N, w ∈ q_tb) (hty : ∀ k, k < N → parseFieldDescriptor (T k).2.2.1 = some (ty k)) (hw1 : Cond.classLink RL idx C ∈ q_tb) (hw2 : Cond.instantiable C N ∈ q_tb) (hw3 : Cond.initialized C ∈ q_tb) (hcl : vwCl[ci]? = some (C, T, N)) (hfs : ∀ j, j < N → defaultValue (ty j) = vp_V fs j) (hcells : cl + 1 ≤ room_1.cells) (hslots : sl + N ≤ room_1.slots) (n' c' s' : Nat) (e1 : n + 1 = n') (e2 : cl + 1 = c') (e3 : sl + N = s') (K : sW l G p e s m args below meth c Q k lv (.ref (G.2.2.2 + n) :: st) n' (b_up V n (.inr (ci, fs))) c' s') : sW l G p e s m args below meth c Q pc lv st n V cl sl := by
  subst hn
  subst e1 e2 e3
  intro H locs ls hP hS hl
  refine b_size hP hS hz hSt.2.2.2 (fun hsz => ?_)
  have hKn := hSt.1.1 ci _ hcl
  refine W.newcK hc.1 hc.2.1 hc.2.2.2.1 (hc.2.2.2.2 _ hw1) (hc.2.2.2.2 _ hw2) (hc.2.2.2.2 _ hw3) rfl d hcells hslots hKn.2.1 hsz fun H1 kC hkC e1 z1 o1 => ?_
  exact K H1 locs ls (b_push hP (fun q hq => o1 q (by omega)) ⟨_, hcl, (u_born ty hc.2.2.2.2 hin hKn hkC e1 hty).to hfs⟩) (b_keepS hS (by omega) (fun q hq => o1 q (by omega))) hl
theorem s_call {idx nn i n2 mc ms : Nat} {M2 : qMd} {V2 : qV} {As rest : List Value} (hc : CallFix p m c cL_law 12 s args q_tb RL) (hSt : b_St G s) (hz : s.heap.size + cl = G.2.2.2 + n) (d : decode cL_law pc = .ok (.invokespecial idx, 3)) (k : Nat) (hn : pc + 3 = k) (hC : qBC l G M2 (.ref i :: As) n V (n2, V2, mc, ms)) (hl2 : Cond.methodLink RL idx M2.2.2.1 ∈ q_tb) (hwi : b_Wi M2) (pk : b_Pk M2 nn mc ms) (hnn : As.length = nn) (hR : M2.1.frames + 1 ≤ room_1.frames ∧ 8 + (M2.2.2.2.2.1 + 11) + M2.1.locals ≤ room_1.locals) (hX : cl + mc ≤ room_1.cells ∧ sl + ms ≤ room_1.slots) (hst : st = As.reverse ++ .ref i :: rest) (hcat : (rest.map fun v => v.category).sum ≤ 8) (c' s' : Nat) (e2 : cl + mc = c') (e3 : sl + ms = s') (K : sW l G p e s m args below meth c Q k lv rest n2 V2 c' s') : sW l G p e s m args below meth c Q pc lv st n V cl sl := by
  subst hn hst e2 e3
  obtain ⟨hc0, hs0, -, -, hnm, ⟨hd1, hd2, hd3⟩, hrt⟩ := pk
  intro H locs ls hP hS hl
  refine b_size hP hS hz hSt.2.2.2 (fun hsz => ?_)
  exact b_callR (va_runI (nL := 12) (bytes := M2.2.2.2.1) (maxL := M2.2.2.2.2.1) hc hC (cwI (ws' := q_tb) nn hc.2.2.2.2 (q_gws hwi.1) (by unfold q_ws; rw [hrt]) hc0 hs0 (hc.2.2.2.2 _ hwi.2.1) (hc.2.2.2.2 _ hl2) (hc.2.2.2.2 _ hwi.2.2) hnm ⟨hd1, hd2, hd3⟩ hR) ⟨b_blind, fun U hU hW => ⟨rfl, by rw [hU]; exact hP, b_St_call hU hW hSt hS.1, by rw [hU]; exact hsz⟩⟩ rfl hnn hl.1 rfl (by show 2 * 0 + _ ≤ 8; omega) d hX) hS (fun H1 locs1 hP1 hS1 => K H1 locs1 ls hP1 hS1 hl)
end SW
def s_V0 : qV := fun _ => .inl (0, 0, .inl (fun _ => 0))
set_option maxRecDepth 100000 in
theorem s_walk {p : Program} {e : Env} {s : State} {m : MethodId} {below : List Frame} {meth : Method} {c : Code} (l : Launch) {b L : Nat} {xs : Nat → Int32} (D : va_G) (ca : Nat → ClassId) (hL : L ≤ 260) (hc : CallFix p m c cL_law 12 s #[Value.ref b] q_tb RL) (hSt : b_St (b_G D ca s.heap.size) s) (hN : q_N s) (hr : meth.sig.returnType = ret) (hlocks : meth.locks = false) (hX : va_X b L xs s s.heap) (hbl : b < s.heap.size) : sW l (b_G D ca s.heap.size) p e s m #[Value.ref b] below meth c (lw_Z below #[Value.ref b] s) 0 [(0, .ref b)] [] 0 s_V0 0 0 := by
  refine s_new (ci := 10) (fs := [.null, .null, .null, .null, .null, .null, .null, .null, .null, .null, .null, .null, .null, .null, .int 0, .int 0, .int 0, .long 0, .long 0]) hc hSt rfl eL_law_0 3 rfl in_X10 tyX10_ok ws_0 wi_10 wc_114 rfl df_X10 (Nat.le_of_ble_eq_true rfl) (Nat.le_of_ble_eq_true rfl) 1 1 19 rfl rfl rfl ?_
  intro H locs ls hP hS hl
  refine lv_dup hc.1 hc.2.1 eL_law_3 rfl ?_
  revert H locs ls hP hS hl
  show sW l (b_G D ca s.heap.size) p e s m #[Value.ref b] below meth c (lw_Z below #[Value.ref b] s) 4 [(0, .ref b)] [.ref ((b_G D ca s.heap.size).2.2.2 + 0), .ref ((b_G D ca s.heap.size).2.2.2 + 0)] 1 (b_up s_V0 0 (.inr (10, [.null, .null, .null, .null, .null, .null, .null, .null, .null, .null, .null, .null, .null, .null, .int 0, .int 0, .int 0, .long 0, .long 0]))) 1 19
  refine s_call (As := []) (rest := [.ref ((b_G D ca s.heap.size).2.2.2 + 0)]) hc hSt rfl eL_law_4 7 rfl (kc_X10_init l _ _ b_same) ws_1 wi_X10_init pi_X10_init rfl ⟨Nat.le_of_ble_eq_true rfl, Nat.le_of_ble_eq_true rfl⟩ ⟨Nat.le_of_ble_eq_true rfl, Nat.le_of_ble_eq_true rfl⟩ rfl (Nat.le_of_ble_eq_true rfl) 175 5548 rfl rfl ?_
  intro H locs ls hP hS hl
  refine lv_astore_n (i := 1) (lv' := [(1, .ref (s.heap.size + 0)), (0, .ref b)]) hc.1 hc.2.1 eL_law_7 rfl hl (by decide) rfl (fun ls hl => ?_)
  refine W.widen (k := 400) (n := 20000) (Nat.le_of_ble_eq_true rfl) (Nat.le_of_ble_eq_true rfl) ?_
  obtain ⟨μ', hr'⟩ := law_start (b0 := b) (f0 := xs) hL
  exact TC_L_law_8 l (b_G D ca s.heap.size) b L xs b_mem0 p e s m #[Value.ref b] below meth c ⟨hc, hr, hlocks, hSt.1, s_D, hSt.2.2.2, hN, rfl, hX, hbl, rfl⟩ 1 μ' hr' H locs ls (s_W hP) hS hl
theorem whole_start {p : Program} {e : Env} {s : State} {m : MethodId} {below : List Frame} {meth : Method} {c : Code} (l : Launch) (hflags : l.flags = flags0) {b L : Nat} {xs : Nat → Int32} (hL : L ≤ 260) (C0 : lw_At p s m meth c b L xs) : W p l e room_1 s m #[Value.ref b] below meth c s.heap [] 0 0 (lw_Z below #[Value.ref b] s) (entryFrame m ([Value.ref b] : List Value).toArray 12) := by
  obtain ⟨hx, hb, hr, hml, hown, hts, hX, hbl, hlocks, hgv⟩ := id C0
  have htb : ∀ w ∈ q_tb, w.before #[Value.ref b] s = true := fun w hw => hts w (List.mem_filter.mp hw).1
  obtain ⟨D, ca, hK⟩ := s_K htb hts
  have hN : q_N s := fun t ht => va_Nw.of rfl (hts _ (s_N t ht))
  have hbN : b_N s := fun t ht => va_Nw.of rfl (hts _ (s_bN t ht))
  have hAO : b_AO s := by
    intro t ht
    simp only [b_aoL, List.mem_cons, List.not_mem_nil, or_false] at ht
    rcases ht with rfl | rfl | rfl | rfl
    · exact hts _ wa_6
    · exact hts _ wa_3
    · exact hts _ wa_4
    · exact hts _ wa_5
  have hl := lv_entry ([.ref b]) (n := 12) (Nat.le_of_ble_eq_true rfl)
  rw [lg_entry_eq]
  generalize (lg_sl ([.ref b]) ++ List.replicate (12 - (lg_sl ([.ref b])).length) Slot.unset).toArray = ls at hl ⊢
  exact s_walk l D ca hL ⟨hx, hb, hml, hown, htb⟩ ⟨hK _, hbN, hAO, fun _ h => h⟩ hN hr hlocks hX hbl s.heap [] ls (fun k q h => by simp [b_pic] at h) va_S.rf hl

