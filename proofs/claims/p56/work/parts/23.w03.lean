theorem dX10_nest_0 : decode cX10_nest 0 = .ok (.iload_n 1, 1) := by decide +kernel
theorem dX10_nest_1 : decode cX10_nest 1 = .ok (.invokestatic 157, 3) := by decide +kernel
theorem dX10_nest_4 : decode cX10_nest 4 = .ok (.ifCond .eq 21, 3) := by decide +kernel
theorem dX10_nest_7 : decode cX10_nest 7 = .ok (.iload_n 1, 1) := by decide +kernel
theorem dX10_nest_8 : decode cX10_nest 8 = .ok (.iload_n 2, 1) := by decide +kernel
theorem dX10_nest_9 : decode cX10_nest 9 = .ok (.if_icmp .eq 16, 3) := by decide +kernel
theorem dX10_nest_12 : decode cX10_nest 12 = .ok (.iload_n 3, 1) := by decide +kernel
theorem dX10_nest_13 : decode cX10_nest 13 = .ok (.ifCond .lt 12, 3) := by decide +kernel
theorem dX10_nest_16 : decode cX10_nest 16 = .ok (.iload 4, 2) := by decide +kernel
theorem dX10_nest_18 : decode cX10_nest 18 = .ok (.ifCond .lt 7, 3) := by decide +kernel
theorem dX10_nest_21 : decode cX10_nest 21 = .ok (.iconst 1, 1) := by decide +kernel
theorem dX10_nest_22 : decode cX10_nest 22 = .ok (.goto 4, 3) := by decide +kernel
theorem dX10_nest_25 : decode cX10_nest 25 = .ok (.iconst 0, 1) := by decide +kernel
theorem dX10_nest_26 : decode cX10_nest 26 = .ok (.istore 7, 2) := by decide +kernel
theorem dX10_nest_28 : decode cX10_nest 28 = .ok (.aload_n 0, 1) := by decide +kernel
theorem dX10_nest_29 : decode cX10_nest 29 = .ok (.iload 7, 2) := by decide +kernel
theorem dX10_nest_31 : decode cX10_nest 31 = .ok (.ifCond .eq 27, 3) := by decide +kernel
theorem dX10_nest_34 : decode cX10_nest 34 = .ok (.iload 5, 2) := by decide +kernel
theorem dX10_nest_36 : decode cX10_nest 36 = .ok (.iconst 1, 1) := by decide +kernel
theorem dX10_nest_37 : decode cX10_nest 37 = .ok (.iconst 4, 1) := by decide +kernel
theorem dX10_nest_38 : decode cX10_nest 38 = .ok (.invokestatic 101, 3) := by decide +kernel
theorem dX10_nest_41 : decode cX10_nest 41 = .ok (.ifCond .eq 17, 3) := by decide +kernel
theorem dX10_nest_44 : decode cX10_nest 44 = .ok (.iload 6, 2) := by decide +kernel
theorem dX10_nest_46 : decode cX10_nest 46 = .ok (.iconst 1, 1) := by decide +kernel
theorem dX10_nest_47 : decode cX10_nest 47 = .ok (.iconst 3, 1) := by decide +kernel
theorem dX10_nest_48 : decode cX10_nest 48 = .ok (.invokestatic 101, 3) := by decide +kernel
theorem dX10_nest_51 : decode cX10_nest 51 = .ok (.ifCond .eq 7, 3) := by decide +kernel
theorem dX10_nest_54 : decode cX10_nest 54 = .ok (.iconst 1, 1) := by decide +kernel
theorem dX10_nest_55 : decode cX10_nest 55 = .ok (.goto 4, 3) := by decide +kernel
theorem dX10_nest_58 : decode cX10_nest 58 = .ok (.iconst 0, 1) := by decide +kernel
theorem dX10_nest_59 : decode cX10_nest 59 = .ok (.iload_n 2, 1) := by decide +kernel
theorem dX10_nest_60 : decode cX10_nest 60 = .ok (.invokevirtual 170, 3) := by decide +kernel
theorem dX10_nest_63 : decode cX10_nest 63 = .ok (.istore 8, 2) := by decide +kernel
theorem dX10_nest_65 : decode cX10_nest 65 = .ok (.iload 8, 2) := by decide +kernel
theorem dX10_nest_67 : decode cX10_nest 67 = .ok (.ifCond .eq 6, 3) := by decide +kernel
theorem dX10_nest_70 : decode cX10_nest 70 = .ok (.iload 8, 2) := by decide +kernel
theorem dX10_nest_72 : decode cX10_nest 72 = .ok (.ireturn, 1) := by decide +kernel
theorem dX10_nest_73 : decode cX10_nest 73 = .ok (.iload_n 3, 1) := by decide +kernel
theorem dX10_nest_74 : decode cX10_nest 74 = .ok (.aload_n 0, 1) := by decide +kernel
theorem dX10_nest_75 : decode cX10_nest 75 = .ok (.getfield 30, 3) := by decide +kernel
theorem dX10_nest_78 : decode cX10_nest 78 = .ok (.iload_n 2, 1) := by decide +kernel
theorem dX10_nest_79 : decode cX10_nest 79 = .ok (.aaload, 1) := by decide +kernel
theorem dX10_nest_80 : decode cX10_nest 80 = .ok (.getfield 364, 3) := by decide +kernel
theorem dX10_nest_83 : decode cX10_nest 83 = .ok (.iload 5, 2) := by decide +kernel
theorem dX10_nest_85 : decode cX10_nest 85 = .ok (.isub, 1) := by decide +kernel
theorem dX10_nest_86 : decode cX10_nest 86 = .ok (.if_icmp .gt 20, 3) := by decide +kernel
theorem dX10_nest_89 : decode cX10_nest 89 = .ok (.iload 4, 2) := by decide +kernel
theorem dX10_nest_91 : decode cX10_nest 91 = .ok (.aload_n 0, 1) := by decide +kernel
theorem dX10_nest_92 : decode cX10_nest 92 = .ok (.getfield 30, 3) := by decide +kernel
theorem dX10_nest_95 : decode cX10_nest 95 = .ok (.iload_n 2, 1) := by decide +kernel
theorem dX10_nest_96 : decode cX10_nest 96 = .ok (.aaload, 1) := by decide +kernel
theorem dX10_nest_97 : decode cX10_nest 97 = .ok (.getfield 367, 3) := by decide +kernel
theorem dX10_nest_100 : decode cX10_nest 100 = .ok (.iload 6, 2) := by decide +kernel
theorem dX10_nest_102 : decode cX10_nest 102 = .ok (.isub, 1) := by decide +kernel
theorem dX10_nest_103 : decode cX10_nest 103 = .ok (.if_icmp .le 5, 3) := by decide +kernel
theorem dX10_nest_106 : decode cX10_nest 106 = .ok (.iconst (-1), 1) := by decide +kernel
theorem dX10_nest_107 : decode cX10_nest 107 = .ok (.ireturn, 1) := by decide +kernel
theorem dX10_nest_108 : decode cX10_nest 108 = .ok (.aload_n 0, 1) := by decide +kernel
theorem dX10_nest_109 : decode cX10_nest 109 = .ok (.iload_n 2, 1) := by decide +kernel
theorem dX10_nest_110 : decode cX10_nest 110 = .ok (.iload_n 1, 1) := by decide +kernel
theorem dX10_nest_111 : decode cX10_nest 111 = .ok (.invokevirtual 269, 3) := by decide +kernel
theorem dX10_nest_114 : decode cX10_nest 114 = .ok (.ifCond .eq 6, 3) := by decide +kernel
theorem dX10_nest_117 : decode cX10_nest 117 = .ok (.bipush (-4), 2) := by decide +kernel
theorem dX10_nest_119 : decode cX10_nest 119 = .ok (.ireturn, 1) := by decide +kernel
theorem dX10_nest_120 : decode cX10_nest 120 = .ok (.aload_n 0, 1) := by decide +kernel
theorem dX10_nest_121 : decode cX10_nest 121 = .ok (.iload_n 1, 1) := by decide +kernel
theorem dX10_nest_122 : decode cX10_nest 122 = .ok (.invokevirtual 160, 3) := by decide +kernel
theorem dX10_nest_125 : decode cX10_nest 125 = .ok (.aload_n 0, 1) := by decide +kernel
theorem dX10_nest_126 : decode cX10_nest 126 = .ok (.getfield 30, 3) := by decide +kernel
theorem dX10_nest_129 : decode cX10_nest 129 = .ok (.iload_n 1, 1) := by decide +kernel
theorem dX10_nest_130 : decode cX10_nest 130 = .ok (.aaload, 1) := by decide +kernel
theorem dX10_nest_131 : decode cX10_nest 131 = .ok (.iconst 2, 1) := by decide +kernel
theorem dX10_nest_132 : decode cX10_nest 132 = .ok (.iconst 2, 1) := by decide +kernel
theorem dX10_nest_133 : decode cX10_nest 133 = .ok (.iload 5, 2) := by decide +kernel
theorem dX10_nest_135 : decode cX10_nest 135 = .ok (.imul, 1) := by decide +kernel
theorem dX10_nest_136 : decode cX10_nest 136 = .ok (.iconst 2, 1) := by decide +kernel
theorem dX10_nest_137 : decode cX10_nest 137 = .ok (.iload 6, 2) := by decide +kernel
theorem dX10_nest_139 : decode cX10_nest 139 = .ok (.imul, 1) := by decide +kernel
theorem dX10_nest_140 : decode cX10_nest 140 = .ok (.invokevirtual 163, 3) := by decide +kernel
theorem dX10_nest_143 : decode cX10_nest 143 = .ok (.aload_n 0, 1) := by decide +kernel
theorem dX10_nest_144 : decode cX10_nest 144 = .ok (.getfield 30, 3) := by decide +kernel
theorem dX10_nest_147 : decode cX10_nest 147 = .ok (.iload_n 1, 1) := by decide +kernel
theorem dX10_nest_148 : decode cX10_nest 148 = .ok (.aaload, 1) := by decide +kernel
theorem dX10_nest_149 : decode cX10_nest 149 = .ok (.getfield 309, 3) := by decide +kernel
theorem dX10_nest_152 : decode cX10_nest 152 = .ok (.iload_n 2, 1) := by decide +kernel
theorem dX10_nest_153 : decode cX10_nest 153 = .ok (.putfield 313, 3) := by decide +kernel
theorem dX10_nest_156 : decode cX10_nest 156 = .ok (.aload_n 0, 1) := by decide +kernel
theorem dX10_nest_157 : decode cX10_nest 157 = .ok (.getfield 30, 3) := by decide +kernel
theorem dX10_nest_160 : decode cX10_nest 160 = .ok (.iload_n 1, 1) := by decide +kernel
theorem dX10_nest_161 : decode cX10_nest 161 = .ok (.aaload, 1) := by decide +kernel
theorem dX10_nest_162 : decode cX10_nest 162 = .ok (.getfield 309, 3) := by decide +kernel
theorem dX10_nest_165 : decode cX10_nest 165 = .ok (.iload_n 3, 1) := by decide +kernel
theorem dX10_nest_166 : decode cX10_nest 166 = .ok (.putfield 370, 3) := by decide +kernel
theorem dX10_nest_169 : decode cX10_nest 169 = .ok (.aload_n 0, 1) := by decide +kernel
theorem dX10_nest_170 : decode cX10_nest 170 = .ok (.getfield 30, 3) := by decide +kernel
theorem dX10_nest_173 : decode cX10_nest 173 = .ok (.iload_n 1, 1) := by decide +kernel
theorem dX10_nest_174 : decode cX10_nest 174 = .ok (.aaload, 1) := by decide +kernel
theorem dX10_nest_175 : decode cX10_nest 175 = .ok (.getfield 309, 3) := by decide +kernel
theorem dX10_nest_178 : decode cX10_nest 178 = .ok (.iload 4, 2) := by decide +kernel
theorem dX10_nest_180 : decode cX10_nest 180 = .ok (.putfield 373, 3) := by decide +kernel
theorem dX10_nest_183 : decode cX10_nest 183 = .ok (.aload_n 0, 1) := by decide +kernel
theorem dX10_nest_184 : decode cX10_nest 184 = .ok (.getfield 30, 3) := by decide +kernel
theorem dX10_nest_187 : decode cX10_nest 187 = .ok (.iload_n 1, 1) := by decide +kernel
theorem dX10_nest_188 : decode cX10_nest 188 = .ok (.aaload, 1) := by decide +kernel
theorem dX10_nest_189 : decode cX10_nest 189 = .ok (.aload_n 0, 1) := by decide +kernel
theorem dX10_nest_190 : decode cX10_nest 190 = .ok (.getfield 30, 3) := by decide +kernel
theorem dX10_nest_193 : decode cX10_nest 193 = .ok (.iload_n 2, 1) := by decide +kernel
theorem dX10_nest_194 : decode cX10_nest 194 = .ok (.aaload, 1) := by decide +kernel
theorem dX10_nest_195 : decode cX10_nest 195 = .ok (.invokevirtual 376, 3) := by decide +kernel
theorem dX10_nest_198 : decode cX10_nest 198 = .ok (.aload_n 0, 1) := by decide +kernel
theorem dX10_nest_199 : decode cX10_nest 199 = .ok (.getfield 30, 3) := by decide +kernel
theorem dX10_nest_202 : decode cX10_nest 202 = .ok (.iload_n 1, 1) := by decide +kernel
theorem dX10_nest_203 : decode cX10_nest 203 = .ok (.aaload, 1) := by decide +kernel
theorem dX10_nest_204 : decode cX10_nest 204 = .ok (.invokevirtual 166, 3) := by decide +kernel
theorem dX10_nest_207 : decode cX10_nest 207 = .ok (.ireturn, 1) := by decide +kernel
noncomputable def f_X10_nest (x1 : Int32) (x2 : Int32) (x3 : Int32) (x4 : Int32) (x5 : Int32) (x6 : Int32) (u0 : qM) : Option (Int32 × qM) :=
  q_bd (f_X10_isBoard x1 u0) (fun (x7 : Int32) (u1 : qM) => q_jn (fun (x8 : Int32) (u2 : qM) => q_jn (fun (x9 : Int32) (u3 : qM) => q_bd (f_X10_boardRefused x9 x2 u3) (fun (x10 : Int32) (u4 : qM) => if x10 = 0 then q_ck (q_in x2 6) (q_jn (fun  (u5 : qM) => some ((-1), u5)) (fun j3 => if ((u4.1 2 (Int32.toNatClampNeg x2) 12) - x5) < x3 then j3 u4 else q_ck (q_in x2 6) (if x4 ≤ ((u4.1 2 (Int32.toNatClampNeg x2) 13) - x6) then q_bd (f_X10_liesIn x2 x1 u4) (fun (x11 : Int32) (u6 : qM) => if x11 = 0 then q_bd (f_X10_clear x1 u6) (fun (_z : Unit) (u7 : qM) => q_ck (q_in x1 6) (q_bd (f_X0_reset (Int32.toNatClampNeg x1) 2 (2 * x5) (2 * x6) u7) (fun (_z : Unit) (u8 : qM) => q_ck (q_in x1 6) (q_lt (q_si u8 5 (Int32.toNatClampNeg x1) 2 x2) (fun (u9 : qM) => q_ck (q_in x1 6) (q_lt (q_si u9 5 (Int32.toNatClampNeg x1) 3 x3) (fun (u10 : qM) => q_ck (q_in x1 6) (q_lt (q_si u10 5 (Int32.toNatClampNeg x1) 4 x4) (fun (u11 : qM) => q_ck (q_in x1 6) (q_ck (q_in x2 6) (q_bd (f_X0_layOn (Int32.toNatClampNeg x1) (Int32.toNatClampNeg x2) u11) (fun (_z : Unit) (u12 : qM) => q_ck (q_in x1 6) (q_bd (f_X0_cells (Int32.toNatClampNeg x1) u12) (fun (x12 : Int32) (u13 : qM) => some (x12, u13))))))))))))))) else some ((-4), u6)) else j3 u4))) else some (x10, u4))) (fun j2 => q_jn (fun  (u14 : qM) => j2 0 u14) (fun j4 => if x8 = 0 then j4 u2 else q_bd (f_X10_within x5 1 4 u2) (fun (x13 : Int32) (u15 : qM) => if x13 = 0 then j4 u15 else q_bd (f_X10_within x6 1 3 u15) (fun (x14 : Int32) (u16 : qM) => if x14 = 0 then j4 u16 else j2 1 u16))))) (fun j1 => q_jn (fun  (u17 : qM) => j1 0 u17) (fun j5 => if x7 = 0 then j5 u1 else if x1 = x2 then j5 u1 else if x3 < 0 then j5 u1 else if x4 < 0 then j5 u1 else j1 1 u1)))
set_option maxRecDepth 100000 in
set_option maxHeartbeats 4000000 in
theorem k_X10_nest (l : Launch) (G : qG) (x1 : Int32) (x2 : Int32) (x3 : Int32) (x4 : Int32) (x5 : Int32) (x6 : Int32)  (u0 : qM) : qCt l G m_X10_nest q_cI [.ref (q_ad G 0 0), .int x1, .int x2, .int x3, .int x4, .int x5, .int x6] u0 (f_X10_nest x1 x2 x3 x4 x5 x6 u0) := by
  refine q_entry pk_X10_nest (Nat.le_of_ble_eq_true rfl) ?_
  show qAW l G m_X10_nest (q_mq G q_cI) 0 [(0, .ref (q_ad G 0 0)), (1, .int x1), (2, .int x2), (3, .int x3), (4, .int x4), (5, .int x5), (6, .int x6)] [] u0 (f_X10_nest x1 x2 x3 x4 x5 x6 u0)
  unfold f_X10_nest
  refine aw_iload_n (i := 1) dX10_nest_0 1 rfl rfl 1 rfl ?_
  refine aw_callS (M2 := m_X10_isBoard) (cv := q_cI) dX10_nest_1 4 rfl (k_X10_isBoard l G x1  u0) wd_108 wv_X10_isBoard pk_X10_isBoard rfl ⟨by decide, by decide⟩ ⟨Nat.zero_le _, Nat.zero_le _⟩ rfl (Nat.le_of_ble_eq_true rfl) (fun x7 u1 => ?_)
  show qAW l G m_X10_nest (q_mq G q_cI) 4 [(0, .ref (q_ad G 0 0)), (1, .int x1), (2, .int x2), (3, .int x3), (4, .int x4), (5, .int x5), (6, .int x6)] [.int x7] u1 _
  refine aw_jn (fun k => ∀ (x8 : Int32) (u2 : qM), qAW l G m_X10_nest (q_mq G q_cI) 26 [(0, .ref (q_ad G 0 0)), (1, .int x1), (2, .int x2), (3, .int x3), (4, .int x4), (5, .int x5), (6, .int x6)] [.int x8] u2 (k x8 u2)) ?_ ?_
  · intro x8 u2
    refine aw_istore dX10_nest_26 28 rfl [(7, .int x8), (0, .ref (q_ad G 0 0)), (1, .int x1), (2, .int x2), (3, .int x3), (4, .int x4), (5, .int x5), (6, .int x6)] (by decide) rfl ?_
    refine aw_aload_n (i := 0) dX10_nest_28 29 rfl rfl 1 rfl ?_
    refine aw_iload (i := 7) dX10_nest_29 31 rfl 0 rfl ?_
    refine aw_jn (fun k => ∀ (x9 : Int32) (u3 : qM), qAW l G m_X10_nest (q_mq G q_cI) 59 [(0, .ref (q_ad G 0 0)), (1, .int x1), (2, .int x2), (3, .int x3), (4, .int x4), (5, .int x5), (6, .int x6)] [.int x9, .ref (q_ad G 0 0)] u3 (k x9 u3)) ?_ ?_
    · intro x9 u3
      refine aw_iload_n (i := 2) dX10_nest_59 60 rfl rfl 2 rfl ?_
      refine aw_callV (M2 := m_X10_boardRefused) (cv := q_cI) dX10_nest_60 63 rfl (k_X10_boardRefused l G x9 x2  u3) wd_116 wv_X10_boardRefused pk_X10_boardRefused rfl rfl ⟨by decide, by decide⟩ ⟨Nat.zero_le _, Nat.zero_le _⟩ at_0 (ok_0 (by decide)) rfl rfl rfl (Nat.le_of_ble_eq_true rfl) (fun x10 u4 => ?_)
      show qAW l G m_X10_nest (q_mq G q_cI) 63 [(0, .ref (q_ad G 0 0)), (1, .int x1), (2, .int x2), (3, .int x3), (4, .int x4), (5, .int x5), (6, .int x6)] [.int x10] u4 _
      refine aw_istore dX10_nest_63 65 rfl [(8, .int x10), (0, .ref (q_ad G 0 0)), (1, .int x1), (2, .int x2), (3, .int x3), (4, .int x4), (5, .int x5), (6, .int x6)] (by decide) rfl ?_
      refine aw_iload (i := 8) dX10_nest_65 67 rfl 0 rfl ?_
      refine aw_if_eq dX10_nest_67 70 rfl 73 rfl (fun h3 => ?_) (fun h3 => ?_)
      · refine aw_iload_n (i := 3) dX10_nest_73 74 rfl rfl 4 rfl ?_
        refine aw_aload_n (i := 0) dX10_nest_74 75 rfl rfl 1 rfl ?_
        refine gf_X10_4 dX10_nest_75 78 rfl wd_107 (ok_0 (by decide)) ?_
        refine aw_iload_n (i := 2) dX10_nest_78 79 rfl rfl 3 rfl ?_
        refine aw_aald dX10_nest_79 80 rfl at_21 (by decide) (by decide) rfl rfl (al_21 _) (ok_21 (by decide)) rfl (fun h4 => ?_)
        refine gfN_X0_12 dX10_nest_80 83 rfl "SeaCells" (ns_47) (ok_2 (Nat.lt_of_lt_of_le (q_in_lt h4) (by decide))) ?_
        refine aw_iload (i := 5) dX10_nest_83 85 rfl 6 rfl ?_
        refine aw_isub dX10_nest_85 86 rfl ?_
        refine aw_jn (fun k => ∀  (u5 : qM), qAW l G m_X10_nest (q_mq G q_cI) 106 [] [] u5 (k u5)) ?_ ?_
        · intro u5
          refine aw_iconst (x := (-1)) dX10_nest_106 107 rfl rfl ?_
          exact aw_iret dX10_nest_107 rfl
        · intro j3 hj3
          refine aw_icmp_gt dX10_nest_86 89 rfl 106 rfl (fun h5 => ?_) (fun h5 => ?_)
          · exact aw_conv [] rfl (hj3 u4)
          · refine aw_iload (i := 4) dX10_nest_89 91 rfl 5 rfl ?_
            refine aw_aload_n (i := 0) dX10_nest_91 92 rfl rfl 1 rfl ?_
            refine gf_X10_4 dX10_nest_92 95 rfl wd_107 (ok_0 (by decide)) ?_
            refine aw_iload_n (i := 2) dX10_nest_95 96 rfl rfl 3 rfl ?_
            refine aw_aald dX10_nest_96 97 rfl at_21 (by decide) (by decide) rfl rfl (al_21 _) (ok_21 (by decide)) rfl (fun h6 => ?_)
            refine gfN_X0_13 dX10_nest_97 100 rfl "SeaCells" (ns_49) (ok_2 (Nat.lt_of_lt_of_le (q_in_lt h6) (by decide))) ?_
            refine aw_iload (i := 6) dX10_nest_100 102 rfl 7 rfl ?_
            refine aw_isub dX10_nest_102 103 rfl ?_
            refine aw_icmp_le dX10_nest_103 106 rfl 108 rfl (fun h7 => ?_) (fun h7 => ?_)
            · refine aw_aload_n (i := 0) dX10_nest_108 109 rfl rfl 1 rfl ?_
              refine aw_iload_n (i := 2) dX10_nest_109 110 rfl rfl 3 rfl ?_
              refine aw_iload_n (i := 1) dX10_nest_110 111 rfl rfl 2 rfl ?_
              refine aw_callV (M2 := m_X10_liesIn) (cv := q_cI) dX10_nest_111 114 rfl (k_X10_liesIn l G x2 x1  u4) wd_134 wv_X10_liesIn pk_X10_liesIn rfl rfl ⟨by decide, by decide⟩ ⟨Nat.zero_le _, Nat.zero_le _⟩ at_0 (ok_0 (by decide)) rfl rfl rfl (Nat.le_of_ble_eq_true rfl) (fun x11 u6 => ?_)
              show qAW l G m_X10_nest (q_mq G q_cI) 114 [(8, .int x10), (0, .ref (q_ad G 0 0)), (1, .int x1), (2, .int x2), (3, .int x3), (4, .int x4), (5, .int x5), (6, .int x6)] [.int x11] u6 _
              refine aw_if_eq dX10_nest_114 117 rfl 120 rfl (fun h8 => ?_) (fun h8 => ?_)
              · refine aw_aload_n (i := 0) dX10_nest_120 121 rfl rfl 1 rfl ?_
                refine aw_iload_n (i := 1) dX10_nest_121 122 rfl rfl 2 rfl ?_
                refine aw_callV (M2 := m_X10_clear) (cv := q_cU) dX10_nest_122 125 rfl (k_X10_clear l G x1  u6) wd_113 wv_X10_clear pk_X10_clear rfl rfl ⟨by decide, by decide⟩ ⟨Nat.zero_le _, Nat.zero_le _⟩ at_0 (ok_0 (by decide)) rfl rfl rfl (Nat.le_of_ble_eq_true rfl) (fun _z u7 => ?_)
                show qAW l G m_X10_nest (q_mq G q_cI) 125 [(8, .int x10), (0, .ref (q_ad G 0 0)), (1, .int x1), (2, .int x2), (3, .int x3), (4, .int x4), (5, .int x5), (6, .int x6)] [] u7 _
                refine aw_aload_n (i := 0) dX10_nest_125 126 rfl rfl 1 rfl ?_
                refine gf_X10_4 dX10_nest_126 129 rfl wd_107 (ok_0 (by decide)) ?_
                refine aw_iload_n (i := 1) dX10_nest_129 130 rfl rfl 2 rfl ?_
                refine aw_aald dX10_nest_130 131 rfl at_21 (by decide) (by decide) rfl rfl (al_21 _) (ok_21 (by decide)) rfl (fun h9 => ?_)
                refine aw_iconst (x := 2) dX10_nest_131 132 rfl rfl ?_
                refine aw_iconst (x := 2) dX10_nest_132 133 rfl rfl ?_
                refine aw_iload (i := 5) dX10_nest_133 135 rfl 6 rfl ?_
                refine aw_imul dX10_nest_135 136 rfl ?_
                refine aw_iconst (x := 2) dX10_nest_136 137 rfl rfl ?_
                refine aw_iload (i := 6) dX10_nest_137 139 rfl 7 rfl ?_
                refine aw_imul dX10_nest_139 140 rfl ?_
                refine aw_callV (M2 := m_X0_reset) (cv := q_cU) dX10_nest_140 143 rfl (k_X0_reset l G (Int32.toNatClampNeg x1) 2 (2 * x5) (2 * x6) (Nat.lt_of_lt_of_le (q_in_lt h9) (by decide)) u7) wd_114 wv_X0_reset pk_X0_reset rfl rfl ⟨by decide, by decide⟩ ⟨Nat.zero_le _, Nat.zero_le _⟩ at_2 (ok_2 (Nat.lt_of_lt_of_le (q_in_lt h9) (by decide))) rfl rfl rfl (Nat.le_of_ble_eq_true rfl) (fun _z u8 => ?_)
                show qAW l G m_X10_nest (q_mq G q_cI) 143 [(8, .int x10), (0, .ref (q_ad G 0 0)), (1, .int x1), (2, .int x2), (3, .int x3), (4, .int x4), (5, .int x5), (6, .int x6)] [] u8 _
                refine aw_aload_n (i := 0) dX10_nest_143 144 rfl rfl 1 rfl ?_
                refine gf_X10_4 dX10_nest_144 147 rfl wd_107 (ok_0 (by decide)) ?_
                refine aw_iload_n (i := 1) dX10_nest_147 148 rfl rfl 2 rfl ?_
                refine aw_aald dX10_nest_148 149 rfl at_21 (by decide) (by decide) rfl rfl (al_21 _) (ok_21 (by decide)) rfl (fun h10 => ?_)
                refine gfN_X0_7 dX10_nest_149 152 rfl "SeaCells" (ns_42) (ok_2 (Nat.lt_of_lt_of_le (q_in_lt h10) (by decide))) ?_
                refine aw_iload_n (i := 2) dX10_nest_152 153 rfl rfl 3 rfl ?_
                refine pfN_X4_2 dX10_nest_153 156 rfl "SeaCells" (ns_22) (ok_5 (Nat.lt_of_lt_of_le (q_in_lt h10) (by decide))) ?_
                refine aw_ltm (fun u9 => ?_)
                refine aw_aload_n (i := 0) dX10_nest_156 157 rfl rfl 1 rfl ?_
                refine gf_X10_4 dX10_nest_157 160 rfl wd_107 (ok_0 (by decide)) ?_
                refine aw_iload_n (i := 1) dX10_nest_160 161 rfl rfl 2 rfl ?_
                refine aw_aald dX10_nest_161 162 rfl at_21 (by decide) (by decide) rfl rfl (al_21 _) (ok_21 (by decide)) rfl (fun h11 => ?_)
                refine gfN_X0_7 dX10_nest_162 165 rfl "SeaCells" (ns_42) (ok_2 (Nat.lt_of_lt_of_le (q_in_lt h11) (by decide))) ?_
                refine aw_iload_n (i := 3) dX10_nest_165 166 rfl rfl 4 rfl ?_
                refine pfN_X4_3 dX10_nest_166 169 rfl "SeaCells" (ns_24) (ok_5 (Nat.lt_of_lt_of_le (q_in_lt h11) (by decide))) ?_
                refine aw_ltm (fun u10 => ?_)
                refine aw_aload_n (i := 0) dX10_nest_169 170 rfl rfl 1 rfl ?_
                refine gf_X10_4 dX10_nest_170 173 rfl wd_107 (ok_0 (by decide)) ?_
                refine aw_iload_n (i := 1) dX10_nest_173 174 rfl rfl 2 rfl ?_
                refine aw_aald dX10_nest_174 175 rfl at_21 (by decide) (by decide) rfl rfl (al_21 _) (ok_21 (by decide)) rfl (fun h12 => ?_)
                refine gfN_X0_7 dX10_nest_175 178 rfl "SeaCells" (ns_42) (ok_2 (Nat.lt_of_lt_of_le (q_in_lt h12) (by decide))) ?_
                refine aw_iload (i := 4) dX10_nest_178 180 rfl 5 rfl ?_
                refine pfN_X4_4 dX10_nest_180 183 rfl "SeaCells" (ns_26) (ok_5 (Nat.lt_of_lt_of_le (q_in_lt h12) (by decide))) ?_
                refine aw_ltm (fun u11 => ?_)
                refine aw_aload_n (i := 0) dX10_nest_183 184 rfl rfl 1 rfl ?_
                refine gf_X10_4 dX10_nest_184 187 rfl wd_107 (ok_0 (by decide)) ?_
                refine aw_iload_n (i := 1) dX10_nest_187 188 rfl rfl 2 rfl ?_
                refine aw_aald dX10_nest_188 189 rfl at_21 (by decide) (by decide) rfl rfl (al_21 _) (ok_21 (by decide)) rfl (fun h13 => ?_)
                refine aw_aload_n (i := 0) dX10_nest_189 190 rfl rfl 1 rfl ?_
                refine gf_X10_4 dX10_nest_190 193 rfl wd_107 (ok_0 (by decide)) ?_
                refine aw_iload_n (i := 2) dX10_nest_193 194 rfl rfl 3 rfl ?_
                refine aw_aald dX10_nest_194 195 rfl at_21 (by decide) (by decide) rfl rfl (al_21 _) (ok_21 (by decide)) rfl (fun h14 => ?_)
                refine aw_callV (M2 := m_X0_layOn) (cv := q_cU) dX10_nest_195 198 rfl (k_X0_layOn l G (Int32.toNatClampNeg x1) (Int32.toNatClampNeg x2) (Nat.lt_of_lt_of_le (q_in_lt h13) (by decide)) (Nat.lt_of_lt_of_le (q_in_lt h14) (by decide)) u11) wd_139 wv_X0_layOn pk_X0_layOn rfl rfl ⟨by decide, by decide⟩ ⟨Nat.zero_le _, Nat.zero_le _⟩ at_2 (ok_2 (Nat.lt_of_lt_of_le (q_in_lt h13) (by decide))) rfl rfl rfl (Nat.le_of_ble_eq_true rfl) (fun _z u12 => ?_)
                show qAW l G m_X10_nest (q_mq G q_cI) 198 [(8, .int x10), (0, .ref (q_ad G 0 0)), (1, .int x1), (2, .int x2), (3, .int x3), (4, .int x4), (5, .int x5), (6, .int x6)] [] u12 _
                refine aw_aload_n (i := 0) dX10_nest_198 199 rfl rfl 1 rfl ?_
                refine gf_X10_4 dX10_nest_199 202 rfl wd_107 (ok_0 (by decide)) ?_
                refine aw_iload_n (i := 1) dX10_nest_202 203 rfl rfl 2 rfl ?_
                refine aw_aald dX10_nest_203 204 rfl at_21 (by decide) (by decide) rfl rfl (al_21 _) (ok_21 (by decide)) rfl (fun h15 => ?_)
                refine aw_callV (M2 := m_X0_cells) (cv := q_cI) dX10_nest_204 207 rfl (k_X0_cells l G (Int32.toNatClampNeg x1) (Nat.lt_of_lt_of_le (q_in_lt h15) (by decide)) u12) wd_115 wv_X0_cells pk_X0_cells rfl rfl ⟨by decide, by decide⟩ ⟨Nat.zero_le _, Nat.zero_le _⟩ at_2 (ok_2 (Nat.lt_of_lt_of_le (q_in_lt h15) (by decide))) rfl rfl rfl (Nat.le_of_ble_eq_true rfl) (fun x12 u13 => ?_)
                show qAW l G m_X10_nest (q_mq G q_cI) 207 [(8, .int x10), (0, .ref (q_ad G 0 0)), (1, .int x1), (2, .int x2), (3, .int x3), (4, .int x4), (5, .int x5), (6, .int x6)] [.int x12] u13 _
                exact aw_iret dX10_nest_207 rfl
              · refine aw_bipush (x := (-4)) dX10_nest_117 119 rfl rfl ?_
                exact aw_iret dX10_nest_119 rfl
            · exact aw_conv [] rfl (hj3 u4)
      · refine aw_iload (i := 8) dX10_nest_70 72 rfl 0 rfl ?_
        exact aw_iret dX10_nest_72 rfl
    · intro j2 hj2
      refine aw_jn (fun k => ∀  (u14 : qM), qAW l G m_X10_nest (q_mq G q_cI) 58 [(0, .ref (q_ad G 0 0)), (1, .int x1), (2, .int x2), (3, .int x3), (4, .int x4), (5, .int x5), (6, .int x6)] [.ref (q_ad G 0 0)] u14 (k u14)) ?_ ?_
      · intro u14
        refine aw_iconst (x := 0) dX10_nest_58 59 rfl rfl ?_
        exact hj2 0 u14
      · intro j4 hj4
        refine aw_if_eq dX10_nest_31 34 rfl 58 rfl (fun h2 => ?_) (fun h2 => ?_)
        · exact aw_conv [1, 2, 3, 4, 5, 6, 7] rfl (hj4 u2)
        · refine aw_iload (i := 5) dX10_nest_34 36 rfl 6 rfl ?_
          refine aw_iconst (x := 1) dX10_nest_36 37 rfl rfl ?_
          refine aw_iconst (x := 4) dX10_nest_37 38 rfl rfl ?_
          refine aw_callS (M2 := m_X10_within) (cv := q_cI) dX10_nest_38 41 rfl (k_X10_within l G x5 1 4  u2) wd_103 wv_X10_within pk_X10_within rfl ⟨by decide, by decide⟩ ⟨Nat.zero_le _, Nat.zero_le _⟩ rfl (Nat.le_of_ble_eq_true rfl) (fun x13 u15 => ?_)
          show qAW l G m_X10_nest (q_mq G q_cI) 41 [(7, .int x8), (0, .ref (q_ad G 0 0)), (1, .int x1), (2, .int x2), (3, .int x3), (4, .int x4), (5, .int x5), (6, .int x6)] [.int x13, .ref (q_ad G 0 0)] u15 _
          refine aw_if_eq dX10_nest_41 44 rfl 58 rfl (fun h16 => ?_) (fun h16 => ?_)
          · exact aw_conv [1, 2, 3, 4, 5, 6, 7] rfl (hj4 u15)
          · refine aw_iload (i := 6) dX10_nest_44 46 rfl 7 rfl ?_
            refine aw_iconst (x := 1) dX10_nest_46 47 rfl rfl ?_
            refine aw_iconst (x := 3) dX10_nest_47 48 rfl rfl ?_
            refine aw_callS (M2 := m_X10_within) (cv := q_cI) dX10_nest_48 51 rfl (k_X10_within l G x6 1 3  u15) wd_103 wv_X10_within pk_X10_within rfl ⟨by decide, by decide⟩ ⟨Nat.zero_le _, Nat.zero_le _⟩ rfl (Nat.le_of_ble_eq_true rfl) (fun x14 u16 => ?_)
            show qAW l G m_X10_nest (q_mq G q_cI) 51 [(7, .int x8), (0, .ref (q_ad G 0 0)), (1, .int x1), (2, .int x2), (3, .int x3), (4, .int x4), (5, .int x5), (6, .int x6)] [.int x14, .ref (q_ad G 0 0)] u16 _
            refine aw_if_eq dX10_nest_51 54 rfl 58 rfl (fun h17 => ?_) (fun h17 => ?_)
            · exact aw_conv [1, 2, 3, 4, 5, 6, 7] rfl (hj4 u16)
            · refine aw_iconst (x := 1) dX10_nest_54 55 rfl rfl ?_
              refine aw_goto dX10_nest_55 59 rfl ?_
              exact aw_conv [1, 2, 3, 4, 5, 6, 7] rfl (hj2 1 u16)
  · intro j1 hj1
    refine aw_jn (fun k => ∀  (u17 : qM), qAW l G m_X10_nest (q_mq G q_cI) 25 [(0, .ref (q_ad G 0 0)), (1, .int x1), (2, .int x2), (3, .int x3), (4, .int x4), (5, .int x5), (6, .int x6)] [] u17 (k u17)) ?_ ?_
    · intro u17
      refine aw_iconst (x := 0) dX10_nest_25 26 rfl rfl ?_
      exact hj1 0 u17
    · intro j5 hj5
      refine aw_if_eq dX10_nest_4 7 rfl 25 rfl (fun h1 => ?_) (fun h1 => ?_)
      · exact hj5 u1
      · refine aw_iload_n (i := 1) dX10_nest_7 8 rfl rfl 1 rfl ?_
        refine aw_iload_n (i := 2) dX10_nest_8 9 rfl rfl 2 rfl ?_
        refine aw_icmp_eq dX10_nest_9 12 rfl 25 rfl (fun h18 => ?_) (fun h18 => ?_)
        · exact hj5 u1
        · refine aw_iload_n (i := 3) dX10_nest_12 13 rfl rfl 3 rfl ?_
          refine aw_if_lt dX10_nest_13 16 rfl 25 rfl (fun h19 => ?_) (fun h19 => ?_)
          · exact hj5 u1
          · refine aw_iload (i := 4) dX10_nest_16 18 rfl 4 rfl ?_
            refine aw_if_lt dX10_nest_18 21 rfl 25 rfl (fun h20 => ?_) (fun h20 => ?_)
            · exact hj5 u1
            · refine aw_iconst (x := 1) dX10_nest_21 22 rfl rfl ?_
              refine aw_goto dX10_nest_22 26 rfl ?_
              exact hj1 1 u1
theorem dX10_nestRefused_0 : decode cX10_nestRefused 0 = .ok (.aload_n 0, 1) := by decide +kernel
theorem dX10_nestRefused_1 : decode cX10_nestRefused 1 = .ok (.iconst 1, 1) := by decide +kernel
theorem dX10_nestRefused_2 : decode cX10_nestRefused 2 = .ok (.iload_n 1, 1) := by decide +kernel
theorem dX10_nestRefused_3 : decode cX10_nestRefused 3 = .ok (.invokevirtual 170, 3) := by decide +kernel
theorem dX10_nestRefused_6 : decode cX10_nestRefused 6 = .ok (.istore_n 2, 1) := by decide +kernel
theorem dX10_nestRefused_7 : decode cX10_nestRefused 7 = .ok (.iload_n 2, 1) := by decide +kernel
theorem dX10_nestRefused_8 : decode cX10_nestRefused 8 = .ok (.ifCond .eq 5, 3) := by decide +kernel
theorem dX10_nestRefused_11 : decode cX10_nestRefused 11 = .ok (.iload_n 2, 1) := by decide +kernel
theorem dX10_nestRefused_12 : decode cX10_nestRefused 12 = .ok (.ireturn, 1) := by decide +kernel
theorem dX10_nestRefused_13 : decode cX10_nestRefused 13 = .ok (.aload_n 0, 1) := by decide +kernel
theorem dX10_nestRefused_14 : decode cX10_nestRefused 14 = .ok (.getfield 30, 3) := by decide +kernel
theorem dX10_nestRefused_17 : decode cX10_nestRefused 17 = .ok (.iload_n 1, 1) := by decide +kernel
theorem dX10_nestRefused_18 : decode cX10_nestRefused 18 = .ok (.aaload, 1) := by decide +kernel
theorem dX10_nestRefused_19 : decode cX10_nestRefused 19 = .ok (.getfield 276, 3) := by decide +kernel
theorem dX10_nestRefused_22 : decode cX10_nestRefused 22 = .ok (.iconst 2, 1) := by decide +kernel
theorem dX10_nestRefused_23 : decode cX10_nestRefused 23 = .ok (.if_icmp .ne 25, 3) := by decide +kernel
theorem dX10_nestRefused_26 : decode cX10_nestRefused 26 = .ok (.aload_n 0, 1) := by decide +kernel
theorem dX10_nestRefused_27 : decode cX10_nestRefused 27 = .ok (.getfield 30, 3) := by decide +kernel
theorem dX10_nestRefused_30 : decode cX10_nestRefused 30 = .ok (.iload_n 1, 1) := by decide +kernel
theorem dX10_nestRefused_31 : decode cX10_nestRefused 31 = .ok (.aaload, 1) := by decide +kernel
theorem dX10_nestRefused_32 : decode cX10_nestRefused 32 = .ok (.getfield 309, 3) := by decide +kernel
theorem dX10_nestRefused_35 : decode cX10_nestRefused 35 = .ok (.getfield 313, 3) := by decide +kernel
theorem dX10_nestRefused_38 : decode cX10_nestRefused 38 = .ok (.invokestatic 157, 3) := by decide +kernel
theorem dX10_nestRefused_41 : decode cX10_nestRefused 41 = .ok (.ifCond .eq 7, 3) := by decide +kernel
theorem dX10_nestRefused_44 : decode cX10_nestRefused 44 = .ok (.iconst 0, 1) := by decide +kernel
theorem dX10_nestRefused_45 : decode cX10_nestRefused 45 = .ok (.goto 8, 3) := by decide +kernel
theorem dX10_nestRefused_48 : decode cX10_nestRefused 48 = .ok (.aload_n 0, 1) := by decide +kernel
theorem dX10_nestRefused_49 : decode cX10_nestRefused 49 = .ok (.iconst 3, 1) := by decide +kernel
theorem dX10_nestRefused_50 : decode cX10_nestRefused 50 = .ok (.invokevirtual 91, 3) := by decide +kernel
theorem dX10_nestRefused_53 : decode cX10_nestRefused 53 = .ok (.ireturn, 1) := by decide +kernel
noncomputable def f_X10_nestRefused (x1 : Int32) (u0 : qM) : Option (Int32 × qM) :=
  q_bd (f_X10_boardRefused 1 x1 u0) (fun (x2 : Int32) (u1 : qM) => if x2 = 0 then q_ck (q_in x1 6) (q_jn (fun (x3 : Int32) (u2 : qM) => some (x3, u2)) (fun j1 => q_jn (fun  (u3 : qM) => q_bd (f_X10_found 3 u3) (fun (x4 : Int32) (u4 : qM) => j1 x4 u4)) (fun j2 => if (u1.1 2 (Int32.toNatClampNeg x1) 11) = 2 then q_ck (q_in x1 6) (q_bd (f_X10_isBoard (u1.1 5 (Int32.toNatClampNeg x1) 2) u1) (fun (x5 : Int32) (u5 : qM) => if x5 = 0 then j2 u5 else j1 0 u5)) else j2 u1))) else some (x2, u1))
set_option maxRecDepth 100000 in
set_option maxHeartbeats 4000000 in
theorem k_X10_nestRefused (l : Launch) (G : qG) (x1 : Int32)  (u0 : qM) : qCt l G m_X10_nestRefused q_cI [.ref (q_ad G 0 0), .int x1] u0 (f_X10_nestRefused x1 u0) := by
  refine q_entry pk_X10_nestRefused (Nat.le_of_ble_eq_true rfl) ?_
  show qAW l G m_X10_nestRefused (q_mq G q_cI) 0 [(0, .ref (q_ad G 0 0)), (1, .int x1)] [] u0 (f_X10_nestRefused x1 u0)
  unfold f_X10_nestRefused
  refine aw_aload_n (i := 0) dX10_nestRefused_0 1 rfl rfl 0 rfl ?_
  refine aw_iconst (x := 1) dX10_nestRefused_1 2 rfl rfl ?_
  refine aw_iload_n (i := 1) dX10_nestRefused_2 3 rfl rfl 1 rfl ?_
  refine aw_callV (M2 := m_X10_boardRefused) (cv := q_cI) dX10_nestRefused_3 6 rfl (k_X10_boardRefused l G 1 x1  u0) wd_116 wv_X10_boardRefused pk_X10_boardRefused rfl rfl ⟨by decide, by decide⟩ ⟨Nat.zero_le _, Nat.zero_le _⟩ at_0 (ok_0 (by decide)) rfl rfl rfl (Nat.le_of_ble_eq_true rfl) (fun x2 u1 => ?_)
  show qAW l G m_X10_nestRefused (q_mq G q_cI) 6 [(0, .ref (q_ad G 0 0)), (1, .int x1)] [.int x2] u1 _
  refine aw_istore_n dX10_nestRefused_6 7 rfl rfl [(2, .int x2), (0, .ref (q_ad G 0 0)), (1, .int x1)] (by decide) rfl ?_
  refine aw_iload_n (i := 2) dX10_nestRefused_7 8 rfl rfl 0 rfl ?_
  refine aw_if_eq dX10_nestRefused_8 11 rfl 13 rfl (fun h1 => ?_) (fun h1 => ?_)
  · refine aw_aload_n (i := 0) dX10_nestRefused_13 14 rfl rfl 1 rfl ?_
    refine gf_X10_4 dX10_nestRefused_14 17 rfl wd_107 (ok_0 (by decide)) ?_
    refine aw_iload_n (i := 1) dX10_nestRefused_17 18 rfl rfl 2 rfl ?_
    refine aw_aald dX10_nestRefused_18 19 rfl at_21 (by decide) (by decide) rfl rfl (al_21 _) (ok_21 (by decide)) rfl (fun h2 => ?_)
    refine gfN_X0_11 dX10_nestRefused_19 22 rfl "SeaCells" (ns_44) (ok_2 (Nat.lt_of_lt_of_le (q_in_lt h2) (by decide))) ?_
    refine aw_iconst (x := 2) dX10_nestRefused_22 23 rfl rfl ?_
    refine aw_jn (fun k => ∀ (x3 : Int32) (u2 : qM), qAW l G m_X10_nestRefused (q_mq G q_cI) 53 [] [.int x3] u2 (k x3 u2)) ?_ ?_
    · intro x3 u2
      exact aw_iret dX10_nestRefused_53 rfl
    · intro j1 hj1
      refine aw_jn (fun k => ∀  (u3 : qM), qAW l G m_X10_nestRefused (q_mq G q_cI) 48 [(0, .ref (q_ad G 0 0))] [] u3 (k u3)) ?_ ?_
      · intro u3
        refine aw_aload_n (i := 0) dX10_nestRefused_48 49 rfl rfl 0 rfl ?_
        refine aw_iconst (x := 3) dX10_nestRefused_49 50 rfl rfl ?_
        refine aw_callV (M2 := m_X10_found) (cv := q_cI) dX10_nestRefused_50 53 rfl (k_X10_found l G 3  u3) wd_100 wv_X10_found pk_X10_found rfl rfl ⟨by decide, by decide⟩ ⟨Nat.zero_le _, Nat.zero_le _⟩ at_0 (ok_0 (by decide)) rfl rfl rfl (Nat.le_of_ble_eq_true rfl) (fun x4 u4 => ?_)
        show qAW l G m_X10_nestRefused (q_mq G q_cI) 53 [(0, .ref (q_ad G 0 0))] [.int x4] u4 _
        exact aw_conv [] rfl (hj1 x4 u4)
      · intro j2 hj2
        refine aw_icmp_ne dX10_nestRefused_23 26 rfl 48 rfl (fun h3 => ?_) (fun h3 => ?_)
        · exact aw_conv [1] rfl (hj2 u1)
        · refine aw_aload_n (i := 0) dX10_nestRefused_26 27 rfl rfl 1 rfl ?_
          refine gf_X10_4 dX10_nestRefused_27 30 rfl wd_107 (ok_0 (by decide)) ?_
          refine aw_iload_n (i := 1) dX10_nestRefused_30 31 rfl rfl 2 rfl ?_
          refine aw_aald dX10_nestRefused_31 32 rfl at_21 (by decide) (by decide) rfl rfl (al_21 _) (ok_21 (by decide)) rfl (fun h4 => ?_)
          refine gfN_X0_7 dX10_nestRefused_32 35 rfl "SeaCells" (ns_42) (ok_2 (Nat.lt_of_lt_of_le (q_in_lt h4) (by decide))) ?_
          refine gfN_X4_2 dX10_nestRefused_35 38 rfl "SeaCells" (ns_22) (ok_5 (Nat.lt_of_lt_of_le (q_in_lt h4) (by decide))) ?_
          refine aw_callS (M2 := m_X10_isBoard) (cv := q_cI) dX10_nestRefused_38 41 rfl (k_X10_isBoard l G (u1.1 5 (Int32.toNatClampNeg x1) 2)  u1) wd_108 wv_X10_isBoard pk_X10_isBoard rfl ⟨by decide, by decide⟩ ⟨Nat.zero_le _, Nat.zero_le _⟩ rfl (Nat.le_of_ble_eq_true rfl) (fun x5 u5 => ?_)
          show qAW l G m_X10_nestRefused (q_mq G q_cI) 41 [(2, .int x2), (0, .ref (q_ad G 0 0)), (1, .int x1)] [.int x5] u5 _
          refine aw_if_eq dX10_nestRefused_41 44 rfl 48 rfl (fun h5 => ?_) (fun h5 => ?_)
          · exact aw_conv [1] rfl (hj2 u5)
          · refine aw_iconst (x := 0) dX10_nestRefused_44 45 rfl rfl ?_
            refine aw_goto dX10_nestRefused_45 53 rfl ?_
            exact aw_conv [] rfl (hj1 0 u5)
  · refine aw_iload_n (i := 2) dX10_nestRefused_11 12 rfl rfl 0 rfl ?_
    exact aw_iret dX10_nestRefused_12 rfl
theorem dX10_up_0 : decode cX10_up 0 = .ok (.aload_n 0, 1) := by decide +kernel
theorem dX10_up_1 : decode cX10_up 1 = .ok (.iload_n 1, 1) := by decide +kernel
theorem dX10_up_2 : decode cX10_up 2 = .ok (.invokevirtual 379, 3) := by decide +kernel
theorem dX10_up_5 : decode cX10_up 5 = .ok (.istore_n 2, 1) := by decide +kernel
theorem dX10_up_6 : decode cX10_up 6 = .ok (.iload_n 2, 1) := by decide +kernel
theorem dX10_up_7 : decode cX10_up 7 = .ok (.ifCond .eq 5, 3) := by decide +kernel
theorem dX10_up_10 : decode cX10_up 10 = .ok (.iload_n 2, 1) := by decide +kernel
theorem dX10_up_11 : decode cX10_up 11 = .ok (.ireturn, 1) := by decide +kernel
theorem dX10_up_12 : decode cX10_up 12 = .ok (.aload_n 0, 1) := by decide +kernel
theorem dX10_up_13 : decode cX10_up 13 = .ok (.aload_n 0, 1) := by decide +kernel
theorem dX10_up_14 : decode cX10_up 14 = .ok (.getfield 30, 3) := by decide +kernel
theorem dX10_up_17 : decode cX10_up 17 = .ok (.iload_n 1, 1) := by decide +kernel
theorem dX10_up_18 : decode cX10_up 18 = .ok (.aaload, 1) := by decide +kernel
theorem dX10_up_19 : decode cX10_up 19 = .ok (.aload_n 0, 1) := by decide +kernel
theorem dX10_up_20 : decode cX10_up 20 = .ok (.getfield 30, 3) := by decide +kernel
theorem dX10_up_23 : decode cX10_up 23 = .ok (.aload_n 0, 1) := by decide +kernel
theorem dX10_up_24 : decode cX10_up 24 = .ok (.getfield 30, 3) := by decide +kernel
theorem dX10_up_27 : decode cX10_up 27 = .ok (.iload_n 1, 1) := by decide +kernel
theorem dX10_up_28 : decode cX10_up 28 = .ok (.aaload, 1) := by decide +kernel
theorem dX10_up_29 : decode cX10_up 29 = .ok (.getfield 309, 3) := by decide +kernel
theorem dX10_up_32 : decode cX10_up 32 = .ok (.getfield 313, 3) := by decide +kernel
theorem dX10_up_35 : decode cX10_up 35 = .ok (.aaload, 1) := by decide +kernel
theorem dX10_up_36 : decode cX10_up 36 = .ok (.invokevirtual 382, 3) := by decide +kernel
theorem dX10_up_39 : decode cX10_up 39 = .ok (.putfield 116, 3) := by decide +kernel
theorem dX10_up_42 : decode cX10_up 42 = .ok (.iconst 1, 1) := by decide +kernel
theorem dX10_up_43 : decode cX10_up 43 = .ok (.ireturn, 1) := by decide +kernel
noncomputable def f_X10_up (x1 : Int32) (u0 : qM) : Option (Int32 × qM) :=
  q_bd (f_X10_nestRefused x1 u0) (fun (x2 : Int32) (u1 : qM) => if x2 = 0 then q_ck (q_in x1 6) (q_ck (q_in x1 6) (q_ck (q_in (u1.1 5 (Int32.toNatClampNeg x1) 2) 6) (q_bd (f_X0_giveUp (Int32.toNatClampNeg x1) (Int32.toNatClampNeg (u1.1 5 (Int32.toNatClampNeg x1) 2)) u1) (fun (x3 : Int32) (u2 : qM) => q_lt (q_si u2 0 0 15 x3) (fun (u3 : qM) => some (1, u3)))))) else some (x2, u1))
set_option maxRecDepth 100000 in
set_option maxHeartbeats 4000000 in
theorem k_X10_up (l : Launch) (G : qG) (x1 : Int32)  (u0 : qM) : qCt l G m_X10_up q_cI [.ref (q_ad G 0 0), .int x1] u0 (f_X10_up x1 u0) := by
  refine q_entry pk_X10_up (Nat.le_of_ble_eq_true rfl) ?_
  show qAW l G m_X10_up (q_mq G q_cI) 0 [(0, .ref (q_ad G 0 0)), (1, .int x1)] [] u0 (f_X10_up x1 u0)
  unfold f_X10_up
  refine aw_aload_n (i := 0) dX10_up_0 1 rfl rfl 0 rfl ?_
  refine aw_iload_n (i := 1) dX10_up_1 2 rfl rfl 1 rfl ?_
  refine aw_callV (M2 := m_X10_nestRefused) (cv := q_cI) dX10_up_2 5 rfl (k_X10_nestRefused l G x1  u0) wd_140 wv_X10_nestRefused pk_X10_nestRefused rfl rfl ⟨by decide, by decide⟩ ⟨Nat.zero_le _, Nat.zero_le _⟩ at_0 (ok_0 (by decide)) rfl rfl rfl (Nat.le_of_ble_eq_true rfl) (fun x2 u1 => ?_)
  show qAW l G m_X10_up (q_mq G q_cI) 5 [(0, .ref (q_ad G 0 0)), (1, .int x1)] [.int x2] u1 _
  refine aw_istore_n dX10_up_5 6 rfl rfl [(2, .int x2), (0, .ref (q_ad G 0 0)), (1, .int x1)] (by decide) rfl ?_
  refine aw_iload_n (i := 2) dX10_up_6 7 rfl rfl 0 rfl ?_
  refine aw_if_eq dX10_up_7 10 rfl 12 rfl (fun h1 => ?_) (fun h1 => ?_)
  · refine aw_aload_n (i := 0) dX10_up_12 13 rfl rfl 1 rfl ?_
    refine aw_aload_n (i := 0) dX10_up_13 14 rfl rfl 1 rfl ?_
    refine gf_X10_4 dX10_up_14 17 rfl wd_107 (ok_0 (by decide)) ?_
    refine aw_iload_n (i := 1) dX10_up_17 18 rfl rfl 2 rfl ?_
    refine aw_aald dX10_up_18 19 rfl at_21 (by decide) (by decide) rfl rfl (al_21 _) (ok_21 (by decide)) rfl (fun h2 => ?_)
    refine aw_aload_n (i := 0) dX10_up_19 20 rfl rfl 1 rfl ?_
    refine gf_X10_4 dX10_up_20 23 rfl wd_107 (ok_0 (by decide)) ?_
    refine aw_aload_n (i := 0) dX10_up_23 24 rfl rfl 1 rfl ?_
    refine gf_X10_4 dX10_up_24 27 rfl wd_107 (ok_0 (by decide)) ?_
    refine aw_iload_n (i := 1) dX10_up_27 28 rfl rfl 2 rfl ?_
    refine aw_aald dX10_up_28 29 rfl at_21 (by decide) (by decide) rfl rfl (al_21 _) (ok_21 (by decide)) rfl (fun h3 => ?_)
    refine gfN_X0_7 dX10_up_29 32 rfl "SeaCells" (ns_42) (ok_2 (Nat.lt_of_lt_of_le (q_in_lt h3) (by decide))) ?_
    refine gfN_X4_2 dX10_up_32 35 rfl "SeaCells" (ns_22) (ok_5 (Nat.lt_of_lt_of_le (q_in_lt h3) (by decide))) ?_
    refine aw_aald dX10_up_35 36 rfl at_21 (by decide) (by decide) rfl rfl (al_21 _) (ok_21 (by decide)) rfl (fun h4 => ?_)
    refine aw_callV (M2 := m_X0_giveUp) (cv := q_cI) dX10_up_36 39 rfl (k_X0_giveUp l G (Int32.toNatClampNeg x1) (Int32.toNatClampNeg (u1.1 5 (Int32.toNatClampNeg x1) 2)) (Nat.lt_of_lt_of_le (q_in_lt h2) (by decide)) (Nat.lt_of_lt_of_le (q_in_lt h4) (by decide)) u1) wd_141 wv_X0_giveUp pk_X0_giveUp rfl rfl ⟨by decide, by decide⟩ ⟨Nat.zero_le _, Nat.zero_le _⟩ at_2 (ok_2 (Nat.lt_of_lt_of_le (q_in_lt h2) (by decide))) rfl rfl rfl (Nat.le_of_ble_eq_true rfl) (fun x3 u2 => ?_)
    show qAW l G m_X10_up (q_mq G q_cI) 39 [(2, .int x2), (0, .ref (q_ad G 0 0)), (1, .int x1)] [.int x3, .ref (q_ad G 0 0)] u2 _
    refine pf_X10_15 dX10_up_39 42 rfl wd_106 (ok_0 (by decide)) ?_
    refine aw_ltm (fun u3 => ?_)
    refine aw_iconst (x := 1) dX10_up_42 43 rfl rfl ?_
    exact aw_iret dX10_up_43 rfl
  · refine aw_iload_n (i := 2) dX10_up_10 11 rfl rfl 0 rfl ?_
    exact aw_iret dX10_up_11 rfl
theorem dX10_down_0 : decode cX10_down 0 = .ok (.aload_n 0, 1) := by decide +kernel
theorem dX10_down_1 : decode cX10_down 1 = .ok (.iload_n 1, 1) := by decide +kernel
theorem dX10_down_2 : decode cX10_down 2 = .ok (.invokevirtual 379, 3) := by decide +kernel
theorem dX10_down_5 : decode cX10_down 5 = .ok (.istore_n 2, 1) := by decide +kernel
theorem dX10_down_6 : decode cX10_down 6 = .ok (.iload_n 2, 1) := by decide +kernel
theorem dX10_down_7 : decode cX10_down 7 = .ok (.ifCond .eq 5, 3) := by decide +kernel
theorem dX10_down_10 : decode cX10_down 10 = .ok (.iload_n 2, 1) := by decide +kernel
theorem dX10_down_11 : decode cX10_down 11 = .ok (.ireturn, 1) := by decide +kernel
theorem dX10_down_12 : decode cX10_down 12 = .ok (.aload_n 0, 1) := by decide +kernel
theorem dX10_down_13 : decode cX10_down 13 = .ok (.aload_n 0, 1) := by decide +kernel
theorem dX10_down_14 : decode cX10_down 14 = .ok (.getfield 30, 3) := by decide +kernel
theorem dX10_down_17 : decode cX10_down 17 = .ok (.iload_n 1, 1) := by decide +kernel
theorem dX10_down_18 : decode cX10_down 18 = .ok (.aaload, 1) := by decide +kernel
theorem dX10_down_19 : decode cX10_down 19 = .ok (.aload_n 0, 1) := by decide +kernel
theorem dX10_down_20 : decode cX10_down 20 = .ok (.getfield 30, 3) := by decide +kernel
theorem dX10_down_23 : decode cX10_down 23 = .ok (.aload_n 0, 1) := by decide +kernel
theorem dX10_down_24 : decode cX10_down 24 = .ok (.getfield 30, 3) := by decide +kernel
theorem dX10_down_27 : decode cX10_down 27 = .ok (.iload_n 1, 1) := by decide +kernel
theorem dX10_down_28 : decode cX10_down 28 = .ok (.aaload, 1) := by decide +kernel
theorem dX10_down_29 : decode cX10_down 29 = .ok (.getfield 309, 3) := by decide +kernel
theorem dX10_down_32 : decode cX10_down 32 = .ok (.getfield 313, 3) := by decide +kernel
theorem dX10_down_35 : decode cX10_down 35 = .ok (.aaload, 1) := by decide +kernel
theorem dX10_down_36 : decode cX10_down 36 = .ok (.invokevirtual 386, 3) := by decide +kernel
theorem dX10_down_39 : decode cX10_down 39 = .ok (.putfield 116, 3) := by decide +kernel
theorem dX10_down_42 : decode cX10_down 42 = .ok (.iconst 1, 1) := by decide +kernel
theorem dX10_down_43 : decode cX10_down 43 = .ok (.ireturn, 1) := by decide +kernel
noncomputable def f_X10_down (x1 : Int32) (u0 : qM) : Option (Int32 × qM) :=
  q_bd (f_X10_nestRefused x1 u0) (fun (x2 : Int32) (u1 : qM) => if x2 = 0 then q_ck (q_in x1 6) (q_ck (q_in x1 6) (q_ck (q_in (u1.1 5 (Int32.toNatClampNeg x1) 2) 6) (q_bd (f_X0_takeDown (Int32.toNatClampNeg x1) (Int32.toNatClampNeg (u1.1 5 (Int32.toNatClampNeg x1) 2)) u1) (fun (x3 : Int32) (u2 : qM) => q_lt (q_si u2 0 0 15 x3) (fun (u3 : qM) => some (1, u3)))))) else some (x2, u1))
set_option maxRecDepth 100000 in
set_option maxHeartbeats 4000000 in
theorem k_X10_down (l : Launch) (G : qG) (x1 : Int32)  (u0 : qM) : qCt l G m_X10_down q_cI [.ref (q_ad G 0 0), .int x1] u0 (f_X10_down x1 u0) := by
  refine q_entry pk_X10_down (Nat.le_of_ble_eq_true rfl) ?_
  show qAW l G m_X10_down (q_mq G q_cI) 0 [(0, .ref (q_ad G 0 0)), (1, .int x1)] [] u0 (f_X10_down x1 u0)
  unfold f_X10_down
  refine aw_aload_n (i := 0) dX10_down_0 1 rfl rfl 0 rfl ?_
  refine aw_iload_n (i := 1) dX10_down_1 2 rfl rfl 1 rfl ?_
  refine aw_callV (M2 := m_X10_nestRefused) (cv := q_cI) dX10_down_2 5 rfl (k_X10_nestRefused l G x1  u0) wd_140 wv_X10_nestRefused pk_X10_nestRefused rfl rfl ⟨by decide, by decide⟩ ⟨Nat.zero_le _, Nat.zero_le _⟩ at_0 (ok_0 (by decide)) rfl rfl rfl (Nat.le_of_ble_eq_true rfl) (fun x2 u1 => ?_)
  show qAW l G m_X10_down (q_mq G q_cI) 5 [(0, .ref (q_ad G 0 0)), (1, .int x1)] [.int x2] u1 _
  refine aw_istore_n dX10_down_5 6 rfl rfl [(2, .int x2), (0, .ref (q_ad G 0 0)), (1, .int x1)] (by decide) rfl ?_
  refine aw_iload_n (i := 2) dX10_down_6 7 rfl rfl 0 rfl ?_
  refine aw_if_eq dX10_down_7 10 rfl 12 rfl (fun h1 => ?_) (fun h1 => ?_)
  · refine aw_aload_n (i := 0) dX10_down_12 13 rfl rfl 1 rfl ?_
    refine aw_aload_n (i := 0) dX10_down_13 14 rfl rfl 1 rfl ?_
    refine gf_X10_4 dX10_down_14 17 rfl wd_107 (ok_0 (by decide)) ?_
    refine aw_iload_n (i := 1) dX10_down_17 18 rfl rfl 2 rfl ?_
    refine aw_aald dX10_down_18 19 rfl at_21 (by decide) (by decide) rfl rfl (al_21 _) (ok_21 (by decide)) rfl (fun h2 => ?_)
    refine aw_aload_n (i := 0) dX10_down_19 20 rfl rfl 1 rfl ?_
    refine gf_X10_4 dX10_down_20 23 rfl wd_107 (ok_0 (by decide)) ?_
    refine aw_aload_n (i := 0) dX10_down_23 24 rfl rfl 1 rfl ?_
    refine gf_X10_4 dX10_down_24 27 rfl wd_107 (ok_0 (by decide)) ?_
    refine aw_iload_n (i := 1) dX10_down_27 28 rfl rfl 2 rfl ?_
    refine aw_aald dX10_down_28 29 rfl at_21 (by decide) (by decide) rfl rfl (al_21 _) (ok_21 (by decide)) rfl (fun h3 => ?_)
    refine gfN_X0_7 dX10_down_29 32 rfl "SeaCells" (ns_42) (ok_2 (Nat.lt_of_lt_of_le (q_in_lt h3) (by decide))) ?_
    refine gfN_X4_2 dX10_down_32 35 rfl "SeaCells" (ns_22) (ok_5 (Nat.lt_of_lt_of_le (q_in_lt h3) (by decide))) ?_
    refine aw_aald dX10_down_35 36 rfl at_21 (by decide) (by decide) rfl rfl (al_21 _) (ok_21 (by decide)) rfl (fun h4 => ?_)
    refine aw_callV (M2 := m_X0_takeDown) (cv := q_cI) dX10_down_36 39 rfl (k_X0_takeDown l G (Int32.toNatClampNeg x1) (Int32.toNatClampNeg (u1.1 5 (Int32.toNatClampNeg x1) 2)) (Nat.lt_of_lt_of_le (q_in_lt h2) (by decide)) (Nat.lt_of_lt_of_le (q_in_lt h4) (by decide)) u1) wd_142 wv_X0_takeDown pk_X0_takeDown rfl rfl ⟨by decide, by decide⟩ ⟨Nat.zero_le _, Nat.zero_le _⟩ at_2 (ok_2 (Nat.lt_of_lt_of_le (q_in_lt h2) (by decide))) rfl rfl rfl (Nat.le_of_ble_eq_true rfl) (fun x3 u2 => ?_)
    show qAW l G m_X10_down (q_mq G q_cI) 39 [(2, .int x2), (0, .ref (q_ad G 0 0)), (1, .int x1)] [.int x3, .ref (q_ad G 0 0)] u2 _
    refine pf_X10_15 dX10_down_39 42 rfl wd_106 (ok_0 (by decide)) ?_
    refine aw_ltm (fun u3 => ?_)
    refine aw_iconst (x := 1) dX10_down_42 43 rfl rfl ?_
    exact aw_iret dX10_down_43 rfl
  · refine aw_iload_n (i := 2) dX10_down_10 11 rfl rfl 0 rfl ?_
    exact aw_iret dX10_down_11 rfl
theorem dX10_asked_0 : decode cX10_asked 0 = .ok (.aload_n 0, 1) := by decide +kernel
theorem dX10_asked_1 : decode cX10_asked 1 = .ok (.getfield 116, 3) := by decide +kernel
theorem dX10_asked_4 : decode cX10_asked 4 = .ok (.ireturn, 1) := by decide +kernel
noncomputable def f_X10_asked  (u0 : qM) : Option (Int32 × qM) :=
  some (u0.1 0 0 15, u0)
set_option maxRecDepth 100000 in
set_option maxHeartbeats 4000000 in
theorem k_X10_asked (l : Launch) (G : qG)   (u0 : qM) : qCt l G m_X10_asked q_cI [.ref (q_ad G 0 0)] u0 (f_X10_asked  u0) := by
  refine q_entry pk_X10_asked (Nat.le_of_ble_eq_true rfl) ?_
  show qAW l G m_X10_asked (q_mq G q_cI) 0 [(0, .ref (q_ad G 0 0))] [] u0 (f_X10_asked  u0)
  unfold f_X10_asked
  refine aw_aload_n (i := 0) dX10_asked_0 1 rfl rfl 0 rfl ?_
  refine gf_X10_15 dX10_asked_1 4 rfl wd_106 (ok_0 (by decide)) ?_
  exact aw_iret dX10_asked_4 rfl
theorem dL_low_0 : decode cL_low 0 = .ok (.iload_n 0, 1) := by decide +kernel
theorem dL_low_1 : decode cL_low 1 = .ok (.ldc 7, 2) := by decide +kernel
theorem dL_low_3 : decode cL_low 3 = .ok (.iand, 1) := by decide +kernel
theorem dL_low_4 : decode cL_low 4 = .ok (.iload_n 1, 1) := by decide +kernel
theorem dL_low_5 : decode cL_low 5 = .ok (.irem, 1) := by decide +kernel
theorem dL_low_6 : decode cL_low 6 = .ok (.ireturn, 1) := by decide +kernel
noncomputable def f_L_low (x1 : Int32) (x2 : Int32) (u0 : qM) : Option (Int32 × qM) :=
  q_ck (q_nz x2) (some ((x1 &&& 2147483647) - (x1 &&& 2147483647) / x2 * x2, u0))
set_option maxRecDepth 100000 in
set_option maxHeartbeats 4000000 in
theorem k_L_low (l : Launch) (G : qG) (x1 : Int32) (x2 : Int32)  (u0 : qM) : qCt l G m_L_low q_cI [.int x1, .int x2] u0 (f_L_low x1 x2 u0) := by
  refine q_entry pk_L_low (Nat.le_of_ble_eq_true rfl) ?_
  show qAW l G m_L_low (q_mq G q_cI) 0 [(0, .int x1), (1, .int x2)] [] u0 (f_L_low x1 x2 u0)
  unfold f_L_low
  refine aw_iload_n (i := 0) dL_low_0 1 rfl rfl 0 rfl ?_
  refine aw_ldc (x := 2147483647) dL_low_1 3 rfl wd_143 ?_
  refine aw_iand dL_low_3 4 rfl ?_
  refine aw_iload_n (i := 1) dL_low_4 5 rfl rfl 1 rfl ?_
  refine aw_ck (fun h1 => ?_)
  refine aw_irem dL_low_5 6 rfl (of_decide_eq_true h1) ?_
  exact aw_iret dL_low_6 rfl
theorem dL_told_0 : decode cL_told 0 = .ok (.aload_n 0, 1) := by decide +kernel
theorem dL_told_1 : decode cL_told 1 = .ok (.iload_n 1, 1) := by decide +kernel
theorem dL_told_2 : decode cL_told 2 = .ok (.iload_n 2, 1) := by decide +kernel
theorem dL_told_3 : decode cL_told 3 = .ok (.invokevirtual 32, 3) := by decide +kernel
theorem dL_told_6 : decode cL_told 6 = .ok (.iconst 1, 1) := by decide +kernel
theorem dL_told_7 : decode cL_told 7 = .ok (.if_icmp .ne 10, 3) := by decide +kernel
theorem dL_told_10 : decode cL_told 10 = .ok (.aload_n 0, 1) := by decide +kernel
theorem dL_told_11 : decode cL_told 11 = .ok (.invokevirtual 35, 3) := by decide +kernel
theorem dL_told_14 : decode cL_told 14 = .ok (.goto 5, 3) := by decide +kernel
theorem dL_told_17 : decode cL_told 17 = .ok (.ldc 39, 2) := by decide +kernel
theorem dL_told_19 : decode cL_told 19 = .ok (.ireturn, 1) := by decide +kernel
noncomputable def f_L_told (x1 : Int32) (x2 : Int32) (u0 : qM) : Option (Int32 × qM) :=
  q_bd (f_X10_told x1 x2 u0) (fun (x3 : Int32) (u1 : qM) => q_jn (fun (x4 : Int32) (u2 : qM) => some (x4, u2)) (fun j1 => if x3 = 1 then q_bd (f_X10_asked  u1) (fun (x5 : Int32) (u3 : qM) => j1 x5 u3) else j1 (-77777) u1))
set_option maxRecDepth 100000 in
set_option maxHeartbeats 4000000 in
theorem k_L_told (l : Launch) (G : qG) (x1 : Int32) (x2 : Int32)  (u0 : qM) : qCt l G m_L_told q_cI [.ref (q_ad G 0 0), .int x1, .int x2] u0 (f_L_told x1 x2 u0) := by
  refine q_entry pk_L_told (Nat.le_of_ble_eq_true rfl) ?_
  show qAW l G m_L_told (q_mq G q_cI) 0 [(0, .ref (q_ad G 0 0)), (1, .int x1), (2, .int x2)] [] u0 (f_L_told x1 x2 u0)
  unfold f_L_told
  refine aw_aload_n (i := 0) dL_told_0 1 rfl rfl 0 rfl ?_
  refine aw_iload_n (i := 1) dL_told_1 2 rfl rfl 1 rfl ?_
  refine aw_iload_n (i := 2) dL_told_2 3 rfl rfl 2 rfl ?_
  refine aw_callV (M2 := m_X10_told) (cv := q_cI) dL_told_3 6 rfl (k_X10_told l G x1 x2  u0) wd_144 wv_X10_told pk_X10_told rfl rfl ⟨by decide, by decide⟩ ⟨Nat.zero_le _, Nat.zero_le _⟩ at_0 (ok_0 (by decide)) rfl rfl rfl (Nat.le_of_ble_eq_true rfl) (fun x3 u1 => ?_)
  show qAW l G m_L_told (q_mq G q_cI) 6 [(0, .ref (q_ad G 0 0)), (1, .int x1), (2, .int x2)] [.int x3] u1 _
  refine aw_iconst (x := 1) dL_told_6 7 rfl rfl ?_
  refine aw_jn (fun k => ∀ (x4 : Int32) (u2 : qM), qAW l G m_L_told (q_mq G q_cI) 19 [] [.int x4] u2 (k x4 u2)) ?_ ?_
  · intro x4 u2
    exact aw_iret dL_told_19 rfl
  · intro j1 hj1
    refine aw_icmp_ne dL_told_7 10 rfl 17 rfl (fun h1 => ?_) (fun h1 => ?_)
    · refine aw_ldc (x := (-77777)) dL_told_17 19 rfl wd_145 ?_
      exact aw_conv [] rfl (hj1 (-77777) u1)
    · refine aw_aload_n (i := 0) dL_told_10 11 rfl rfl 0 rfl ?_
      refine aw_callV (M2 := m_X10_asked) (cv := q_cI) dL_told_11 14 rfl (k_X10_asked l G   u1) wd_146 wv_X10_asked pk_X10_asked rfl rfl ⟨by decide, by decide⟩ ⟨Nat.zero_le _, Nat.zero_le _⟩ at_0 (ok_0 (by decide)) rfl rfl rfl (Nat.le_of_ble_eq_true rfl) (fun x5 u3 => ?_)
      show qAW l G m_L_told (q_mq G q_cI) 14 [(0, .ref (q_ad G 0 0)), (1, .int x1), (2, .int x2)] [.int x5] u3 _
      refine aw_goto dL_told_14 19 rfl ?_
      exact aw_conv [] rfl (hj1 x5 u3)
theorem dL_at_0 : decode cL_at 0 = .ok (.aload_n 0, 1) := by decide +kernel
theorem dL_at_1 : decode cL_at 1 = .ok (.iload_n 1, 1) := by decide +kernel
theorem dL_at_2 : decode cL_at 2 = .ok (.iload_n 2, 1) := by decide +kernel
theorem dL_at_3 : decode cL_at 3 = .ok (.iload_n 3, 1) := by decide +kernel
theorem dL_at_4 : decode cL_at 4 = .ok (.invokevirtual 40, 3) := by decide +kernel
theorem dL_at_7 : decode cL_at 7 = .ok (.iconst 1, 1) := by decide +kernel
theorem dL_at_8 : decode cL_at 8 = .ok (.if_icmp .ne 10, 3) := by decide +kernel
theorem dL_at_11 : decode cL_at 11 = .ok (.aload_n 0, 1) := by decide +kernel
theorem dL_at_12 : decode cL_at 12 = .ok (.invokevirtual 35, 3) := by decide +kernel
theorem dL_at_15 : decode cL_at 15 = .ok (.goto 5, 3) := by decide +kernel
theorem dL_at_18 : decode cL_at 18 = .ok (.ldc 39, 2) := by decide +kernel
theorem dL_at_20 : decode cL_at 20 = .ok (.ireturn, 1) := by decide +kernel
noncomputable def f_L_at (x1 : Int32) (x2 : Int32) (x3 : Int32) (u0 : qM) : Option (Int32 × qM) :=
  q_bd (f_X10_cell x1 x2 x3 u0) (fun (x4 : Int32) (u1 : qM) => q_jn (fun (x5 : Int32) (u2 : qM) => some (x5, u2)) (fun j1 => if x4 = 1 then q_bd (f_X10_asked  u1) (fun (x6 : Int32) (u3 : qM) => j1 x6 u3) else j1 (-77777) u1))
set_option maxRecDepth 100000 in
set_option maxHeartbeats 4000000 in
theorem k_L_at (l : Launch) (G : qG) (x1 : Int32) (x2 : Int32) (x3 : Int32)  (u0 : qM) : qCt l G m_L_at q_cI [.ref (q_ad G 0 0), .int x1, .int x2, .int x3] u0 (f_L_at x1 x2 x3 u0) := by
  refine q_entry pk_L_at (Nat.le_of_ble_eq_true rfl) ?_
  show qAW l G m_L_at (q_mq G q_cI) 0 [(0, .ref (q_ad G 0 0)), (1, .int x1), (2, .int x2), (3, .int x3)] [] u0 (f_L_at x1 x2 x3 u0)
  unfold f_L_at
  refine aw_aload_n (i := 0) dL_at_0 1 rfl rfl 0 rfl ?_
  refine aw_iload_n (i := 1) dL_at_1 2 rfl rfl 1 rfl ?_
  refine aw_iload_n (i := 2) dL_at_2 3 rfl rfl 2 rfl ?_
  refine aw_iload_n (i := 3) dL_at_3 4 rfl rfl 3 rfl ?_
  refine aw_callV (M2 := m_X10_cell) (cv := q_cI) dL_at_4 7 rfl (k_X10_cell l G x1 x2 x3  u0) wd_147 wv_X10_cell pk_X10_cell rfl rfl ⟨by decide, by decide⟩ ⟨Nat.zero_le _, Nat.zero_le _⟩ at_0 (ok_0 (by decide)) rfl rfl rfl (Nat.le_of_ble_eq_true rfl) (fun x4 u1 => ?_)
  show qAW l G m_L_at (q_mq G q_cI) 7 [(0, .ref (q_ad G 0 0)), (1, .int x1), (2, .int x2), (3, .int x3)] [.int x4] u1 _
  refine aw_iconst (x := 1) dL_at_7 8 rfl rfl ?_
  refine aw_jn (fun k => ∀ (x5 : Int32) (u2 : qM), qAW l G m_L_at (q_mq G q_cI) 20 [] [.int x5] u2 (k x5 u2)) ?_ ?_
  · intro x5 u2
    exact aw_iret dL_at_20 rfl
  · intro j1 hj1
    refine aw_icmp_ne dL_at_8 11 rfl 18 rfl (fun h1 => ?_) (fun h1 => ?_)
    · refine aw_ldc (x := (-77777)) dL_at_18 20 rfl wd_145 ?_
      exact aw_conv [] rfl (hj1 (-77777) u1)
    · refine aw_aload_n (i := 0) dL_at_11 12 rfl rfl 0 rfl ?_
      refine aw_callV (M2 := m_X10_asked) (cv := q_cI) dL_at_12 15 rfl (k_X10_asked l G   u1) wd_146 wv_X10_asked pk_X10_asked rfl rfl ⟨by decide, by decide⟩ ⟨Nat.zero_le _, Nat.zero_le _⟩ at_0 (ok_0 (by decide)) rfl rfl rfl (Nat.le_of_ble_eq_true rfl) (fun x6 u3 => ?_)
      show qAW l G m_L_at (q_mq G q_cI) 15 [(0, .ref (q_ad G 0 0)), (1, .int x1), (2, .int x2), (3, .int x3)] [.int x6] u3 _
      refine aw_goto dL_at_15 20 rfl ?_
      exact aw_conv [] rfl (hj1 x6 u3)
