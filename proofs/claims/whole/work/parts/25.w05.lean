theorem dX10_world_0 : decode cX10_world 0 = .ok (.aload_n 0, 1) := by decide +kernel
theorem dX10_world_1 : decode cX10_world 1 = .ok (.getfield 18, 3) := by decide +kernel
theorem dX10_world_4 : decode cX10_world 4 = .ok (.iload_n 1, 1) := by decide +kernel
theorem dX10_world_5 : decode cX10_world 5 = .ok (.invokevirtual 87, 3) := by decide +kernel
theorem dX10_world_8 : decode cX10_world 8 = .ok (.ifCond .eq 13, 3) := by decide +kernel
theorem dX10_world_11 : decode cX10_world 11 = .ok (.iload_n 2, 1) := by decide +kernel
theorem dX10_world_12 : decode cX10_world 12 = .ok (.iconst 0, 1) := by decide +kernel
theorem dX10_world_13 : decode cX10_world 13 = .ok (.bipush 99, 2) := by decide +kernel
theorem dX10_world_15 : decode cX10_world 15 = .ok (.invokestatic 101, 3) := by decide +kernel
theorem dX10_world_18 : decode cX10_world 18 = .ok (.ifCond .ne 5, 3) := by decide +kernel
theorem dX10_world_21 : decode cX10_world 21 = .ok (.iconst (-1), 1) := by decide +kernel
theorem dX10_world_22 : decode cX10_world 22 = .ok (.ireturn, 1) := by decide +kernel
theorem dX10_world_23 : decode cX10_world 23 = .ok (.aload_n 0, 1) := by decide +kernel
theorem dX10_world_24 : decode cX10_world 24 = .ok (.getfield 412, 3) := by decide +kernel
theorem dX10_world_27 : decode cX10_world 27 = .ok (.bipush 8, 2) := by decide +kernel
theorem dX10_world_29 : decode cX10_world 29 = .ok (.if_icmp .lt 6, 3) := by decide +kernel
theorem dX10_world_32 : decode cX10_world 32 = .ok (.bipush (-2), 2) := by decide +kernel
theorem dX10_world_34 : decode cX10_world 34 = .ok (.ireturn, 1) := by decide +kernel
theorem dX10_world_35 : decode cX10_world 35 = .ok (.aload_n 0, 1) := by decide +kernel
theorem dX10_world_36 : decode cX10_world 36 = .ok (.getfield 18, 3) := by decide +kernel
theorem dX10_world_39 : decode cX10_world 39 = .ok (.iload_n 1, 1) := by decide +kernel
theorem dX10_world_40 : decode cX10_world 40 = .ok (.invokevirtual 105, 3) := by decide +kernel
theorem dX10_world_43 : decode cX10_world 43 = .ok (.ifCond .ne 9, 3) := by decide +kernel
theorem dX10_world_46 : decode cX10_world 46 = .ok (.aload_n 0, 1) := by decide +kernel
theorem dX10_world_47 : decode cX10_world 47 = .ok (.iconst 1, 1) := by decide +kernel
theorem dX10_world_48 : decode cX10_world 48 = .ok (.invokevirtual 91, 3) := by decide +kernel
theorem dX10_world_51 : decode cX10_world 51 = .ok (.ireturn, 1) := by decide +kernel
theorem dX10_world_52 : decode cX10_world 52 = .ok (.aload_n 0, 1) := by decide +kernel
theorem dX10_world_53 : decode cX10_world 53 = .ok (.iload_n 1, 1) := by decide +kernel
theorem dX10_world_54 : decode cX10_world 54 = .ok (.invokevirtual 139, 3) := by decide +kernel
theorem dX10_world_57 : decode cX10_world 57 = .ok (.bipush (-9), 2) := by decide +kernel
theorem dX10_world_59 : decode cX10_world 59 = .ok (.if_icmp .eq 6, 3) := by decide +kernel
theorem dX10_world_62 : decode cX10_world 62 = .ok (.bipush (-4), 2) := by decide +kernel
theorem dX10_world_64 : decode cX10_world 64 = .ok (.ireturn, 1) := by decide +kernel
theorem dX10_world_65 : decode cX10_world 65 = .ok (.aload_n 0, 1) := by decide +kernel
theorem dX10_world_66 : decode cX10_world 66 = .ok (.getfield 21, 3) := by decide +kernel
theorem dX10_world_69 : decode cX10_world 69 = .ok (.aload_n 0, 1) := by decide +kernel
theorem dX10_world_70 : decode cX10_world 70 = .ok (.getfield 412, 3) := by decide +kernel
theorem dX10_world_73 : decode cX10_world 73 = .ok (.aload_n 0, 1) := by decide +kernel
theorem dX10_world_74 : decode cX10_world 74 = .ok (.getfield 18, 3) := by decide +kernel
theorem dX10_world_77 : decode cX10_world 77 = .ok (.getfield 136, 3) := by decide +kernel
theorem dX10_world_80 : decode cX10_world 80 = .ok (.iload_n 1, 1) := by decide +kernel
theorem dX10_world_81 : decode cX10_world 81 = .ok (.iaload, 1) := by decide +kernel
theorem dX10_world_82 : decode cX10_world 82 = .ok (.bipush 32, 2) := by decide +kernel
theorem dX10_world_84 : decode cX10_world 84 = .ok (.invokevirtual 95, 3) := by decide +kernel
theorem dX10_world_87 : decode cX10_world 87 = .ok (.aload_n 0, 1) := by decide +kernel
theorem dX10_world_88 : decode cX10_world 88 = .ok (.getfield 18, 3) := by decide +kernel
theorem dX10_world_91 : decode cX10_world 91 = .ok (.getfield 112, 3) := by decide +kernel
theorem dX10_world_94 : decode cX10_world 94 = .ok (.iload_n 1, 1) := by decide +kernel
theorem dX10_world_95 : decode cX10_world 95 = .ok (.aaload, 1) := by decide +kernel
theorem dX10_world_96 : decode cX10_world 96 = .ok (.iconst 0, 1) := by decide +kernel
theorem dX10_world_97 : decode cX10_world 97 = .ok (.aload_n 0, 1) := by decide +kernel
theorem dX10_world_98 : decode cX10_world 98 = .ok (.getfield 21, 3) := by decide +kernel
theorem dX10_world_101 : decode cX10_world 101 = .ok (.getfield 112, 3) := by decide +kernel
theorem dX10_world_104 : decode cX10_world 104 = .ok (.aload_n 0, 1) := by decide +kernel
theorem dX10_world_105 : decode cX10_world 105 = .ok (.getfield 412, 3) := by decide +kernel
theorem dX10_world_108 : decode cX10_world 108 = .ok (.aaload, 1) := by decide +kernel
theorem dX10_world_109 : decode cX10_world 109 = .ok (.iconst 0, 1) := by decide +kernel
theorem dX10_world_110 : decode cX10_world 110 = .ok (.aload_n 0, 1) := by decide +kernel
theorem dX10_world_111 : decode cX10_world 111 = .ok (.getfield 18, 3) := by decide +kernel
theorem dX10_world_114 : decode cX10_world 114 = .ok (.getfield 136, 3) := by decide +kernel
theorem dX10_world_117 : decode cX10_world 117 = .ok (.iload_n 1, 1) := by decide +kernel
theorem dX10_world_118 : decode cX10_world 118 = .ok (.iaload, 1) := by decide +kernel
theorem dX10_world_119 : decode cX10_world 119 = .ok (.invokestatic 127, 3) := by decide +kernel
theorem dX10_world_122 : decode cX10_world 122 = .ok (.aload_n 0, 1) := by decide +kernel
theorem dX10_world_123 : decode cX10_world 123 = .ok (.getfield 24, 3) := by decide +kernel
theorem dX10_world_126 : decode cX10_world 126 = .ok (.aload_n 0, 1) := by decide +kernel
theorem dX10_world_127 : decode cX10_world 127 = .ok (.getfield 412, 3) := by decide +kernel
theorem dX10_world_130 : decode cX10_world 130 = .ok (.iload_n 2, 1) := by decide +kernel
theorem dX10_world_131 : decode cX10_world 131 = .ok (.iastore, 1) := by decide +kernel
theorem dX10_world_132 : decode cX10_world 132 = .ok (.aload_n 0, 1) := by decide +kernel
theorem dX10_world_133 : decode cX10_world 133 = .ok (.dup, 1) := by decide +kernel
theorem dX10_world_134 : decode cX10_world 134 = .ok (.getfield 412, 3) := by decide +kernel
theorem dX10_world_137 : decode cX10_world 137 = .ok (.iconst 1, 1) := by decide +kernel
theorem dX10_world_138 : decode cX10_world 138 = .ok (.iadd, 1) := by decide +kernel
theorem dX10_world_139 : decode cX10_world 139 = .ok (.putfield 412, 3) := by decide +kernel
theorem dX10_world_142 : decode cX10_world 142 = .ok (.aload_n 0, 1) := by decide +kernel
theorem dX10_world_143 : decode cX10_world 143 = .ok (.getfield 412, 3) := by decide +kernel
theorem dX10_world_146 : decode cX10_world 146 = .ok (.iconst 1, 1) := by decide +kernel
theorem dX10_world_147 : decode cX10_world 147 = .ok (.isub, 1) := by decide +kernel
theorem dX10_world_148 : decode cX10_world 148 = .ok (.ireturn, 1) := by decide +kernel
noncomputable def f_X10_world (x1 : Int32) (x2 : Int32) (u0 : qM) : Option (Int32 × qM) :=
  q_bd (f_X7_isNumber 1 x1 u0) (fun (x3 : Int32) (u1 : qM) => q_jn (fun  (u2 : qM) => some ((-1), u2)) (fun j1 => if x3 = 0 then j1 u1 else q_bd (f_X10_within x2 0 99 u1) (fun (x4 : Int32) (u3 : qM) => if x4 = 0 then j1 u3 else if (u3.1 0 0 14) < 8 then q_bd (f_X7_isThere 1 x1 u3) (fun (x5 : Int32) (u4 : qM) => if x5 = 0 then q_bd (f_X10_found 1 u4) (fun (x7 : Int32) (u10 : qM) => some (x7, u10)) else q_bd (f_X10_faultOf x1 u4) (fun (x6 : Int32) (u5 : qM) => if x6 = (-9) then q_ck (q_in x1 6) (q_bd (f_X7_make 2 (u5.1 0 0 14) (u5.1 33 1 (Int32.toNatClampNeg x1)) 32 u5) (fun (_z : Unit) (u6 : qM) => q_ck (q_in x1 6) (q_ck (q_in (u6.1 0 0 14) 8) (q_ck (q_in x1 6) (q_ck (q_cr 0 0 (u6.1 33 1 (Int32.toNatClampNeg x1)) 40 40) (q_lt (q_sc u6 31 (Int32.toNatClampNeg x1) 32 (Int32.toNatClampNeg (u6.1 0 0 14)) (Int32.toNatClampNeg 0) (Int32.toNatClampNeg 0) (Int32.toNatClampNeg (u6.1 33 1 (Int32.toNatClampNeg x1)))) (fun (u7 : qM) => q_ck (q_in (u7.1 0 0 14) 8) (q_lt (q_si u7 34 0 (Int32.toNatClampNeg (u7.1 0 0 14)) x2) (fun (u8 : qM) => q_lt (q_si u8 0 0 14 ((u8.1 0 0 14) + 1)) (fun (u9 : qM) => some ((u9.1 0 0 14) - 1, u9))))))))))) else some ((-4), u5))) else some ((-2), u3))))
set_option maxRecDepth 100000 in
set_option maxHeartbeats 4000000 in
theorem k_X10_world (l : Launch) (G : qG) (x1 : Int32) (x2 : Int32)  (u0 : qM) : qCt l G m_X10_world q_cI [.ref (q_ad G 0 0), .int x1, .int x2] u0 (f_X10_world x1 x2 u0) := by
  refine q_entry pk_X10_world (Nat.le_of_ble_eq_true rfl) ?_
  show qAW l G m_X10_world (q_mq G q_cI) 0 [(0, .ref (q_ad G 0 0)), (1, .int x1), (2, .int x2)] [] u0 (f_X10_world x1 x2 u0)
  unfold f_X10_world
  refine aw_aload_n (i := 0) dX10_world_0 1 rfl rfl 0 rfl ?_
  refine gf_X10_1 dX10_world_1 4 rfl wd_140 (ok_0 (by decide)) ?_
  refine aw_iload_n (i := 1) dX10_world_4 5 rfl rfl 1 rfl ?_
  refine aw_callV (M2 := m_X7_isNumber) (cv := q_cI) dX10_world_5 8 rfl (k_X7_isNumber l G 1 x1 (by decide) u0) wd_126 wv_X7_isNumber pk_X7_isNumber rfl rfl ⟨by decide, by decide⟩ ⟨Nat.zero_le _, Nat.zero_le _⟩ at_1 (ok_1 (by decide)) rfl rfl rfl (Nat.le_of_ble_eq_true rfl) (fun x3 u1 => ?_)
  show qAW l G m_X10_world (q_mq G q_cI) 8 [(0, .ref (q_ad G 0 0)), (1, .int x1), (2, .int x2)] [.int x3] u1 _
  refine aw_jn (fun k => ∀  (u2 : qM), qAW l G m_X10_world (q_mq G q_cI) 21 [] [] u2 (k u2)) ?_ ?_
  · intro u2
    refine aw_iconst (x := (-1)) dX10_world_21 22 rfl rfl ?_
    exact aw_iret dX10_world_22 rfl
  · intro j1 hj1
    refine aw_if_eq dX10_world_8 11 rfl 21 rfl (fun h1 => ?_) (fun h1 => ?_)
    · exact aw_conv [] rfl (hj1 u1)
    · refine aw_iload_n (i := 2) dX10_world_11 12 rfl rfl 2 rfl ?_
      refine aw_iconst (x := 0) dX10_world_12 13 rfl rfl ?_
      refine aw_bipush (x := 99) dX10_world_13 15 rfl rfl ?_
      refine aw_callS (M2 := m_X10_within) (cv := q_cI) dX10_world_15 18 rfl (k_X10_within l G x2 0 99  u1) wd_131 wv_X10_within pk_X10_within rfl ⟨by decide, by decide⟩ ⟨Nat.zero_le _, Nat.zero_le _⟩ rfl (Nat.le_of_ble_eq_true rfl) (fun x4 u3 => ?_)
      show qAW l G m_X10_world (q_mq G q_cI) 18 [(0, .ref (q_ad G 0 0)), (1, .int x1), (2, .int x2)] [.int x4] u3 _
      refine aw_if_ne dX10_world_18 21 rfl 23 rfl (fun h2 => ?_) (fun h2 => ?_)
      · refine aw_aload_n (i := 0) dX10_world_23 24 rfl rfl 0 rfl ?_
        refine gf_X10_14 dX10_world_24 27 rfl wd_199 (ok_0 (by decide)) ?_
        refine aw_bipush (x := 8) dX10_world_27 29 rfl rfl ?_
        refine aw_icmp_lt dX10_world_29 32 rfl 35 rfl (fun h3 => ?_) (fun h3 => ?_)
        · refine aw_aload_n (i := 0) dX10_world_35 36 rfl rfl 0 rfl ?_
          refine gf_X10_1 dX10_world_36 39 rfl wd_140 (ok_0 (by decide)) ?_
          refine aw_iload_n (i := 1) dX10_world_39 40 rfl rfl 1 rfl ?_
          refine aw_callV (M2 := m_X7_isThere) (cv := q_cI) dX10_world_40 43 rfl (k_X7_isThere l G 1 x1 (by decide) u3) wd_132 wv_X7_isThere pk_X7_isThere rfl rfl ⟨by decide, by decide⟩ ⟨Nat.zero_le _, Nat.zero_le _⟩ at_1 (ok_1 (by decide)) rfl rfl rfl (Nat.le_of_ble_eq_true rfl) (fun x5 u4 => ?_)
          show qAW l G m_X10_world (q_mq G q_cI) 43 [(0, .ref (q_ad G 0 0)), (1, .int x1), (2, .int x2)] [.int x5] u4 _
          refine aw_if_ne dX10_world_43 46 rfl 52 rfl (fun h4 => ?_) (fun h4 => ?_)
          · refine aw_aload_n (i := 0) dX10_world_52 53 rfl rfl 0 rfl ?_
            refine aw_iload_n (i := 1) dX10_world_53 54 rfl rfl 1 rfl ?_
            refine aw_callV (M2 := m_X10_faultOf) (cv := q_cI) dX10_world_54 57 rfl (k_X10_faultOf l G x1  u4) wd_144 wv_X10_faultOf pk_X10_faultOf rfl rfl ⟨by decide, by decide⟩ ⟨Nat.zero_le _, Nat.zero_le _⟩ at_0 (ok_0 (by decide)) rfl rfl rfl (Nat.le_of_ble_eq_true rfl) (fun x6 u5 => ?_)
            show qAW l G m_X10_world (q_mq G q_cI) 57 [(0, .ref (q_ad G 0 0)), (1, .int x1), (2, .int x2)] [.int x6] u5 _
            refine aw_bipush (x := (-9)) dX10_world_57 59 rfl rfl ?_
            refine aw_icmp_eq dX10_world_59 62 rfl 65 rfl (fun h5 => ?_) (fun h5 => ?_)
            · refine aw_aload_n (i := 0) dX10_world_65 66 rfl rfl 0 rfl ?_
              refine gf_X10_2 dX10_world_66 69 rfl wd_200 (ok_0 (by decide)) ?_
              refine aw_aload_n (i := 0) dX10_world_69 70 rfl rfl 0 rfl ?_
              refine gf_X10_14 dX10_world_70 73 rfl wd_199 (ok_0 (by decide)) ?_
              refine aw_aload_n (i := 0) dX10_world_73 74 rfl rfl 0 rfl ?_
              refine gf_X10_1 dX10_world_74 77 rfl wd_140 (ok_0 (by decide)) ?_
              refine gfN_X7_1 dX10_world_77 80 rfl "SeaCells" (ns_2) (ok_1 (by decide)) ?_
              refine aw_iload_n (i := 1) dX10_world_80 81 rfl rfl 1 rfl ?_
              refine aw_iald dX10_world_81 82 rfl at_33 rfl (ok_33 (by decide)) (fun h6 => ?_)
              refine aw_bipush (x := 32) dX10_world_82 84 rfl rfl ?_
              refine aw_callV (M2 := m_X7_make) (cv := q_cU) dX10_world_84 87 rfl (k_X7_make l G 2 (u5.1 0 0 14) (u5.1 33 1 (Int32.toNatClampNeg x1)) 32 (by decide) u5) wd_127 wv_X7_make pk_X7_make rfl rfl ⟨by decide, by decide⟩ ⟨Nat.zero_le _, Nat.zero_le _⟩ at_1 (ok_1 (by decide)) rfl rfl rfl (Nat.le_of_ble_eq_true rfl) (fun _z u6 => ?_)
              show qAW l G m_X10_world (q_mq G q_cI) 87 [(0, .ref (q_ad G 0 0)), (1, .int x1), (2, .int x2)] [] u6 _
              refine aw_aload_n (i := 0) dX10_world_87 88 rfl rfl 0 rfl ?_
              refine gf_X10_1 dX10_world_88 91 rfl wd_140 (ok_0 (by decide)) ?_
              refine gfN_X7_0 dX10_world_91 94 rfl "SeaCells" (ns_0) (ok_1 (by decide)) ?_
              refine aw_iload_n (i := 1) dX10_world_94 95 rfl rfl 1 rfl ?_
              refine aw_aald dX10_world_95 96 rfl at_20 (by decide) (by decide) rfl rfl rfl (ok_20 (by decide)) rfl (fun h7 => ?_)
              refine aw_iconst (x := 0) dX10_world_96 97 rfl rfl ?_
              refine aw_aload_n (i := 0) dX10_world_97 98 rfl rfl 0 rfl ?_
              refine gf_X10_2 dX10_world_98 101 rfl wd_200 (ok_0 (by decide)) ?_
              refine gfN_X7_0 dX10_world_101 104 rfl "SeaCells" (ns_0) (ok_1 (by decide)) ?_
              refine aw_aload_n (i := 0) dX10_world_104 105 rfl rfl 0 rfl ?_
              refine gf_X10_14 dX10_world_105 108 rfl wd_199 (ok_0 (by decide)) ?_
              refine aw_aald dX10_world_108 109 rfl at_20 (by decide) (by decide) rfl rfl rfl (ok_20 (by decide)) rfl (fun h8 => ?_)
              refine aw_iconst (x := 0) dX10_world_109 110 rfl rfl ?_
              refine aw_aload_n (i := 0) dX10_world_110 111 rfl rfl 0 rfl ?_
              refine gf_X10_1 dX10_world_111 114 rfl wd_140 (ok_0 (by decide)) ?_
              refine gfN_X7_1 dX10_world_114 117 rfl "SeaCells" (ns_2) (ok_1 (by decide)) ?_
              refine aw_iload_n (i := 1) dX10_world_117 118 rfl rfl 1 rfl ?_
              refine aw_iald dX10_world_118 119 rfl at_33 rfl (ok_33 (by decide)) (fun h9 => ?_)
              refine aw_copy dX10_world_119 122 rfl wd_138 wd_29 wd_30 wd_31 at_31 (al_31 _) (ok_31 (q_in_lt h7)) at_32 (al_32 _) (ok_32 (q_in_lt h8)) (Nat.le_of_ble_eq_true rfl) (Nat.le_of_ble_eq_true rfl) (fun h10 => ?_)
              refine aw_ltm (fun u7 => ?_)
              refine aw_aload_n (i := 0) dX10_world_122 123 rfl rfl 0 rfl ?_
              refine gf_X10_3 dX10_world_123 126 rfl wd_201 (ok_0 (by decide)) ?_
              refine aw_aload_n (i := 0) dX10_world_126 127 rfl rfl 0 rfl ?_
              refine gf_X10_14 dX10_world_127 130 rfl wd_199 (ok_0 (by decide)) ?_
              refine aw_iload_n (i := 2) dX10_world_130 131 rfl rfl 2 rfl ?_
              refine aw_iast dX10_world_131 132 rfl at_34 (al_34 _) (ok_34 (by decide)) (fun h11 => ?_)
              refine aw_ltm (fun u8 => ?_)
              refine aw_aload_n (i := 0) dX10_world_132 133 rfl rfl 0 rfl ?_
              refine aw_dup dX10_world_133 134 rfl rfl ?_
              refine gf_X10_14 dX10_world_134 137 rfl wd_199 (ok_0 (by decide)) ?_
              refine aw_iconst (x := 1) dX10_world_137 138 rfl rfl ?_
              refine aw_iadd dX10_world_138 139 rfl ?_
              refine pf_X10_14 dX10_world_139 142 rfl wd_199 (ok_0 (by decide)) ?_
              refine aw_ltm (fun u9 => ?_)
              refine aw_aload_n (i := 0) dX10_world_142 143 rfl rfl 0 rfl ?_
              refine gf_X10_14 dX10_world_143 146 rfl wd_199 (ok_0 (by decide)) ?_
              refine aw_iconst (x := 1) dX10_world_146 147 rfl rfl ?_
              refine aw_isub dX10_world_147 148 rfl ?_
              exact aw_iret dX10_world_148 rfl
            · refine aw_bipush (x := (-4)) dX10_world_62 64 rfl rfl ?_
              exact aw_iret dX10_world_64 rfl
          · refine aw_aload_n (i := 0) dX10_world_46 47 rfl rfl 0 rfl ?_
            refine aw_iconst (x := 1) dX10_world_47 48 rfl rfl ?_
            refine aw_callV (M2 := m_X10_found) (cv := q_cI) dX10_world_48 51 rfl (k_X10_found l G 1  u4) wd_128 wv_X10_found pk_X10_found rfl rfl ⟨by decide, by decide⟩ ⟨Nat.zero_le _, Nat.zero_le _⟩ at_0 (ok_0 (by decide)) rfl rfl rfl (Nat.le_of_ble_eq_true rfl) (fun x7 u10 => ?_)
            show qAW l G m_X10_world (q_mq G q_cI) 51 [(0, .ref (q_ad G 0 0)), (1, .int x1), (2, .int x2)] [.int x7] u10 _
            exact aw_iret dX10_world_51 rfl
        · refine aw_bipush (x := (-2)) dX10_world_32 34 rfl rfl ?_
          exact aw_iret dX10_world_34 rfl
      · exact aw_conv [] rfl (hj1 u3)
theorem dX10_forget_0 : decode cX10_forget 0 = .ok (.aload_n 0, 1) := by decide +kernel
theorem dX10_forget_1 : decode cX10_forget 1 = .ok (.getfield 412, 3) := by decide +kernel
theorem dX10_forget_4 : decode cX10_forget 4 = .ok (.istore_n 1, 1) := by decide +kernel
theorem dX10_forget_5 : decode cX10_forget 5 = .ok (.aload_n 0, 1) := by decide +kernel
theorem dX10_forget_6 : decode cX10_forget 6 = .ok (.iconst 0, 1) := by decide +kernel
theorem dX10_forget_7 : decode cX10_forget 7 = .ok (.putfield 412, 3) := by decide +kernel
theorem dX10_forget_10 : decode cX10_forget 10 = .ok (.iload_n 1, 1) := by decide +kernel
theorem dX10_forget_11 : decode cX10_forget 11 = .ok (.ireturn, 1) := by decide +kernel
noncomputable def f_X10_forget  (u0 : qM) : Option (Int32 × qM) :=
  q_lt (u0.1 0 0 14) (fun (x1 : Int32) => q_lt (q_si u0 0 0 14 0) (fun (u1 : qM) => some (x1, u1)))
set_option maxRecDepth 100000 in
set_option maxHeartbeats 4000000 in
theorem k_X10_forget (l : Launch) (G : qG)   (u0 : qM) : qCt l G m_X10_forget q_cI [.ref (q_ad G 0 0)] u0 (f_X10_forget  u0) := by
  refine q_entry pk_X10_forget (Nat.le_of_ble_eq_true rfl) ?_
  show qAW l G m_X10_forget (q_mq G q_cI) 0 [(0, .ref (q_ad G 0 0))] [] u0 (f_X10_forget  u0)
  unfold f_X10_forget
  refine aw_aload_n (i := 0) dX10_forget_0 1 rfl rfl 0 rfl ?_
  refine gf_X10_14 dX10_forget_1 4 rfl wd_199 (ok_0 (by decide)) ?_
  refine aw_lti (fun x1 => ?_)
  refine aw_istore_n dX10_forget_4 5 rfl rfl [(1, .int x1), (0, .ref (q_ad G 0 0))] (by decide) rfl ?_
  refine aw_aload_n (i := 0) dX10_forget_5 6 rfl rfl 1 rfl ?_
  refine aw_iconst (x := 0) dX10_forget_6 7 rfl rfl ?_
  refine pf_X10_14 dX10_forget_7 10 rfl wd_199 (ok_0 (by decide)) ?_
  refine aw_ltm (fun u1 => ?_)
  refine aw_iload_n (i := 1) dX10_forget_10 11 rfl rfl 0 rfl ?_
  exact aw_iret dX10_forget_11 rfl
theorem dX10_allWeights_0 : decode cX10_allWeights 0 = .ok (.iconst 0, 1) := by decide +kernel
theorem dX10_allWeights_1 : decode cX10_allWeights 1 = .ok (.istore_n 1, 1) := by decide +kernel
theorem dX10_allWeights_2 : decode cX10_allWeights 2 = .ok (.iconst 0, 1) := by decide +kernel
theorem dX10_allWeights_3 : decode cX10_allWeights 3 = .ok (.istore_n 2, 1) := by decide +kernel
theorem dX10_allWeights_4 : decode cX10_allWeights 4 = .ok (.iload_n 2, 1) := by decide +kernel
theorem dX10_allWeights_5 : decode cX10_allWeights 5 = .ok (.aload_n 0, 1) := by decide +kernel
theorem dX10_allWeights_6 : decode cX10_allWeights 6 = .ok (.getfield 412, 3) := by decide +kernel
theorem dX10_allWeights_9 : decode cX10_allWeights 9 = .ok (.if_icmp .ge 18, 3) := by decide +kernel
theorem dX10_allWeights_12 : decode cX10_allWeights 12 = .ok (.iload_n 1, 1) := by decide +kernel
theorem dX10_allWeights_13 : decode cX10_allWeights 13 = .ok (.aload_n 0, 1) := by decide +kernel
theorem dX10_allWeights_14 : decode cX10_allWeights 14 = .ok (.getfield 24, 3) := by decide +kernel
theorem dX10_allWeights_17 : decode cX10_allWeights 17 = .ok (.iload_n 2, 1) := by decide +kernel
theorem dX10_allWeights_18 : decode cX10_allWeights 18 = .ok (.iaload, 1) := by decide +kernel
theorem dX10_allWeights_19 : decode cX10_allWeights 19 = .ok (.iadd, 1) := by decide +kernel
theorem dX10_allWeights_20 : decode cX10_allWeights 20 = .ok (.istore_n 1, 1) := by decide +kernel
theorem dX10_allWeights_21 : decode cX10_allWeights 21 = .ok (.iinc 2 1, 3) := by decide +kernel
theorem dX10_allWeights_24 : decode cX10_allWeights 24 = .ok (.goto (-20), 3) := by decide +kernel
theorem dX10_allWeights_27 : decode cX10_allWeights 27 = .ok (.iload_n 1, 1) := by decide +kernel
theorem dX10_allWeights_28 : decode cX10_allWeights 28 = .ok (.ireturn, 1) := by decide +kernel
noncomputable def L_X10_allWeights_4  : Nat → Int32 → Int32 → qM → (Int32 → qM → Option (Int32 × qM)) → Option (Int32 × qM)
  | 0, _, _, _, _ => none
  | n + 1, x1, x2, u1, e1 => if (u1.1 0 0 14) ≤ x2 then e1 x1 u1 else q_ck (q_in x2 8) (q_lt (x1 + (u1.1 34 0 (Int32.toNatClampNeg x2))) (fun (x3 : Int32) => q_lt (x2 + 1) (fun (x4 : Int32) => L_X10_allWeights_4 n x3 x4 u1 e1)))
noncomputable def f_X10_allWeights  (u0 : qM) : Option (Int32 × qM) :=
  L_X10_allWeights_4 q_fu 0 0 u0 (fun x5 u2 => some (x5, u2))
set_option maxRecDepth 100000 in
set_option maxHeartbeats 4000000 in
theorem TL_X10_allWeights_4 (l : Launch) (G : qG)   (e1 : Int32 → qM → Option (Int32 × qM)) (he1 : ∀ (y1 : Int32) (v : qM), qAW l G m_X10_allWeights (q_mq G q_cI) 27 [(1, .int y1)] [] v (e1 y1 v)) : ∀ (n : Nat) (x1 : Int32) (x2 : Int32) (u1 : qM), qAW l G m_X10_allWeights (q_mq G q_cI) 4 [(0, .ref (q_ad G 0 0)), (1, .int x1), (2, .int x2)] [] u1 (L_X10_allWeights_4 n x1 x2 u1 e1) := by
  intro n
  induction n with
  | zero => intros; exact aw_none
  | succ n ih =>
    intro x1 x2 u1
    unfold L_X10_allWeights_4
    refine aw_iload_n (i := 2) dX10_allWeights_4 5 rfl rfl 2 rfl ?_
    refine aw_aload_n (i := 0) dX10_allWeights_5 6 rfl rfl 0 rfl ?_
    refine gf_X10_14 dX10_allWeights_6 9 rfl wd_199 (ok_0 (by decide)) ?_
    refine aw_icmp_ge dX10_allWeights_9 12 rfl 27 rfl (fun h1 => ?_) (fun h1 => ?_)
    · exact aw_conv [1] rfl (he1 x1 u1)
    · refine aw_iload_n (i := 1) dX10_allWeights_12 13 rfl rfl 1 rfl ?_
      refine aw_aload_n (i := 0) dX10_allWeights_13 14 rfl rfl 0 rfl ?_
      refine gf_X10_3 dX10_allWeights_14 17 rfl wd_201 (ok_0 (by decide)) ?_
      refine aw_iload_n (i := 2) dX10_allWeights_17 18 rfl rfl 2 rfl ?_
      refine aw_iald dX10_allWeights_18 19 rfl at_34 (al_34 _) (ok_34 (by decide)) (fun h2 => ?_)
      refine aw_iadd dX10_allWeights_19 20 rfl ?_
      refine aw_lti (fun x3 => ?_)
      refine aw_istore_n dX10_allWeights_20 21 rfl rfl [(1, .int x3), (0, .ref (q_ad G 0 0)), (2, .int x2)] (by decide) rfl ?_
      refine aw_iincx (i := 2) dX10_allWeights_21 24 rfl 2 rfl 1 rfl (fun x4 => [(2, .int x4), (1, .int x3), (0, .ref (q_ad G 0 0))]) (by decide) (fun _ => rfl) (fun x4 => ?_)
      refine aw_goto dX10_allWeights_24 4 rfl ?_
      exact aw_conv [2, 1, 0] rfl (ih x3 x4 u1)
set_option maxRecDepth 100000 in
set_option maxHeartbeats 4000000 in
theorem k_X10_allWeights (l : Launch) (G : qG)   (u0 : qM) : qCt l G m_X10_allWeights q_cI [.ref (q_ad G 0 0)] u0 (f_X10_allWeights  u0) := by
  refine q_entry pk_X10_allWeights (Nat.le_of_ble_eq_true rfl) ?_
  show qAW l G m_X10_allWeights (q_mq G q_cI) 0 [(0, .ref (q_ad G 0 0))] [] u0 (f_X10_allWeights  u0)
  unfold f_X10_allWeights
  refine aw_iconst (x := 0) dX10_allWeights_0 1 rfl rfl ?_
  refine aw_istore_n dX10_allWeights_1 2 rfl rfl [(1, .int 0), (0, .ref (q_ad G 0 0))] (by decide) rfl ?_
  refine aw_iconst (x := 0) dX10_allWeights_2 3 rfl rfl ?_
  refine aw_istore_n dX10_allWeights_3 4 rfl rfl [(2, .int 0), (1, .int 0), (0, .ref (q_ad G 0 0))] (by decide) rfl ?_
  refine aw_conv [2, 1, 0] rfl (TL_X10_allWeights_4 l G   _ ?_ _ 0 0 u0)
  · intro x5 u2
    refine aw_iload_n (i := 1) dX10_allWeights_27 28 rfl rfl 0 rfl ?_
    exact aw_iret dX10_allWeights_28 rfl
theorem dX10_alarmRefused_0 : decode cX10_alarmRefused 0 = .ok (.aload_n 0, 1) := by decide +kernel
theorem dX10_alarmRefused_1 : decode cX10_alarmRefused 1 = .ok (.iload_n 3, 1) := by decide +kernel
theorem dX10_alarmRefused_2 : decode cX10_alarmRefused 2 = .ok (.sipush (-1000), 3) := by decide +kernel
theorem dX10_alarmRefused_5 : decode cX10_alarmRefused 5 = .ok (.ldc_w 447, 3) := by decide +kernel
theorem dX10_alarmRefused_8 : decode cX10_alarmRefused 8 = .ok (.invokestatic 101, 3) := by decide +kernel
theorem dX10_alarmRefused_11 : decode cX10_alarmRefused 11 = .ok (.iload_n 1, 1) := by decide +kernel
theorem dX10_alarmRefused_12 : decode cX10_alarmRefused 12 = .ok (.iload_n 2, 1) := by decide +kernel
theorem dX10_alarmRefused_13 : decode cX10_alarmRefused 13 = .ok (.invokevirtual 174, 3) := by decide +kernel
theorem dX10_alarmRefused_16 : decode cX10_alarmRefused 16 = .ok (.istore 4, 2) := by decide +kernel
theorem dX10_alarmRefused_18 : decode cX10_alarmRefused 18 = .ok (.iload 4, 2) := by decide +kernel
theorem dX10_alarmRefused_20 : decode cX10_alarmRefused 20 = .ok (.ifCond .eq 6, 3) := by decide +kernel
theorem dX10_alarmRefused_23 : decode cX10_alarmRefused 23 = .ok (.iload 4, 2) := by decide +kernel
theorem dX10_alarmRefused_25 : decode cX10_alarmRefused 25 = .ok (.ireturn, 1) := by decide +kernel
theorem dX10_alarmRefused_26 : decode cX10_alarmRefused 26 = .ok (.aload_n 0, 1) := by decide +kernel
theorem dX10_alarmRefused_27 : decode cX10_alarmRefused 27 = .ok (.invokevirtual 422, 3) := by decide +kernel
theorem dX10_alarmRefused_30 : decode cX10_alarmRefused 30 = .ok (.ifCond .ne 11, 3) := by decide +kernel
theorem dX10_alarmRefused_33 : decode cX10_alarmRefused 33 = .ok (.aload_n 0, 1) := by decide +kernel
theorem dX10_alarmRefused_34 : decode cX10_alarmRefused 34 = .ok (.iconst 4, 1) := by decide +kernel
theorem dX10_alarmRefused_35 : decode cX10_alarmRefused 35 = .ok (.invokevirtual 91, 3) := by decide +kernel
theorem dX10_alarmRefused_38 : decode cX10_alarmRefused 38 = .ok (.goto 4, 3) := by decide +kernel
theorem dX10_alarmRefused_41 : decode cX10_alarmRefused 41 = .ok (.iconst 0, 1) := by decide +kernel
theorem dX10_alarmRefused_42 : decode cX10_alarmRefused 42 = .ok (.ireturn, 1) := by decide +kernel
noncomputable def f_X10_alarmRefused (x1 : Int32) (x2 : Int32) (x3 : Int32) (u0 : qM) : Option (Int32 × qM) :=
  q_bd (f_X10_within x3 (-1000) 101000 u0) (fun (x4 : Int32) (u1 : qM) => q_bd (f_X10_cellRefused x4 x1 x2 u1) (fun (x5 : Int32) (u2 : qM) => if x5 = 0 then q_bd (f_X10_allWeights  u2) (fun (x6 : Int32) (u3 : qM) => q_jn (fun (x7 : Int32) (u4 : qM) => some (x7, u4)) (fun j1 => if x6 = 0 then q_bd (f_X10_found 4 u3) (fun (x8 : Int32) (u5 : qM) => j1 x8 u5) else j1 0 u3)) else some (x5, u2)))
set_option maxRecDepth 100000 in
set_option maxHeartbeats 4000000 in
theorem k_X10_alarmRefused (l : Launch) (G : qG) (x1 : Int32) (x2 : Int32) (x3 : Int32)  (u0 : qM) : qCt l G m_X10_alarmRefused q_cI [.ref (q_ad G 0 0), .int x1, .int x2, .int x3] u0 (f_X10_alarmRefused x1 x2 x3 u0) := by
  refine q_entry pk_X10_alarmRefused (Nat.le_of_ble_eq_true rfl) ?_
  show qAW l G m_X10_alarmRefused (q_mq G q_cI) 0 [(0, .ref (q_ad G 0 0)), (1, .int x1), (2, .int x2), (3, .int x3)] [] u0 (f_X10_alarmRefused x1 x2 x3 u0)
  unfold f_X10_alarmRefused
  refine aw_aload_n (i := 0) dX10_alarmRefused_0 1 rfl rfl 0 rfl ?_
  refine aw_iload_n (i := 3) dX10_alarmRefused_1 2 rfl rfl 3 rfl ?_
  refine aw_sipush (x := (-1000)) dX10_alarmRefused_2 5 rfl rfl ?_
  refine aw_ldcw (x := 101000) dX10_alarmRefused_5 8 rfl wd_202 ?_
  refine aw_callS (M2 := m_X10_within) (cv := q_cI) dX10_alarmRefused_8 11 rfl (k_X10_within l G x3 (-1000) 101000  u0) wd_131 wv_X10_within pk_X10_within rfl ⟨by decide, by decide⟩ ⟨Nat.zero_le _, Nat.zero_le _⟩ rfl (Nat.le_of_ble_eq_true rfl) (fun x4 u1 => ?_)
  show qAW l G m_X10_alarmRefused (q_mq G q_cI) 11 [(0, .ref (q_ad G 0 0)), (1, .int x1), (2, .int x2), (3, .int x3)] [.int x4, .ref (q_ad G 0 0)] u1 _
  refine aw_iload_n (i := 1) dX10_alarmRefused_11 12 rfl rfl 1 rfl ?_
  refine aw_iload_n (i := 2) dX10_alarmRefused_12 13 rfl rfl 2 rfl ?_
  refine aw_callV (M2 := m_X10_cellRefused) (cv := q_cI) dX10_alarmRefused_13 16 rfl (k_X10_cellRefused l G x4 x1 x2  u1) wd_156 wv_X10_cellRefused pk_X10_cellRefused rfl rfl ⟨by decide, by decide⟩ ⟨Nat.zero_le _, Nat.zero_le _⟩ at_0 (ok_0 (by decide)) rfl rfl rfl (Nat.le_of_ble_eq_true rfl) (fun x5 u2 => ?_)
  show qAW l G m_X10_alarmRefused (q_mq G q_cI) 16 [(0, .ref (q_ad G 0 0)), (1, .int x1), (2, .int x2), (3, .int x3)] [.int x5] u2 _
  refine aw_istore dX10_alarmRefused_16 18 rfl [(4, .int x5), (0, .ref (q_ad G 0 0)), (1, .int x1), (2, .int x2), (3, .int x3)] (by decide) rfl ?_
  refine aw_iload (i := 4) dX10_alarmRefused_18 20 rfl 0 rfl ?_
  refine aw_if_eq dX10_alarmRefused_20 23 rfl 26 rfl (fun h1 => ?_) (fun h1 => ?_)
  · refine aw_aload_n (i := 0) dX10_alarmRefused_26 27 rfl rfl 1 rfl ?_
    refine aw_callV (M2 := m_X10_allWeights) (cv := q_cI) dX10_alarmRefused_27 30 rfl (k_X10_allWeights l G   u2) wd_203 wv_X10_allWeights pk_X10_allWeights rfl rfl ⟨by decide, by decide⟩ ⟨Nat.zero_le _, Nat.zero_le _⟩ at_0 (ok_0 (by decide)) rfl rfl rfl (Nat.le_of_ble_eq_true rfl) (fun x6 u3 => ?_)
    show qAW l G m_X10_alarmRefused (q_mq G q_cI) 30 [(4, .int x5), (0, .ref (q_ad G 0 0)), (1, .int x1), (2, .int x2), (3, .int x3)] [.int x6] u3 _
    refine aw_jn (fun k => ∀ (x7 : Int32) (u4 : qM), qAW l G m_X10_alarmRefused (q_mq G q_cI) 42 [] [.int x7] u4 (k x7 u4)) ?_ ?_
    · intro x7 u4
      exact aw_iret dX10_alarmRefused_42 rfl
    · intro j1 hj1
      refine aw_if_ne dX10_alarmRefused_30 33 rfl 41 rfl (fun h2 => ?_) (fun h2 => ?_)
      · refine aw_iconst (x := 0) dX10_alarmRefused_41 42 rfl rfl ?_
        exact aw_conv [] rfl (hj1 0 u3)
      · refine aw_aload_n (i := 0) dX10_alarmRefused_33 34 rfl rfl 1 rfl ?_
        refine aw_iconst (x := 4) dX10_alarmRefused_34 35 rfl rfl ?_
        refine aw_callV (M2 := m_X10_found) (cv := q_cI) dX10_alarmRefused_35 38 rfl (k_X10_found l G 4  u3) wd_128 wv_X10_found pk_X10_found rfl rfl ⟨by decide, by decide⟩ ⟨Nat.zero_le _, Nat.zero_le _⟩ at_0 (ok_0 (by decide)) rfl rfl rfl (Nat.le_of_ble_eq_true rfl) (fun x8 u5 => ?_)
        show qAW l G m_X10_alarmRefused (q_mq G q_cI) 38 [(4, .int x5), (0, .ref (q_ad G 0 0)), (1, .int x1), (2, .int x2), (3, .int x3)] [.int x8] u5 _
        refine aw_goto dX10_alarmRefused_38 42 rfl ?_
        exact aw_conv [] rfl (hj1 x8 u5)
  · refine aw_iload (i := 4) dX10_alarmRefused_23 25 rfl 0 rfl ?_
    exact aw_iret dX10_alarmRefused_25 rfl
theorem dX10_trialComesTo_0 : decode cX10_trialComesTo 0 = .ok (.aload_n 0, 1) := by decide +kernel
theorem dX10_trialComesTo_1 : decode cX10_trialComesTo 1 = .ok (.getfield 49, 3) := by decide +kernel
theorem dX10_trialComesTo_4 : decode cX10_trialComesTo 4 = .ok (.aload_n 0, 1) := by decide +kernel
theorem dX10_trialComesTo_5 : decode cX10_trialComesTo 5 = .ok (.getfield 21, 3) := by decide +kernel
theorem dX10_trialComesTo_8 : decode cX10_trialComesTo 8 = .ok (.getfield 112, 3) := by decide +kernel
theorem dX10_trialComesTo_11 : decode cX10_trialComesTo 11 = .ok (.iload_n 1, 1) := by decide +kernel
theorem dX10_trialComesTo_12 : decode cX10_trialComesTo 12 = .ok (.aaload, 1) := by decide +kernel
theorem dX10_trialComesTo_13 : decode cX10_trialComesTo 13 = .ok (.aload_n 0, 1) := by decide +kernel
theorem dX10_trialComesTo_14 : decode cX10_trialComesTo 14 = .ok (.getfield 21, 3) := by decide +kernel
theorem dX10_trialComesTo_17 : decode cX10_trialComesTo 17 = .ok (.getfield 136, 3) := by decide +kernel
theorem dX10_trialComesTo_20 : decode cX10_trialComesTo 20 = .ok (.iload_n 1, 1) := by decide +kernel
theorem dX10_trialComesTo_21 : decode cX10_trialComesTo 21 = .ok (.iaload, 1) := by decide +kernel
theorem dX10_trialComesTo_22 : decode cX10_trialComesTo 22 = .ok (.invokevirtual 146, 3) := by decide +kernel
theorem dX10_trialComesTo_25 : decode cX10_trialComesTo 25 = .ok (.iconst 0, 1) := by decide +kernel
theorem dX10_trialComesTo_26 : decode cX10_trialComesTo 26 = .ok (.istore 4, 2) := by decide +kernel
theorem dX10_trialComesTo_28 : decode cX10_trialComesTo 28 = .ok (.iload 4, 2) := by decide +kernel
theorem dX10_trialComesTo_30 : decode cX10_trialComesTo 30 = .ok (.bipush 40, 2) := by decide +kernel
theorem dX10_trialComesTo_32 : decode cX10_trialComesTo 32 = .ok (.if_icmp .ge 99, 3) := by decide +kernel
theorem dX10_trialComesTo_35 : decode cX10_trialComesTo 35 = .ok (.aload_n 0, 1) := by decide +kernel
theorem dX10_trialComesTo_36 : decode cX10_trialComesTo 36 = .ok (.getfield 49, 3) := by decide +kernel
theorem dX10_trialComesTo_39 : decode cX10_trialComesTo 39 = .ok (.invokevirtual 150, 3) := by decide +kernel
theorem dX10_trialComesTo_42 : decode cX10_trialComesTo 42 = .ok (.ifCond .eq 89, 3) := by decide +kernel
theorem dX10_trialComesTo_45 : decode cX10_trialComesTo 45 = .ok (.aload_n 0, 1) := by decide +kernel
theorem dX10_trialComesTo_46 : decode cX10_trialComesTo 46 = .ok (.getfield 35, 3) := by decide +kernel
theorem dX10_trialComesTo_49 : decode cX10_trialComesTo 49 = .ok (.aload_n 0, 1) := by decide +kernel
theorem dX10_trialComesTo_50 : decode cX10_trialComesTo 50 = .ok (.getfield 49, 3) := by decide +kernel
theorem dX10_trialComesTo_53 : decode cX10_trialComesTo 53 = .ok (.getfield 400, 3) := by decide +kernel
theorem dX10_trialComesTo_56 : decode cX10_trialComesTo 56 = .ok (.aload_n 0, 1) := by decide +kernel
theorem dX10_trialComesTo_57 : decode cX10_trialComesTo 57 = .ok (.getfield 49, 3) := by decide +kernel
theorem dX10_trialComesTo_60 : decode cX10_trialComesTo 60 = .ok (.getfield 403, 3) := by decide +kernel
theorem dX10_trialComesTo_63 : decode cX10_trialComesTo 63 = .ok (.invokevirtual 406, 3) := by decide +kernel
theorem dX10_trialComesTo_66 : decode cX10_trialComesTo 66 = .ok (.aload_n 0, 1) := by decide +kernel
theorem dX10_trialComesTo_67 : decode cX10_trialComesTo 67 = .ok (.getfield 49, 3) := by decide +kernel
theorem dX10_trialComesTo_70 : decode cX10_trialComesTo 70 = .ok (.invokevirtual 409, 3) := by decide +kernel
theorem dX10_trialComesTo_73 : decode cX10_trialComesTo 73 = .ok (.istore 5, 2) := by decide +kernel
theorem dX10_trialComesTo_75 : decode cX10_trialComesTo 75 = .ok (.iconst 0, 1) := by decide +kernel
theorem dX10_trialComesTo_76 : decode cX10_trialComesTo 76 = .ok (.istore 6, 2) := by decide +kernel
theorem dX10_trialComesTo_78 : decode cX10_trialComesTo 78 = .ok (.iload 6, 2) := by decide +kernel
theorem dX10_trialComesTo_80 : decode cX10_trialComesTo 80 = .ok (.iload 5, 2) := by decide +kernel
theorem dX10_trialComesTo_82 : decode cX10_trialComesTo 82 = .ok (.if_icmp .ge 43, 3) := by decide +kernel
theorem dX10_trialComesTo_85 : decode cX10_trialComesTo 85 = .ok (.aload_n 0, 1) := by decide +kernel
theorem dX10_trialComesTo_86 : decode cX10_trialComesTo 86 = .ok (.getfield 42, 3) := by decide +kernel
theorem dX10_trialComesTo_89 : decode cX10_trialComesTo 89 = .ok (.aload_n 0, 1) := by decide +kernel
theorem dX10_trialComesTo_90 : decode cX10_trialComesTo 90 = .ok (.getfield 35, 3) := by decide +kernel
theorem dX10_trialComesTo_93 : decode cX10_trialComesTo 93 = .ok (.aload_n 0, 1) := by decide +kernel
theorem dX10_trialComesTo_94 : decode cX10_trialComesTo 94 = .ok (.getfield 14, 3) := by decide +kernel
theorem dX10_trialComesTo_97 : decode cX10_trialComesTo 97 = .ok (.invokevirtual 295, 3) := by decide +kernel
theorem dX10_trialComesTo_100 : decode cX10_trialComesTo 100 = .ok (.ifCond .ne 5, 3) := by decide +kernel
theorem dX10_trialComesTo_103 : decode cX10_trialComesTo 103 = .ok (.iconst 0, 1) := by decide +kernel
theorem dX10_trialComesTo_104 : decode cX10_trialComesTo 104 = .ok (.ireturn, 1) := by decide +kernel
theorem dX10_trialComesTo_105 : decode cX10_trialComesTo 105 = .ok (.aload_n 0, 1) := by decide +kernel
theorem dX10_trialComesTo_106 : decode cX10_trialComesTo 106 = .ok (.getfield 35, 3) := by decide +kernel
theorem dX10_trialComesTo_109 : decode cX10_trialComesTo 109 = .ok (.iload_n 2, 1) := by decide +kernel
theorem dX10_trialComesTo_110 : decode cX10_trialComesTo 110 = .ok (.invokevirtual 187, 3) := by decide +kernel
theorem dX10_trialComesTo_113 : decode cX10_trialComesTo 113 = .ok (.iload_n 3, 1) := by decide +kernel
theorem dX10_trialComesTo_114 : decode cX10_trialComesTo 114 = .ok (.if_icmp .lt 5, 3) := by decide +kernel
theorem dX10_trialComesTo_117 : decode cX10_trialComesTo 117 = .ok (.iconst 1, 1) := by decide +kernel
theorem dX10_trialComesTo_118 : decode cX10_trialComesTo 118 = .ok (.ireturn, 1) := by decide +kernel
theorem dX10_trialComesTo_119 : decode cX10_trialComesTo 119 = .ok (.iinc 6 1, 3) := by decide +kernel
theorem dX10_trialComesTo_122 : decode cX10_trialComesTo 122 = .ok (.goto (-44), 3) := by decide +kernel
theorem dX10_trialComesTo_125 : decode cX10_trialComesTo 125 = .ok (.iinc 4 1, 3) := by decide +kernel
theorem dX10_trialComesTo_128 : decode cX10_trialComesTo 128 = .ok (.goto (-100), 3) := by decide +kernel
theorem dX10_trialComesTo_131 : decode cX10_trialComesTo 131 = .ok (.iconst 0, 1) := by decide +kernel
theorem dX10_trialComesTo_132 : decode cX10_trialComesTo 132 = .ok (.ireturn, 1) := by decide +kernel
noncomputable def L_X10_trialComesTo_78 (x2 : Int32) (x3 : Int32) (x4 : Int32) (x6 : Int32) : Nat → Int32 → qM → (qM → Option (Int32 × qM)) → (qM → Option (Int32 × qM)) → (qM → Option (Int32 × qM)) → Option (Int32 × qM)
  | 0, _, _, _, _, _ => none
  | n + 1, x7, u6, e1, e2, e3 => if x6 ≤ x7 then e1 u6 else q_bd (f_X8_advance 6 u6) (fun (x8 : Int32) (u7 : qM) => if x8 = 0 then e2 u7 else q_bd (f_X0_level 6 x2 u7) (fun (x9 : Int32) (u8 : qM) => if x9 < x3 then q_lt (x7 + 1) (fun (x10 : Int32) => L_X10_trialComesTo_78 x2 x3 x4 x6 n x10 u8 e1 e2 e3) else e3 u8))
noncomputable def L_X10_trialComesTo_28 (x2 : Int32) (x3 : Int32) : Nat → Int32 → qM → (qM → Option (Int32 × qM)) → (qM → Option (Int32 × qM)) → (qM → Option (Int32 × qM)) → Option (Int32 × qM)
  | 0, _, _, _, _, _ => none
  | n + 1, x4, u2, e1, e2, e3 => if 40 ≤ x4 then e1 u2 else q_bd (f_X6_next  u2) (fun (x5 : Int32) (u3 : qM) => if x5 = 0 then e1 u3 else q_bd (f_X0_obey 6 (u3.1 7 0 3) (u3.1 7 0 4) u3) (fun (_z : Unit) (u4 : qM) => q_bd (f_X6_stepsOfItem  u4) (fun (x6 : Int32) (u5 : qM) => L_X10_trialComesTo_78 x2 x3 x4 x6 q_fu 0 u5 (fun u9 => q_lt (x4 + 1) (fun (x11 : Int32) => L_X10_trialComesTo_28 x2 x3 n x11 u9 e1 e2 e3)) (fun u10 => e2 u10) (fun u11 => e3 u11))))
noncomputable def f_X10_trialComesTo (x1 : Int32) (x2 : Int32) (x3 : Int32) (u0 : qM) : Option (Int32 × qM) :=
  q_ck (q_in x1 8) (q_ck (q_in x1 8) (q_bd (f_X6_open 32 (Int32.toNatClampNeg x1) (u0.1 33 2 (Int32.toNatClampNeg x1)) u0) (fun (_z : Unit) (u1 : qM) => L_X10_trialComesTo_28 x2 x3 q_fu 0 u1 (fun u12 => some (0, u12)) (fun u13 => some (0, u13)) (fun u14 => some (1, u14)))))
set_option maxRecDepth 100000 in
set_option maxHeartbeats 4000000 in
theorem TL_X10_trialComesTo_78 (l : Launch) (G : qG) (x2 : Int32) (x3 : Int32) (x4 : Int32) (x6 : Int32)  (e1 : qM → Option (Int32 × qM)) (e2 : qM → Option (Int32 × qM)) (e3 : qM → Option (Int32 × qM)) (he1 : ∀  (v : qM), qAW l G m_X10_trialComesTo (q_mq G q_cI) 125 [(0, .ref (q_ad G 0 0)), (2, .int x2), (3, .int x3), (4, .int x4)] [] v (e1 v)) (he2 : ∀  (v : qM), qAW l G m_X10_trialComesTo (q_mq G q_cI) 103 [] [] v (e2 v)) (he3 : ∀  (v : qM), qAW l G m_X10_trialComesTo (q_mq G q_cI) 117 [] [] v (e3 v)) : ∀ (n : Nat) (x7 : Int32) (u6 : qM), qAW l G m_X10_trialComesTo (q_mq G q_cI) 78 [(0, .ref (q_ad G 0 0)), (2, .int x2), (3, .int x3), (4, .int x4), (5, .int x6), (6, .int x7)] [] u6 (L_X10_trialComesTo_78 x2 x3 x4 x6 n x7 u6 e1 e2 e3) := by
  intro n
  induction n with
  | zero => intros; exact aw_none
  | succ n ih =>
    intro x7 u6
    unfold L_X10_trialComesTo_78
    refine aw_iload (i := 6) dX10_trialComesTo_78 80 rfl 5 rfl ?_
    refine aw_iload (i := 5) dX10_trialComesTo_80 82 rfl 4 rfl ?_
    refine aw_icmp_ge dX10_trialComesTo_82 85 rfl 125 rfl (fun h5 => ?_) (fun h5 => ?_)
    · exact aw_conv [0, 1, 2, 3] rfl (he1 u6)
    · refine aw_aload_n (i := 0) dX10_trialComesTo_85 86 rfl rfl 0 rfl ?_
      refine gf_X10_6 dX10_trialComesTo_86 89 rfl wd_161 (ok_0 (by decide)) ?_
      refine aw_aload_n (i := 0) dX10_trialComesTo_89 90 rfl rfl 0 rfl ?_
      refine gf_X10_5 dX10_trialComesTo_90 93 rfl wd_191 (ok_0 (by decide)) ?_
      refine aw_aload_n (i := 0) dX10_trialComesTo_93 94 rfl rfl 0 rfl ?_
      refine gf_X10_0 dX10_trialComesTo_94 97 rfl wd_125 (ok_0 (by decide)) ?_
      refine aw_callV (M2 := m_X8_advance) (cv := q_cI) dX10_trialComesTo_97 100 rfl (k_X8_advance l G 6 (by decide) u6) wd_162 wv_X8_advance pk_X8_advance rfl rfl ⟨by decide, by decide⟩ ⟨Nat.zero_le _, Nat.zero_le _⟩ at_6 (ok_6 (by decide)) rfl rfl rfl (Nat.le_of_ble_eq_true rfl) (fun x8 u7 => ?_)
      show qAW l G m_X10_trialComesTo (q_mq G q_cI) 100 [(0, .ref (q_ad G 0 0)), (2, .int x2), (3, .int x3), (4, .int x4), (5, .int x6), (6, .int x7)] [.int x8] u7 _
      refine aw_if_ne dX10_trialComesTo_100 103 rfl 105 rfl (fun h6 => ?_) (fun h6 => ?_)
      · refine aw_aload_n (i := 0) dX10_trialComesTo_105 106 rfl rfl 0 rfl ?_
        refine gf_X10_5 dX10_trialComesTo_106 109 rfl wd_191 (ok_0 (by decide)) ?_
        refine aw_iload_n (i := 2) dX10_trialComesTo_109 110 rfl rfl 1 rfl ?_
        refine aw_callV (M2 := m_X0_level) (cv := q_cI) dX10_trialComesTo_110 113 rfl (k_X0_level l G 6 x2 (by decide) u7) wd_157 wv_X0_level pk_X0_level rfl rfl ⟨by decide, by decide⟩ ⟨Nat.zero_le _, Nat.zero_le _⟩ at_2 (ok_2 (by decide)) rfl rfl rfl (Nat.le_of_ble_eq_true rfl) (fun x9 u8 => ?_)
        show qAW l G m_X10_trialComesTo (q_mq G q_cI) 113 [(0, .ref (q_ad G 0 0)), (2, .int x2), (3, .int x3), (4, .int x4), (5, .int x6), (6, .int x7)] [.int x9] u8 _
        refine aw_iload_n (i := 3) dX10_trialComesTo_113 114 rfl rfl 2 rfl ?_
        refine aw_icmp_lt dX10_trialComesTo_114 117 rfl 119 rfl (fun h7 => ?_) (fun h7 => ?_)
        · refine aw_iincx (i := 6) dX10_trialComesTo_119 122 rfl 5 rfl 1 rfl (fun x10 => [(6, .int x10), (0, .ref (q_ad G 0 0)), (2, .int x2), (3, .int x3), (4, .int x4), (5, .int x6)]) (by decide) (fun _ => rfl) (fun x10 => ?_)
          refine aw_goto dX10_trialComesTo_122 78 rfl ?_
          exact aw_conv [1, 2, 3, 4, 5, 0] rfl (ih x10 u8)
        · exact aw_conv [] rfl (he3 u8)
      · exact aw_conv [] rfl (he2 u7)
set_option maxRecDepth 100000 in
set_option maxHeartbeats 4000000 in
theorem TL_X10_trialComesTo_28 (l : Launch) (G : qG) (x2 : Int32) (x3 : Int32)  (e1 : qM → Option (Int32 × qM)) (e2 : qM → Option (Int32 × qM)) (e3 : qM → Option (Int32 × qM)) (he1 : ∀  (v : qM), qAW l G m_X10_trialComesTo (q_mq G q_cI) 131 [] [] v (e1 v)) (he2 : ∀  (v : qM), qAW l G m_X10_trialComesTo (q_mq G q_cI) 103 [] [] v (e2 v)) (he3 : ∀  (v : qM), qAW l G m_X10_trialComesTo (q_mq G q_cI) 117 [] [] v (e3 v)) : ∀ (n : Nat) (x4 : Int32) (u2 : qM), qAW l G m_X10_trialComesTo (q_mq G q_cI) 28 [(0, .ref (q_ad G 0 0)), (2, .int x2), (3, .int x3), (4, .int x4)] [] u2 (L_X10_trialComesTo_28 x2 x3 n x4 u2 e1 e2 e3) := by
  intro n
  induction n with
  | zero => intros; exact aw_none
  | succ n ih =>
    intro x4 u2
    unfold L_X10_trialComesTo_28
    refine aw_iload (i := 4) dX10_trialComesTo_28 30 rfl 3 rfl ?_
    refine aw_bipush (x := 40) dX10_trialComesTo_30 32 rfl rfl ?_
    refine aw_icmp_ge dX10_trialComesTo_32 35 rfl 131 rfl (fun h3 => ?_) (fun h3 => ?_)
    · exact aw_conv [] rfl (he1 u2)
    · refine aw_aload_n (i := 0) dX10_trialComesTo_35 36 rfl rfl 0 rfl ?_
      refine gf_X10_7 dX10_trialComesTo_36 39 rfl wd_141 (ok_0 (by decide)) ?_
      refine aw_callV (M2 := m_X6_next) (cv := q_cI) dX10_trialComesTo_39 42 rfl (k_X6_next l G   u2) wd_143 wv_X6_next pk_X6_next rfl rfl ⟨by decide, by decide⟩ ⟨Nat.zero_le _, Nat.zero_le _⟩ at_7 (ok_7 (by decide)) rfl rfl rfl (Nat.le_of_ble_eq_true rfl) (fun x5 u3 => ?_)
      show qAW l G m_X10_trialComesTo (q_mq G q_cI) 42 [(0, .ref (q_ad G 0 0)), (2, .int x2), (3, .int x3), (4, .int x4)] [.int x5] u3 _
      refine aw_if_eq dX10_trialComesTo_42 45 rfl 131 rfl (fun h4 => ?_) (fun h4 => ?_)
      · exact aw_conv [] rfl (he1 u3)
      · refine aw_aload_n (i := 0) dX10_trialComesTo_45 46 rfl rfl 0 rfl ?_
        refine gf_X10_5 dX10_trialComesTo_46 49 rfl wd_191 (ok_0 (by decide)) ?_
        refine aw_aload_n (i := 0) dX10_trialComesTo_49 50 rfl rfl 0 rfl ?_
        refine gf_X10_7 dX10_trialComesTo_50 53 rfl wd_141 (ok_0 (by decide)) ?_
        refine gfN_X6_3 dX10_trialComesTo_53 56 rfl "SeaCells" (ns_59) (ok_7 (by decide)) ?_
        refine aw_aload_n (i := 0) dX10_trialComesTo_56 57 rfl rfl 0 rfl ?_
        refine gf_X10_7 dX10_trialComesTo_57 60 rfl wd_141 (ok_0 (by decide)) ?_
        refine gfN_X6_4 dX10_trialComesTo_60 63 rfl "SeaCells" (ns_60) (ok_7 (by decide)) ?_
        refine aw_callV (M2 := m_X0_obey) (cv := q_cU) dX10_trialComesTo_63 66 rfl (k_X0_obey l G 6 (u3.1 7 0 3) (u3.1 7 0 4) (by decide) u3) wd_197 wv_X0_obey pk_X0_obey rfl rfl ⟨by decide, by decide⟩ ⟨Nat.zero_le _, Nat.zero_le _⟩ at_2 (ok_2 (by decide)) rfl rfl rfl (Nat.le_of_ble_eq_true rfl) (fun _z u4 => ?_)
        show qAW l G m_X10_trialComesTo (q_mq G q_cI) 66 [(0, .ref (q_ad G 0 0)), (2, .int x2), (3, .int x3), (4, .int x4)] [] u4 _
        refine aw_aload_n (i := 0) dX10_trialComesTo_66 67 rfl rfl 0 rfl ?_
        refine gf_X10_7 dX10_trialComesTo_67 70 rfl wd_141 (ok_0 (by decide)) ?_
        refine aw_callV (M2 := m_X6_stepsOfItem) (cv := q_cI) dX10_trialComesTo_70 73 rfl (k_X6_stepsOfItem l G   u4) wd_198 wv_X6_stepsOfItem pk_X6_stepsOfItem rfl rfl ⟨by decide, by decide⟩ ⟨Nat.zero_le _, Nat.zero_le _⟩ at_7 (ok_7 (by decide)) rfl rfl rfl (Nat.le_of_ble_eq_true rfl) (fun x6 u5 => ?_)
        show qAW l G m_X10_trialComesTo (q_mq G q_cI) 73 [(0, .ref (q_ad G 0 0)), (2, .int x2), (3, .int x3), (4, .int x4)] [.int x6] u5 _
        refine aw_istore dX10_trialComesTo_73 75 rfl [(5, .int x6), (0, .ref (q_ad G 0 0)), (2, .int x2), (3, .int x3), (4, .int x4)] (by decide) rfl ?_
        refine aw_iconst (x := 0) dX10_trialComesTo_75 76 rfl rfl ?_
        refine aw_istore dX10_trialComesTo_76 78 rfl [(6, .int 0), (5, .int x6), (0, .ref (q_ad G 0 0)), (2, .int x2), (3, .int x3), (4, .int x4)] (by decide) rfl ?_
        refine aw_conv [2, 3, 4, 5, 1, 0] rfl (TL_X10_trialComesTo_78 l G x2 x3 x4 x6  _ _ _ ?_ ?_ ?_ _ 0 u5)
        · intro u9
          refine aw_iincx (i := 4) dX10_trialComesTo_125 128 rfl 3 rfl 1 rfl (fun x11 => [(4, .int x11), (0, .ref (q_ad G 0 0)), (2, .int x2), (3, .int x3)]) (by decide) (fun _ => rfl) (fun x11 => ?_)
          refine aw_goto dX10_trialComesTo_128 28 rfl ?_
          exact aw_conv [1, 2, 3, 0] rfl (ih x11 u9)
        · intro u10
          exact he2 u10
        · intro u11
          exact he3 u11
set_option maxRecDepth 100000 in
set_option maxHeartbeats 4000000 in
theorem k_X10_trialComesTo (l : Launch) (G : qG) (x1 : Int32) (x2 : Int32) (x3 : Int32)  (u0 : qM) : qCt l G m_X10_trialComesTo q_cI [.ref (q_ad G 0 0), .int x1, .int x2, .int x3] u0 (f_X10_trialComesTo x1 x2 x3 u0) := by
  refine q_entry pk_X10_trialComesTo (Nat.le_of_ble_eq_true rfl) ?_
  show qAW l G m_X10_trialComesTo (q_mq G q_cI) 0 [(0, .ref (q_ad G 0 0)), (1, .int x1), (2, .int x2), (3, .int x3)] [] u0 (f_X10_trialComesTo x1 x2 x3 u0)
  unfold f_X10_trialComesTo
  refine aw_aload_n (i := 0) dX10_trialComesTo_0 1 rfl rfl 0 rfl ?_
  refine gf_X10_7 dX10_trialComesTo_1 4 rfl wd_141 (ok_0 (by decide)) ?_
  refine aw_aload_n (i := 0) dX10_trialComesTo_4 5 rfl rfl 0 rfl ?_
  refine gf_X10_2 dX10_trialComesTo_5 8 rfl wd_200 (ok_0 (by decide)) ?_
  refine gfN_X7_0 dX10_trialComesTo_8 11 rfl "SeaCells" (ns_0) (ok_1 (by decide)) ?_
  refine aw_iload_n (i := 1) dX10_trialComesTo_11 12 rfl rfl 1 rfl ?_
  refine aw_aald dX10_trialComesTo_12 13 rfl at_20 (by decide) (by decide) rfl rfl rfl (ok_20 (by decide)) rfl (fun h1 => ?_)
  refine aw_aload_n (i := 0) dX10_trialComesTo_13 14 rfl rfl 0 rfl ?_
  refine gf_X10_2 dX10_trialComesTo_14 17 rfl wd_200 (ok_0 (by decide)) ?_
  refine gfN_X7_1 dX10_trialComesTo_17 20 rfl "SeaCells" (ns_2) (ok_1 (by decide)) ?_
  refine aw_iload_n (i := 1) dX10_trialComesTo_20 21 rfl rfl 1 rfl ?_
  refine aw_iald dX10_trialComesTo_21 22 rfl at_33 rfl (ok_33 (by decide)) (fun h2 => ?_)
  refine aw_callV (M2 := m_X6_open) (cv := q_cU) dX10_trialComesTo_22 25 rfl (k_X6_open l G 32 (Int32.toNatClampNeg x1) (u0.1 33 2 (Int32.toNatClampNeg x1)) at_32 (ok_32 (q_in_lt h1)) u0) wd_142 wv_X6_open pk_X6_open rfl rfl ⟨by decide, by decide⟩ ⟨Nat.zero_le _, Nat.zero_le _⟩ at_7 (ok_7 (by decide)) rfl rfl rfl (Nat.le_of_ble_eq_true rfl) (fun _z u1 => ?_)
  show qAW l G m_X10_trialComesTo (q_mq G q_cI) 25 [(0, .ref (q_ad G 0 0)), (1, .int x1), (2, .int x2), (3, .int x3)] [] u1 _
  refine aw_iconst (x := 0) dX10_trialComesTo_25 26 rfl rfl ?_
  refine aw_istore dX10_trialComesTo_26 28 rfl [(4, .int 0), (0, .ref (q_ad G 0 0)), (1, .int x1), (2, .int x2), (3, .int x3)] (by decide) rfl ?_
  refine aw_conv [1, 3, 4, 0] rfl (TL_X10_trialComesTo_28 l G x2 x3  _ _ _ ?_ ?_ ?_ _ 0 u1)
  · intro u12
    refine aw_iconst (x := 0) dX10_trialComesTo_131 132 rfl rfl ?_
    exact aw_zret dX10_trialComesTo_132 rfl (by decide)
  · intro u13
    refine aw_iconst (x := 0) dX10_trialComesTo_103 104 rfl rfl ?_
    exact aw_zret dX10_trialComesTo_104 rfl (by decide)
  · intro u14
    refine aw_iconst (x := 1) dX10_trialComesTo_117 118 rfl rfl ?_
    exact aw_zret dX10_trialComesTo_118 rfl (by decide)
theorem dX10_alarmedWeight_0 : decode cX10_alarmedWeight 0 = .ok (.iconst 0, 1) := by decide +kernel
theorem dX10_alarmedWeight_1 : decode cX10_alarmedWeight 1 = .ok (.istore 5, 2) := by decide +kernel
theorem dX10_alarmedWeight_3 : decode cX10_alarmedWeight 3 = .ok (.iconst 0, 1) := by decide +kernel
theorem dX10_alarmedWeight_4 : decode cX10_alarmedWeight 4 = .ok (.istore 6, 2) := by decide +kernel
theorem dX10_alarmedWeight_6 : decode cX10_alarmedWeight 6 = .ok (.iload 6, 2) := by decide +kernel
theorem dX10_alarmedWeight_8 : decode cX10_alarmedWeight 8 = .ok (.aload_n 0, 1) := by decide +kernel
theorem dX10_alarmedWeight_9 : decode cX10_alarmedWeight 9 = .ok (.getfield 412, 3) := by decide +kernel
theorem dX10_alarmedWeight_12 : decode cX10_alarmedWeight 12 = .ok (.if_icmp .ge 67, 3) := by decide +kernel
theorem dX10_alarmedWeight_15 : decode cX10_alarmedWeight 15 = .ok (.aload_n 0, 1) := by decide +kernel
theorem dX10_alarmedWeight_16 : decode cX10_alarmedWeight 16 = .ok (.getfield 24, 3) := by decide +kernel
theorem dX10_alarmedWeight_19 : decode cX10_alarmedWeight 19 = .ok (.iload 6, 2) := by decide +kernel
theorem dX10_alarmedWeight_21 : decode cX10_alarmedWeight 21 = .ok (.iaload, 1) := by decide +kernel
theorem dX10_alarmedWeight_22 : decode cX10_alarmedWeight 22 = .ok (.ifCond .ne 6, 3) := by decide +kernel
theorem dX10_alarmedWeight_25 : decode cX10_alarmedWeight 25 = .ok (.goto 48, 3) := by decide +kernel
theorem dX10_alarmedWeight_28 : decode cX10_alarmedWeight 28 = .ok (.aload_n 0, 1) := by decide +kernel
theorem dX10_alarmedWeight_29 : decode cX10_alarmedWeight 29 = .ok (.getfield 35, 3) := by decide +kernel
theorem dX10_alarmedWeight_32 : decode cX10_alarmedWeight 32 = .ok (.aload_n 0, 1) := by decide +kernel
theorem dX10_alarmedWeight_33 : decode cX10_alarmedWeight 33 = .ok (.getfield 30, 3) := by decide +kernel
theorem dX10_alarmedWeight_36 : decode cX10_alarmedWeight 36 = .ok (.iload_n 1, 1) := by decide +kernel
theorem dX10_alarmedWeight_37 : decode cX10_alarmedWeight 37 = .ok (.aaload, 1) := by decide +kernel
theorem dX10_alarmedWeight_38 : decode cX10_alarmedWeight 38 = .ok (.invokevirtual 272, 3) := by decide +kernel
theorem dX10_alarmedWeight_41 : decode cX10_alarmedWeight 41 = .ok (.aload_n 0, 1) := by decide +kernel
theorem dX10_alarmedWeight_42 : decode cX10_alarmedWeight 42 = .ok (.getfield 35, 3) := by decide +kernel
theorem dX10_alarmedWeight_45 : decode cX10_alarmedWeight 45 = .ok (.iload 4, 2) := by decide +kernel
theorem dX10_alarmedWeight_47 : decode cX10_alarmedWeight 47 = .ok (.invokevirtual 448, 3) := by decide +kernel
theorem dX10_alarmedWeight_50 : decode cX10_alarmedWeight 50 = .ok (.aload_n 0, 1) := by decide +kernel
theorem dX10_alarmedWeight_51 : decode cX10_alarmedWeight 51 = .ok (.iload 6, 2) := by decide +kernel
theorem dX10_alarmedWeight_53 : decode cX10_alarmedWeight 53 = .ok (.iload_n 2, 1) := by decide +kernel
theorem dX10_alarmedWeight_54 : decode cX10_alarmedWeight 54 = .ok (.iload_n 3, 1) := by decide +kernel
theorem dX10_alarmedWeight_55 : decode cX10_alarmedWeight 55 = .ok (.invokevirtual 451, 3) := by decide +kernel
theorem dX10_alarmedWeight_58 : decode cX10_alarmedWeight 58 = .ok (.ifCond .eq 15, 3) := by decide +kernel
theorem dX10_alarmedWeight_61 : decode cX10_alarmedWeight 61 = .ok (.iload 5, 2) := by decide +kernel
theorem dX10_alarmedWeight_63 : decode cX10_alarmedWeight 63 = .ok (.aload_n 0, 1) := by decide +kernel
theorem dX10_alarmedWeight_64 : decode cX10_alarmedWeight 64 = .ok (.getfield 24, 3) := by decide +kernel
theorem dX10_alarmedWeight_67 : decode cX10_alarmedWeight 67 = .ok (.iload 6, 2) := by decide +kernel
theorem dX10_alarmedWeight_69 : decode cX10_alarmedWeight 69 = .ok (.iaload, 1) := by decide +kernel
theorem dX10_alarmedWeight_70 : decode cX10_alarmedWeight 70 = .ok (.iadd, 1) := by decide +kernel
theorem dX10_alarmedWeight_71 : decode cX10_alarmedWeight 71 = .ok (.istore 5, 2) := by decide +kernel
theorem dX10_alarmedWeight_73 : decode cX10_alarmedWeight 73 = .ok (.iinc 6 1, 3) := by decide +kernel
theorem dX10_alarmedWeight_76 : decode cX10_alarmedWeight 76 = .ok (.goto (-70), 3) := by decide +kernel
theorem dX10_alarmedWeight_79 : decode cX10_alarmedWeight 79 = .ok (.iload 5, 2) := by decide +kernel
theorem dX10_alarmedWeight_81 : decode cX10_alarmedWeight 81 = .ok (.ireturn, 1) := by decide +kernel
noncomputable def L_X10_alarmedWeight_6 (x1 : Int32) (x2 : Int32) (x3 : Int32) (x4 : Int32) : Nat → Int32 → Int32 → qM → (Int32 → qM → Option (Int32 × qM)) → Option (Int32 × qM)
  | 0, _, _, _, _ => none
  | n + 1, x5, x6, u1, e1 => if (u1.1 0 0 14) ≤ x6 then e1 x5 u1 else q_ck (q_in x6 8) (q_jn (fun (x7 : Int32) (u2 : qM) => q_lt (x6 + 1) (fun (x8 : Int32) => L_X10_alarmedWeight_6 x1 x2 x3 x4 n x7 x8 u2 e1)) (fun j1 => if (u1.1 34 0 (Int32.toNatClampNeg x6)) = 0 then j1 x5 u1 else q_ck (q_in x1 6) (q_bd (f_X0_takeOver 6 (Int32.toNatClampNeg x1) u1) (fun (_z : Unit) (u3 : qM) => q_bd (f_X0_shutPosts 6 x4 u3) (fun (_z : Unit) (u4 : qM) => q_bd (f_X10_trialComesTo x6 x2 x3 u4) (fun (x9 : Int32) (u5 : qM) => if x9 = 0 then j1 x5 u5 else q_ck (q_in x6 8) (q_lt (x5 + (u5.1 34 0 (Int32.toNatClampNeg x6))) (fun (x10 : Int32) => j1 x10 u5))))))))
noncomputable def f_X10_alarmedWeight (x1 : Int32) (x2 : Int32) (x3 : Int32) (x4 : Int32) (u0 : qM) : Option (Int32 × qM) :=
  L_X10_alarmedWeight_6 x1 x2 x3 x4 q_fu 0 0 u0 (fun x11 u6 => some (x11, u6))
set_option maxRecDepth 100000 in
set_option maxHeartbeats 4000000 in
theorem TL_X10_alarmedWeight_6 (l : Launch) (G : qG) (x1 : Int32) (x2 : Int32) (x3 : Int32) (x4 : Int32)  (e1 : Int32 → qM → Option (Int32 × qM)) (he1 : ∀ (y1 : Int32) (v : qM), qAW l G m_X10_alarmedWeight (q_mq G q_cI) 79 [(5, .int y1)] [] v (e1 y1 v)) : ∀ (n : Nat) (x5 : Int32) (x6 : Int32) (u1 : qM), qAW l G m_X10_alarmedWeight (q_mq G q_cI) 6 [(0, .ref (q_ad G 0 0)), (1, .int x1), (2, .int x2), (3, .int x3), (4, .int x4), (5, .int x5), (6, .int x6)] [] u1 (L_X10_alarmedWeight_6 x1 x2 x3 x4 n x5 x6 u1 e1) := by
  intro n
  induction n with
  | zero => intros; exact aw_none
  | succ n ih =>
    intro x5 x6 u1
    unfold L_X10_alarmedWeight_6
    refine aw_iload (i := 6) dX10_alarmedWeight_6 8 rfl 6 rfl ?_
    refine aw_aload_n (i := 0) dX10_alarmedWeight_8 9 rfl rfl 0 rfl ?_
    refine gf_X10_14 dX10_alarmedWeight_9 12 rfl wd_199 (ok_0 (by decide)) ?_
    refine aw_icmp_ge dX10_alarmedWeight_12 15 rfl 79 rfl (fun h1 => ?_) (fun h1 => ?_)
    · exact aw_conv [5] rfl (he1 x5 u1)
    · refine aw_aload_n (i := 0) dX10_alarmedWeight_15 16 rfl rfl 0 rfl ?_
      refine gf_X10_3 dX10_alarmedWeight_16 19 rfl wd_201 (ok_0 (by decide)) ?_
      refine aw_iload (i := 6) dX10_alarmedWeight_19 21 rfl 6 rfl ?_
      refine aw_iald dX10_alarmedWeight_21 22 rfl at_34 (al_34 _) (ok_34 (by decide)) (fun h2 => ?_)
      refine aw_jn (fun k => ∀ (x7 : Int32) (u2 : qM), qAW l G m_X10_alarmedWeight (q_mq G q_cI) 73 [(0, .ref (q_ad G 0 0)), (1, .int x1), (2, .int x2), (3, .int x3), (4, .int x4), (5, .int x7), (6, .int x6)] [] u2 (k x7 u2)) ?_ ?_
      · intro x7 u2
        refine aw_iincx (i := 6) dX10_alarmedWeight_73 76 rfl 6 rfl 1 rfl (fun x8 => [(6, .int x8), (0, .ref (q_ad G 0 0)), (1, .int x1), (2, .int x2), (3, .int x3), (4, .int x4), (5, .int x7)]) (by decide) (fun _ => rfl) (fun x8 => ?_)
        refine aw_goto dX10_alarmedWeight_76 6 rfl ?_
        exact aw_conv [1, 2, 3, 4, 5, 6, 0] rfl (ih x7 x8 u2)
      · intro j1 hj1
        refine aw_if_ne dX10_alarmedWeight_22 25 rfl 28 rfl (fun h3 => ?_) (fun h3 => ?_)
        · refine aw_aload_n (i := 0) dX10_alarmedWeight_28 29 rfl rfl 0 rfl ?_
          refine gf_X10_5 dX10_alarmedWeight_29 32 rfl wd_191 (ok_0 (by decide)) ?_
          refine aw_aload_n (i := 0) dX10_alarmedWeight_32 33 rfl rfl 0 rfl ?_
          refine gf_X10_4 dX10_alarmedWeight_33 36 rfl wd_145 (ok_0 (by decide)) ?_
          refine aw_iload_n (i := 1) dX10_alarmedWeight_36 37 rfl rfl 1 rfl ?_
          refine aw_aald dX10_alarmedWeight_37 38 rfl at_21 (by decide) (by decide) rfl rfl (al_21 _) (ok_21 (by decide)) rfl (fun h4 => ?_)
          refine aw_callV (M2 := m_X0_takeOver) (cv := q_cU) dX10_alarmedWeight_38 41 rfl (k_X0_takeOver l G 6 (Int32.toNatClampNeg x1) (by decide) (Nat.lt_of_lt_of_le (q_in_lt h4) (by decide)) u1) wd_173 wv_X0_takeOver pk_X0_takeOver rfl rfl ⟨by decide, by decide⟩ ⟨Nat.zero_le _, Nat.zero_le _⟩ at_2 (ok_2 (by decide)) rfl rfl rfl (Nat.le_of_ble_eq_true rfl) (fun _z u3 => ?_)
          show qAW l G m_X10_alarmedWeight (q_mq G q_cI) 41 [(0, .ref (q_ad G 0 0)), (1, .int x1), (2, .int x2), (3, .int x3), (4, .int x4), (5, .int x5), (6, .int x6)] [] u3 _
          refine aw_aload_n (i := 0) dX10_alarmedWeight_41 42 rfl rfl 0 rfl ?_
          refine gf_X10_5 dX10_alarmedWeight_42 45 rfl wd_191 (ok_0 (by decide)) ?_
          refine aw_iload (i := 4) dX10_alarmedWeight_45 47 rfl 4 rfl ?_
          refine aw_callV (M2 := m_X0_shutPosts) (cv := q_cU) dX10_alarmedWeight_47 50 rfl (k_X0_shutPosts l G 6 x4 (by decide) u3) wd_204 wv_X0_shutPosts pk_X0_shutPosts rfl rfl ⟨by decide, by decide⟩ ⟨Nat.zero_le _, Nat.zero_le _⟩ at_2 (ok_2 (by decide)) rfl rfl rfl (Nat.le_of_ble_eq_true rfl) (fun _z u4 => ?_)
          show qAW l G m_X10_alarmedWeight (q_mq G q_cI) 50 [(0, .ref (q_ad G 0 0)), (1, .int x1), (2, .int x2), (3, .int x3), (4, .int x4), (5, .int x5), (6, .int x6)] [] u4 _
          refine aw_aload_n (i := 0) dX10_alarmedWeight_50 51 rfl rfl 0 rfl ?_
          refine aw_iload (i := 6) dX10_alarmedWeight_51 53 rfl 6 rfl ?_
          refine aw_iload_n (i := 2) dX10_alarmedWeight_53 54 rfl rfl 2 rfl ?_
          refine aw_iload_n (i := 3) dX10_alarmedWeight_54 55 rfl rfl 3 rfl ?_
          refine aw_callV (M2 := m_X10_trialComesTo) (cv := q_cI) dX10_alarmedWeight_55 58 rfl (k_X10_trialComesTo l G x6 x2 x3  u4) wd_205 wv_X10_trialComesTo pk_X10_trialComesTo rfl rfl ⟨by decide, by decide⟩ ⟨Nat.zero_le _, Nat.zero_le _⟩ at_0 (ok_0 (by decide)) rfl rfl rfl (Nat.le_of_ble_eq_true rfl) (fun x9 u5 => ?_)
          show qAW l G m_X10_alarmedWeight (q_mq G q_cI) 58 [(0, .ref (q_ad G 0 0)), (1, .int x1), (2, .int x2), (3, .int x3), (4, .int x4), (5, .int x5), (6, .int x6)] [.int x9] u5 _
          refine aw_if_eq dX10_alarmedWeight_58 61 rfl 73 rfl (fun h5 => ?_) (fun h5 => ?_)
          · exact hj1 x5 u5
          · refine aw_iload (i := 5) dX10_alarmedWeight_61 63 rfl 5 rfl ?_
            refine aw_aload_n (i := 0) dX10_alarmedWeight_63 64 rfl rfl 0 rfl ?_
            refine gf_X10_3 dX10_alarmedWeight_64 67 rfl wd_201 (ok_0 (by decide)) ?_
            refine aw_iload (i := 6) dX10_alarmedWeight_67 69 rfl 6 rfl ?_
            refine aw_iald dX10_alarmedWeight_69 70 rfl at_34 (al_34 _) (ok_34 (by decide)) (fun h6 => ?_)
            refine aw_iadd dX10_alarmedWeight_70 71 rfl ?_
            refine aw_lti (fun x10 => ?_)
            refine aw_istore dX10_alarmedWeight_71 73 rfl [(5, .int x10), (0, .ref (q_ad G 0 0)), (1, .int x1), (2, .int x2), (3, .int x3), (4, .int x4), (6, .int x6)] (by decide) rfl ?_
            exact aw_conv [1, 2, 3, 4, 5, 0, 6] rfl (hj1 x10 u5)
        · refine aw_goto dX10_alarmedWeight_25 73 rfl ?_
          exact hj1 x5 u1
set_option maxRecDepth 100000 in
set_option maxHeartbeats 4000000 in
theorem k_X10_alarmedWeight (l : Launch) (G : qG) (x1 : Int32) (x2 : Int32) (x3 : Int32) (x4 : Int32)  (u0 : qM) : qCt l G m_X10_alarmedWeight q_cI [.ref (q_ad G 0 0), .int x1, .int x2, .int x3, .int x4] u0 (f_X10_alarmedWeight x1 x2 x3 x4 u0) := by
  refine q_entry pk_X10_alarmedWeight (Nat.le_of_ble_eq_true rfl) ?_
  show qAW l G m_X10_alarmedWeight (q_mq G q_cI) 0 [(0, .ref (q_ad G 0 0)), (1, .int x1), (2, .int x2), (3, .int x3), (4, .int x4)] [] u0 (f_X10_alarmedWeight x1 x2 x3 x4 u0)
  unfold f_X10_alarmedWeight
  refine aw_iconst (x := 0) dX10_alarmedWeight_0 1 rfl rfl ?_
  refine aw_istore dX10_alarmedWeight_1 3 rfl [(5, .int 0), (0, .ref (q_ad G 0 0)), (1, .int x1), (2, .int x2), (3, .int x3), (4, .int x4)] (by decide) rfl ?_
  refine aw_iconst (x := 0) dX10_alarmedWeight_3 4 rfl rfl ?_
  refine aw_istore dX10_alarmedWeight_4 6 rfl [(6, .int 0), (5, .int 0), (0, .ref (q_ad G 0 0)), (1, .int x1), (2, .int x2), (3, .int x3), (4, .int x4)] (by decide) rfl ?_
  refine aw_conv [2, 3, 4, 5, 6, 1, 0] rfl (TL_X10_alarmedWeight_6 l G x1 x2 x3 x4  _ ?_ _ 0 0 u0)
  · intro x11 u6
    refine aw_iload (i := 5) dX10_alarmedWeight_79 81 rfl 0 rfl ?_
    exact aw_iret dX10_alarmedWeight_81 rfl
theorem dX10_tellFraction_0 : decode cX10_tellFraction 0 = .ok (.iload_n 2, 1) := by decide +kernel
theorem dX10_tellFraction_1 : decode cX10_tellFraction 1 = .ok (.istore_n 3, 1) := by decide +kernel
theorem dX10_tellFraction_2 : decode cX10_tellFraction 2 = .ok (.iload_n 1, 1) := by decide +kernel
theorem dX10_tellFraction_3 : decode cX10_tellFraction 3 = .ok (.istore 4, 2) := by decide +kernel
theorem dX10_tellFraction_5 : decode cX10_tellFraction 5 = .ok (.iconst 0, 1) := by decide +kernel
theorem dX10_tellFraction_6 : decode cX10_tellFraction 6 = .ok (.istore 5, 2) := by decide +kernel
theorem dX10_tellFraction_8 : decode cX10_tellFraction 8 = .ok (.iload 5, 2) := by decide +kernel
theorem dX10_tellFraction_10 : decode cX10_tellFraction 10 = .ok (.bipush 100, 2) := by decide +kernel
theorem dX10_tellFraction_12 : decode cX10_tellFraction 12 = .ok (.if_icmp .ge 27, 3) := by decide +kernel
theorem dX10_tellFraction_15 : decode cX10_tellFraction 15 = .ok (.iload 4, 2) := by decide +kernel
theorem dX10_tellFraction_17 : decode cX10_tellFraction 17 = .ok (.ifCond .eq 22, 3) := by decide +kernel
theorem dX10_tellFraction_20 : decode cX10_tellFraction 20 = .ok (.iload_n 3, 1) := by decide +kernel
theorem dX10_tellFraction_21 : decode cX10_tellFraction 21 = .ok (.iload 4, 2) := by decide +kernel
theorem dX10_tellFraction_23 : decode cX10_tellFraction 23 = .ok (.irem, 1) := by decide +kernel
theorem dX10_tellFraction_24 : decode cX10_tellFraction 24 = .ok (.istore 6, 2) := by decide +kernel
theorem dX10_tellFraction_26 : decode cX10_tellFraction 26 = .ok (.iload 4, 2) := by decide +kernel
theorem dX10_tellFraction_28 : decode cX10_tellFraction 28 = .ok (.istore_n 3, 1) := by decide +kernel
theorem dX10_tellFraction_29 : decode cX10_tellFraction 29 = .ok (.iload 6, 2) := by decide +kernel
theorem dX10_tellFraction_31 : decode cX10_tellFraction 31 = .ok (.istore 4, 2) := by decide +kernel
theorem dX10_tellFraction_33 : decode cX10_tellFraction 33 = .ok (.iinc 5 1, 3) := by decide +kernel
theorem dX10_tellFraction_36 : decode cX10_tellFraction 36 = .ok (.goto (-28), 3) := by decide +kernel
theorem dX10_tellFraction_39 : decode cX10_tellFraction 39 = .ok (.iload_n 3, 1) := by decide +kernel
theorem dX10_tellFraction_40 : decode cX10_tellFraction 40 = .ok (.ifCond .gt 4, 3) := by decide +kernel
theorem dX10_tellFraction_43 : decode cX10_tellFraction 43 = .ok (.return_, 1) := by decide +kernel
theorem dX10_tellFraction_44 : decode cX10_tellFraction 44 = .ok (.aload_n 0, 1) := by decide +kernel
theorem dX10_tellFraction_45 : decode cX10_tellFraction 45 = .ok (.iload_n 1, 1) := by decide +kernel
theorem dX10_tellFraction_46 : decode cX10_tellFraction 46 = .ok (.iload_n 3, 1) := by decide +kernel
theorem dX10_tellFraction_47 : decode cX10_tellFraction 47 = .ok (.idiv, 1) := by decide +kernel
theorem dX10_tellFraction_48 : decode cX10_tellFraction 48 = .ok (.i2l, 1) := by decide +kernel
theorem dX10_tellFraction_49 : decode cX10_tellFraction 49 = .ok (.putfield 454, 3) := by decide +kernel
theorem dX10_tellFraction_52 : decode cX10_tellFraction 52 = .ok (.aload_n 0, 1) := by decide +kernel
theorem dX10_tellFraction_53 : decode cX10_tellFraction 53 = .ok (.iload_n 2, 1) := by decide +kernel
theorem dX10_tellFraction_54 : decode cX10_tellFraction 54 = .ok (.iload_n 3, 1) := by decide +kernel
theorem dX10_tellFraction_55 : decode cX10_tellFraction 55 = .ok (.idiv, 1) := by decide +kernel
theorem dX10_tellFraction_56 : decode cX10_tellFraction 56 = .ok (.i2l, 1) := by decide +kernel
theorem dX10_tellFraction_57 : decode cX10_tellFraction 57 = .ok (.putfield 81, 3) := by decide +kernel
theorem dX10_tellFraction_60 : decode cX10_tellFraction 60 = .ok (.return_, 1) := by decide +kernel
noncomputable def L_X10_tellFraction_8 (x1 : Int32) (x2 : Int32) : Nat → Int32 → Int32 → Int32 → qM → (Int32 → qM → Option (Unit × qM)) → Option (Unit × qM)
  | 0, _, _, _, _, _ => none
  | n + 1, x3, x4, x5, u1, e1 => if 100 ≤ x5 then e1 x3 u1 else if x4 = 0 then e1 x3 u1 else q_ck (q_nz x4) (q_lt (x3 - x3 / x4 * x4) (fun (x6 : Int32) => q_lt (x5 + 1) (fun (x7 : Int32) => L_X10_tellFraction_8 x1 x2 n x4 x6 x7 u1 e1)))
noncomputable def f_X10_tellFraction (x1 : Int32) (x2 : Int32) (u0 : qM) : Option (Unit × qM) :=
  L_X10_tellFraction_8 x1 x2 q_fu x2 x1 0 u0 (fun x8 u2 => if (0 : Int32) < x8 then q_ck (q_nz x8) (q_lt (q_sl u2 0 0 17 (Int32.toInt64 (x1 / x8))) (fun (u3 : qM) => q_ck (q_nz x8) (q_lt (q_sl u3 0 0 18 (Int32.toInt64 (x2 / x8))) (fun (u4 : qM) => some ((), u4))))) else some ((), u2))
set_option maxRecDepth 100000 in
set_option maxHeartbeats 4000000 in
theorem TL_X10_tellFraction_8 (l : Launch) (G : qG) (x1 : Int32) (x2 : Int32)  (e1 : Int32 → qM → Option (Unit × qM)) (he1 : ∀ (y1 : Int32) (v : qM), qAW l G m_X10_tellFraction (q_mq G q_cU) 39 [(0, .ref (q_ad G 0 0)), (1, .int x1), (2, .int x2), (3, .int y1)] [] v (e1 y1 v)) : ∀ (n : Nat) (x3 : Int32) (x4 : Int32) (x5 : Int32) (u1 : qM), qAW l G m_X10_tellFraction (q_mq G q_cU) 8 [(0, .ref (q_ad G 0 0)), (1, .int x1), (2, .int x2), (3, .int x3), (4, .int x4), (5, .int x5)] [] u1 (L_X10_tellFraction_8 x1 x2 n x3 x4 x5 u1 e1) := by
  intro n
  induction n with
  | zero => intros; exact aw_none
  | succ n ih =>
    intro x3 x4 x5 u1
    unfold L_X10_tellFraction_8
    refine aw_iload (i := 5) dX10_tellFraction_8 10 rfl 5 rfl ?_
    refine aw_bipush (x := 100) dX10_tellFraction_10 12 rfl rfl ?_
    refine aw_icmp_ge dX10_tellFraction_12 15 rfl 39 rfl (fun h1 => ?_) (fun h1 => ?_)
    · exact aw_conv [0, 1, 2, 3] rfl (he1 x3 u1)
    · refine aw_iload (i := 4) dX10_tellFraction_15 17 rfl 4 rfl ?_
      refine aw_if_eq dX10_tellFraction_17 20 rfl 39 rfl (fun h2 => ?_) (fun h2 => ?_)
      · exact aw_conv [0, 1, 2, 3] rfl (he1 x3 u1)
      · refine aw_iload_n (i := 3) dX10_tellFraction_20 21 rfl rfl 3 rfl ?_
        refine aw_iload (i := 4) dX10_tellFraction_21 23 rfl 4 rfl ?_
        refine aw_ck (fun h3 => ?_)
        refine aw_irem dX10_tellFraction_23 24 rfl (of_decide_eq_true h3) ?_
        refine aw_lti (fun x6 => ?_)
        refine aw_istore dX10_tellFraction_24 26 rfl [(6, .int x6), (0, .ref (q_ad G 0 0)), (1, .int x1), (2, .int x2), (3, .int x3), (4, .int x4), (5, .int x5)] (by decide) rfl ?_
        refine aw_iload (i := 4) dX10_tellFraction_26 28 rfl 5 rfl ?_
        refine aw_istore_n dX10_tellFraction_28 29 rfl rfl [(3, .int x4), (6, .int x6), (0, .ref (q_ad G 0 0)), (1, .int x1), (2, .int x2), (4, .int x4), (5, .int x5)] (by decide) rfl ?_
        refine aw_iload (i := 6) dX10_tellFraction_29 31 rfl 1 rfl ?_
        refine aw_istore dX10_tellFraction_31 33 rfl [(4, .int x6), (3, .int x4), (6, .int x6), (0, .ref (q_ad G 0 0)), (1, .int x1), (2, .int x2), (5, .int x5)] (by decide) rfl ?_
        refine aw_iincx (i := 5) dX10_tellFraction_33 36 rfl 6 rfl 1 rfl (fun x7 => [(5, .int x7), (4, .int x6), (3, .int x4), (6, .int x6), (0, .ref (q_ad G 0 0)), (1, .int x1), (2, .int x2)]) (by decide) (fun _ => rfl) (fun x7 => ?_)
        refine aw_goto dX10_tellFraction_36 8 rfl ?_
        exact aw_conv [4, 5, 6, 2, 1, 0] rfl (ih x4 x6 x7 u1)
set_option maxRecDepth 100000 in
set_option maxHeartbeats 4000000 in
theorem k_X10_tellFraction (l : Launch) (G : qG) (x1 : Int32) (x2 : Int32)  (u0 : qM) : qCt l G m_X10_tellFraction q_cU [.ref (q_ad G 0 0), .int x1, .int x2] u0 (f_X10_tellFraction x1 x2 u0) := by
  refine q_entry pk_X10_tellFraction (Nat.le_of_ble_eq_true rfl) ?_
  show qAW l G m_X10_tellFraction (q_mq G q_cU) 0 [(0, .ref (q_ad G 0 0)), (1, .int x1), (2, .int x2)] [] u0 (f_X10_tellFraction x1 x2 u0)
  unfold f_X10_tellFraction
  refine aw_iload_n (i := 2) dX10_tellFraction_0 1 rfl rfl 2 rfl ?_
  refine aw_istore_n dX10_tellFraction_1 2 rfl rfl [(3, .int x2), (0, .ref (q_ad G 0 0)), (1, .int x1), (2, .int x2)] (by decide) rfl ?_
  refine aw_iload_n (i := 1) dX10_tellFraction_2 3 rfl rfl 2 rfl ?_
  refine aw_istore dX10_tellFraction_3 5 rfl [(4, .int x1), (3, .int x2), (0, .ref (q_ad G 0 0)), (1, .int x1), (2, .int x2)] (by decide) rfl ?_
  refine aw_iconst (x := 0) dX10_tellFraction_5 6 rfl rfl ?_
  refine aw_istore dX10_tellFraction_6 8 rfl [(5, .int 0), (4, .int x1), (3, .int x2), (0, .ref (q_ad G 0 0)), (1, .int x1), (2, .int x2)] (by decide) rfl ?_
  refine aw_conv [3, 4, 5, 2, 1, 0] rfl (TL_X10_tellFraction_8 l G x1 x2  _ ?_ _ x2 x1 0 u0)
  · intro x8 u2
    refine aw_iload_n (i := 3) dX10_tellFraction_39 40 rfl rfl 3 rfl ?_
    refine aw_if_gt dX10_tellFraction_40 43 rfl 44 rfl (fun h4 => ?_) (fun h4 => ?_)
    · refine aw_aload_n (i := 0) dX10_tellFraction_44 45 rfl rfl 0 rfl ?_
      refine aw_iload_n (i := 1) dX10_tellFraction_45 46 rfl rfl 1 rfl ?_
      refine aw_iload_n (i := 3) dX10_tellFraction_46 47 rfl rfl 3 rfl ?_
      refine aw_ck (fun h5 => ?_)
      refine aw_idiv dX10_tellFraction_47 48 rfl (of_decide_eq_true h5) ?_
      refine aw_i2l dX10_tellFraction_48 49 rfl ?_
      refine pf_X10_17 dX10_tellFraction_49 52 rfl wd_206 (ok_0 (by decide)) ?_
      refine aw_ltm (fun u3 => ?_)
      refine aw_aload_n (i := 0) dX10_tellFraction_52 53 rfl rfl 0 rfl ?_
      refine aw_iload_n (i := 2) dX10_tellFraction_53 54 rfl rfl 2 rfl ?_
      refine aw_iload_n (i := 3) dX10_tellFraction_54 55 rfl rfl 3 rfl ?_
      refine aw_ck (fun h6 => ?_)
      refine aw_idiv dX10_tellFraction_55 56 rfl (of_decide_eq_true h6) ?_
      refine aw_i2l dX10_tellFraction_56 57 rfl ?_
      refine pf_X10_18 dX10_tellFraction_57 60 rfl wd_207 (ok_0 (by decide)) ?_
      refine aw_ltm (fun u4 => ?_)
      exact aw_vret dX10_tellFraction_60 rfl
    · exact aw_vret dX10_tellFraction_43 rfl
theorem dX10_alarm_0 : decode cX10_alarm 0 = .ok (.aload_n 0, 1) := by decide +kernel
theorem dX10_alarm_1 : decode cX10_alarm 1 = .ok (.iload_n 1, 1) := by decide +kernel
theorem dX10_alarm_2 : decode cX10_alarm 2 = .ok (.iload_n 2, 1) := by decide +kernel
theorem dX10_alarm_3 : decode cX10_alarm 3 = .ok (.iload_n 3, 1) := by decide +kernel
theorem dX10_alarm_4 : decode cX10_alarm 4 = .ok (.invokevirtual 415, 3) := by decide +kernel
theorem dX10_alarm_7 : decode cX10_alarm 7 = .ok (.istore 4, 2) := by decide +kernel
theorem dX10_alarm_9 : decode cX10_alarm 9 = .ok (.iload 4, 2) := by decide +kernel
theorem dX10_alarm_11 : decode cX10_alarm 11 = .ok (.ifCond .eq 6, 3) := by decide +kernel
theorem dX10_alarm_14 : decode cX10_alarm 14 = .ok (.iload 4, 2) := by decide +kernel
theorem dX10_alarm_16 : decode cX10_alarm 16 = .ok (.ireturn, 1) := by decide +kernel
theorem dX10_alarm_17 : decode cX10_alarm 17 = .ok (.aload_n 0, 1) := by decide +kernel
theorem dX10_alarm_18 : decode cX10_alarm 18 = .ok (.aload_n 0, 1) := by decide +kernel
theorem dX10_alarm_19 : decode cX10_alarm 19 = .ok (.iload_n 1, 1) := by decide +kernel
theorem dX10_alarm_20 : decode cX10_alarm 20 = .ok (.iload_n 2, 1) := by decide +kernel
theorem dX10_alarm_21 : decode cX10_alarm 21 = .ok (.iload_n 3, 1) := by decide +kernel
theorem dX10_alarm_22 : decode cX10_alarm 22 = .ok (.iconst 0, 1) := by decide +kernel
theorem dX10_alarm_23 : decode cX10_alarm 23 = .ok (.invokevirtual 418, 3) := by decide +kernel
theorem dX10_alarm_26 : decode cX10_alarm 26 = .ok (.aload_n 0, 1) := by decide +kernel
theorem dX10_alarm_27 : decode cX10_alarm 27 = .ok (.invokevirtual 422, 3) := by decide +kernel
theorem dX10_alarm_30 : decode cX10_alarm 30 = .ok (.invokevirtual 425, 3) := by decide +kernel
theorem dX10_alarm_33 : decode cX10_alarm 33 = .ok (.iconst 1, 1) := by decide +kernel
theorem dX10_alarm_34 : decode cX10_alarm 34 = .ok (.ireturn, 1) := by decide +kernel
noncomputable def f_X10_alarm (x1 : Int32) (x2 : Int32) (x3 : Int32) (u0 : qM) : Option (Int32 × qM) :=
  q_bd (f_X10_alarmRefused x1 x2 x3 u0) (fun (x4 : Int32) (u1 : qM) => if x4 = 0 then q_bd (f_X10_alarmedWeight x1 x2 x3 0 u1) (fun (x5 : Int32) (u2 : qM) => q_bd (f_X10_allWeights  u2) (fun (x6 : Int32) (u3 : qM) => q_bd (f_X10_tellFraction x5 x6 u3) (fun (_z : Unit) (u4 : qM) => some (1, u4)))) else some (x4, u1))
set_option maxRecDepth 100000 in
set_option maxHeartbeats 4000000 in
theorem k_X10_alarm (l : Launch) (G : qG) (x1 : Int32) (x2 : Int32) (x3 : Int32)  (u0 : qM) : qCt l G m_X10_alarm q_cI [.ref (q_ad G 0 0), .int x1, .int x2, .int x3] u0 (f_X10_alarm x1 x2 x3 u0) := by
  refine q_entry pk_X10_alarm (Nat.le_of_ble_eq_true rfl) ?_
  show qAW l G m_X10_alarm (q_mq G q_cI) 0 [(0, .ref (q_ad G 0 0)), (1, .int x1), (2, .int x2), (3, .int x3)] [] u0 (f_X10_alarm x1 x2 x3 u0)
  unfold f_X10_alarm
  refine aw_aload_n (i := 0) dX10_alarm_0 1 rfl rfl 0 rfl ?_
  refine aw_iload_n (i := 1) dX10_alarm_1 2 rfl rfl 1 rfl ?_
  refine aw_iload_n (i := 2) dX10_alarm_2 3 rfl rfl 2 rfl ?_
  refine aw_iload_n (i := 3) dX10_alarm_3 4 rfl rfl 3 rfl ?_
  refine aw_callV (M2 := m_X10_alarmRefused) (cv := q_cI) dX10_alarm_4 7 rfl (k_X10_alarmRefused l G x1 x2 x3  u0) wd_208 wv_X10_alarmRefused pk_X10_alarmRefused rfl rfl ⟨by decide, by decide⟩ ⟨Nat.zero_le _, Nat.zero_le _⟩ at_0 (ok_0 (by decide)) rfl rfl rfl (Nat.le_of_ble_eq_true rfl) (fun x4 u1 => ?_)
  show qAW l G m_X10_alarm (q_mq G q_cI) 7 [(0, .ref (q_ad G 0 0)), (1, .int x1), (2, .int x2), (3, .int x3)] [.int x4] u1 _
  refine aw_istore dX10_alarm_7 9 rfl [(4, .int x4), (0, .ref (q_ad G 0 0)), (1, .int x1), (2, .int x2), (3, .int x3)] (by decide) rfl ?_
  refine aw_iload (i := 4) dX10_alarm_9 11 rfl 0 rfl ?_
  refine aw_if_eq dX10_alarm_11 14 rfl 17 rfl (fun h1 => ?_) (fun h1 => ?_)
  · refine aw_aload_n (i := 0) dX10_alarm_17 18 rfl rfl 1 rfl ?_
    refine aw_aload_n (i := 0) dX10_alarm_18 19 rfl rfl 1 rfl ?_
    refine aw_iload_n (i := 1) dX10_alarm_19 20 rfl rfl 2 rfl ?_
    refine aw_iload_n (i := 2) dX10_alarm_20 21 rfl rfl 3 rfl ?_
    refine aw_iload_n (i := 3) dX10_alarm_21 22 rfl rfl 4 rfl ?_
    refine aw_iconst (x := 0) dX10_alarm_22 23 rfl rfl ?_
    refine aw_callV (M2 := m_X10_alarmedWeight) (cv := q_cI) dX10_alarm_23 26 rfl (k_X10_alarmedWeight l G x1 x2 x3 0  u1) wd_209 wv_X10_alarmedWeight pk_X10_alarmedWeight rfl rfl ⟨by decide, by decide⟩ ⟨Nat.zero_le _, Nat.zero_le _⟩ at_0 (ok_0 (by decide)) rfl rfl rfl (Nat.le_of_ble_eq_true rfl) (fun x5 u2 => ?_)
    show qAW l G m_X10_alarm (q_mq G q_cI) 26 [(4, .int x4), (0, .ref (q_ad G 0 0)), (1, .int x1), (2, .int x2), (3, .int x3)] [.int x5, .ref (q_ad G 0 0)] u2 _
    refine aw_aload_n (i := 0) dX10_alarm_26 27 rfl rfl 1 rfl ?_
    refine aw_callV (M2 := m_X10_allWeights) (cv := q_cI) dX10_alarm_27 30 rfl (k_X10_allWeights l G   u2) wd_203 wv_X10_allWeights pk_X10_allWeights rfl rfl ⟨by decide, by decide⟩ ⟨Nat.zero_le _, Nat.zero_le _⟩ at_0 (ok_0 (by decide)) rfl rfl rfl (Nat.le_of_ble_eq_true rfl) (fun x6 u3 => ?_)
    show qAW l G m_X10_alarm (q_mq G q_cI) 30 [(4, .int x4), (0, .ref (q_ad G 0 0)), (1, .int x1), (2, .int x2), (3, .int x3)] [.int x6, .int x5, .ref (q_ad G 0 0)] u3 _
    refine aw_callV (M2 := m_X10_tellFraction) (cv := q_cU) dX10_alarm_30 33 rfl (k_X10_tellFraction l G x5 x6  u3) wd_210 wv_X10_tellFraction pk_X10_tellFraction rfl rfl ⟨by decide, by decide⟩ ⟨Nat.zero_le _, Nat.zero_le _⟩ at_0 (ok_0 (by decide)) rfl rfl rfl (Nat.le_of_ble_eq_true rfl) (fun _z u4 => ?_)
    show qAW l G m_X10_alarm (q_mq G q_cI) 33 [(4, .int x4), (0, .ref (q_ad G 0 0)), (1, .int x1), (2, .int x2), (3, .int x3)] [] u4 _
    refine aw_iconst (x := 1) dX10_alarm_33 34 rfl rfl ?_
    exact aw_iret dX10_alarm_34 rfl
  · refine aw_iload (i := 4) dX10_alarm_14 16 rfl 0 rfl ?_
    exact aw_iret dX10_alarm_16 rfl
theorem dX10_post_0 : decode cX10_post 0 = .ok (.aload_n 0, 1) := by decide +kernel
theorem dX10_post_1 : decode cX10_post 1 = .ok (.iload_n 1, 1) := by decide +kernel
theorem dX10_post_2 : decode cX10_post 2 = .ok (.iload_n 2, 1) := by decide +kernel
theorem dX10_post_3 : decode cX10_post 3 = .ok (.invokevirtual 190, 3) := by decide +kernel
theorem dX10_post_6 : decode cX10_post 6 = .ok (.istore_n 3, 1) := by decide +kernel
theorem dX10_post_7 : decode cX10_post 7 = .ok (.iload_n 3, 1) := by decide +kernel
theorem dX10_post_8 : decode cX10_post 8 = .ok (.ifCond .eq 5, 3) := by decide +kernel
theorem dX10_post_11 : decode cX10_post 11 = .ok (.iload_n 3, 1) := by decide +kernel
theorem dX10_post_12 : decode cX10_post 12 = .ok (.ireturn, 1) := by decide +kernel
theorem dX10_post_13 : decode cX10_post 13 = .ok (.aload_n 0, 1) := by decide +kernel
theorem dX10_post_14 : decode cX10_post 14 = .ok (.getfield 30, 3) := by decide +kernel
theorem dX10_post_17 : decode cX10_post 17 = .ok (.iload_n 1, 1) := by decide +kernel
theorem dX10_post_18 : decode cX10_post 18 = .ok (.aaload, 1) := by decide +kernel
theorem dX10_post_19 : decode cX10_post 19 = .ok (.astore 4, 2) := by decide +kernel
theorem dX10_post_21 : decode cX10_post 21 = .ok (.aload 4, 2) := by decide +kernel
theorem dX10_post_23 : decode cX10_post 23 = .ok (.getfield 428, 3) := by decide +kernel
theorem dX10_post_26 : decode cX10_post 26 = .ok (.iconst 4, 1) := by decide +kernel
theorem dX10_post_27 : decode cX10_post 27 = .ok (.if_icmp .lt 6, 3) := by decide +kernel
theorem dX10_post_30 : decode cX10_post 30 = .ok (.bipush (-2), 2) := by decide +kernel
theorem dX10_post_32 : decode cX10_post 32 = .ok (.ireturn, 1) := by decide +kernel
theorem dX10_post_33 : decode cX10_post 33 = .ok (.aload 4, 2) := by decide +kernel
theorem dX10_post_35 : decode cX10_post 35 = .ok (.getfield 431, 3) := by decide +kernel
theorem dX10_post_38 : decode cX10_post 38 = .ok (.aload 4, 2) := by decide +kernel
theorem dX10_post_40 : decode cX10_post 40 = .ok (.getfield 428, 3) := by decide +kernel
theorem dX10_post_43 : decode cX10_post 43 = .ok (.iload_n 2, 1) := by decide +kernel
theorem dX10_post_44 : decode cX10_post 44 = .ok (.iastore, 1) := by decide +kernel
theorem dX10_post_45 : decode cX10_post 45 = .ok (.aload 4, 2) := by decide +kernel
theorem dX10_post_47 : decode cX10_post 47 = .ok (.dup, 1) := by decide +kernel
theorem dX10_post_48 : decode cX10_post 48 = .ok (.getfield 428, 3) := by decide +kernel
theorem dX10_post_51 : decode cX10_post 51 = .ok (.iconst 1, 1) := by decide +kernel
theorem dX10_post_52 : decode cX10_post 52 = .ok (.iadd, 1) := by decide +kernel
theorem dX10_post_53 : decode cX10_post 53 = .ok (.putfield 428, 3) := by decide +kernel
theorem dX10_post_56 : decode cX10_post 56 = .ok (.aload 4, 2) := by decide +kernel
theorem dX10_post_58 : decode cX10_post 58 = .ok (.getfield 428, 3) := by decide +kernel
theorem dX10_post_61 : decode cX10_post 61 = .ok (.ireturn, 1) := by decide +kernel
noncomputable def f_X10_post (x1 : Int32) (x2 : Int32) (u0 : qM) : Option (Int32 × qM) :=
  q_bd (f_X10_sideRefused x1 x2 u0) (fun (x3 : Int32) (u1 : qM) => if x3 = 0 then q_ck (q_in x1 6) (if (u1.1 2 (Int32.toNatClampNeg x1) 9) < 4 then q_ck (q_in (u1.1 2 (Int32.toNatClampNeg x1) 9) 4) (q_lt (q_si u1 42 (Int32.toNatClampNeg x1) (Int32.toNatClampNeg (u1.1 2 (Int32.toNatClampNeg x1) 9)) x2) (fun (u2 : qM) => q_lt (q_si u2 2 (Int32.toNatClampNeg x1) 9 ((u2.1 2 (Int32.toNatClampNeg x1) 9) + 1)) (fun (u3 : qM) => some (u3.1 2 (Int32.toNatClampNeg x1) 9, u3)))) else some ((-2), u1)) else some (x3, u1))
set_option maxRecDepth 100000 in
set_option maxHeartbeats 4000000 in
theorem k_X10_post (l : Launch) (G : qG) (x1 : Int32) (x2 : Int32)  (u0 : qM) : qCt l G m_X10_post q_cI [.ref (q_ad G 0 0), .int x1, .int x2] u0 (f_X10_post x1 x2 u0) := by
  refine q_entry pk_X10_post (Nat.le_of_ble_eq_true rfl) ?_
  show qAW l G m_X10_post (q_mq G q_cI) 0 [(0, .ref (q_ad G 0 0)), (1, .int x1), (2, .int x2)] [] u0 (f_X10_post x1 x2 u0)
  unfold f_X10_post
  refine aw_aload_n (i := 0) dX10_post_0 1 rfl rfl 0 rfl ?_
  refine aw_iload_n (i := 1) dX10_post_1 2 rfl rfl 1 rfl ?_
  refine aw_iload_n (i := 2) dX10_post_2 3 rfl rfl 2 rfl ?_
  refine aw_callV (M2 := m_X10_sideRefused) (cv := q_cI) dX10_post_3 6 rfl (k_X10_sideRefused l G x1 x2  u0) wd_159 wv_X10_sideRefused pk_X10_sideRefused rfl rfl ⟨by decide, by decide⟩ ⟨Nat.zero_le _, Nat.zero_le _⟩ at_0 (ok_0 (by decide)) rfl rfl rfl (Nat.le_of_ble_eq_true rfl) (fun x3 u1 => ?_)
  show qAW l G m_X10_post (q_mq G q_cI) 6 [(0, .ref (q_ad G 0 0)), (1, .int x1), (2, .int x2)] [.int x3] u1 _
  refine aw_istore_n dX10_post_6 7 rfl rfl [(3, .int x3), (0, .ref (q_ad G 0 0)), (1, .int x1), (2, .int x2)] (by decide) rfl ?_
  refine aw_iload_n (i := 3) dX10_post_7 8 rfl rfl 0 rfl ?_
  refine aw_if_eq dX10_post_8 11 rfl 13 rfl (fun h1 => ?_) (fun h1 => ?_)
  · refine aw_aload_n (i := 0) dX10_post_13 14 rfl rfl 1 rfl ?_
    refine gf_X10_4 dX10_post_14 17 rfl wd_145 (ok_0 (by decide)) ?_
    refine aw_iload_n (i := 1) dX10_post_17 18 rfl rfl 2 rfl ?_
    refine aw_aald dX10_post_18 19 rfl at_21 (by decide) (by decide) rfl rfl (al_21 _) (ok_21 (by decide)) rfl (fun h2 => ?_)
    refine aw_astore dX10_post_19 21 rfl [(4, .ref (q_ad G 2 (Int32.toNatClampNeg x1))), (3, .int x3), (0, .ref (q_ad G 0 0)), (1, .int x1), (2, .int x2)] (by decide) rfl ?_
    refine aw_aload (i := 4) dX10_post_21 23 rfl 0 rfl ?_
    refine gfN_X0_9 dX10_post_23 26 rfl "SeaCells" (ns_46) (ok_2 (Nat.lt_of_lt_of_le (q_in_lt h2) (by decide))) ?_
    refine aw_iconst (x := 4) dX10_post_26 27 rfl rfl ?_
    refine aw_icmp_lt dX10_post_27 30 rfl 33 rfl (fun h3 => ?_) (fun h3 => ?_)
    · refine aw_aload (i := 4) dX10_post_33 35 rfl 0 rfl ?_
      refine gfN_X0_8 dX10_post_35 38 rfl "SeaCells" (ns_45) (ok_2 (Nat.lt_of_lt_of_le (q_in_lt h2) (by decide))) ?_
      refine aw_aload (i := 4) dX10_post_38 40 rfl 0 rfl ?_
      refine gfN_X0_9 dX10_post_40 43 rfl "SeaCells" (ns_46) (ok_2 (Nat.lt_of_lt_of_le (q_in_lt h2) (by decide))) ?_
      refine aw_iload_n (i := 2) dX10_post_43 44 rfl rfl 4 rfl ?_
      refine aw_iast dX10_post_44 45 rfl at_42 (al_42 _) (ok_42 (Nat.lt_of_lt_of_le (q_in_lt h2) (by decide))) (fun h4 => ?_)
      refine aw_ltm (fun u2 => ?_)
      refine aw_aload (i := 4) dX10_post_45 47 rfl 0 rfl ?_
      refine aw_dup dX10_post_47 48 rfl rfl ?_
      refine gfN_X0_9 dX10_post_48 51 rfl "SeaCells" (ns_46) (ok_2 (Nat.lt_of_lt_of_le (q_in_lt h2) (by decide))) ?_
      refine aw_iconst (x := 1) dX10_post_51 52 rfl rfl ?_
      refine aw_iadd dX10_post_52 53 rfl ?_
      refine pfN_X0_9 dX10_post_53 56 rfl "SeaCells" (ns_46) (ok_2 (Nat.lt_of_lt_of_le (q_in_lt h2) (by decide))) ?_
      refine aw_ltm (fun u3 => ?_)
      refine aw_aload (i := 4) dX10_post_56 58 rfl 0 rfl ?_
      refine gfN_X0_9 dX10_post_58 61 rfl "SeaCells" (ns_46) (ok_2 (Nat.lt_of_lt_of_le (q_in_lt h2) (by decide))) ?_
      exact aw_iret dX10_post_61 rfl
    · refine aw_bipush (x := (-2)) dX10_post_30 32 rfl rfl ?_
      exact aw_iret dX10_post_32 rfl
  · refine aw_iload_n (i := 3) dX10_post_11 12 rfl rfl 0 rfl ?_
    exact aw_iret dX10_post_12 rfl
theorem dJ6_bitCount_0f7a4_0 : decode cJ6_bitCount_0f7a4 0 = .ok (.iload_n 0, 1) := by decide +kernel
theorem dJ6_bitCount_0f7a4_1 : decode cJ6_bitCount_0f7a4 1 = .ok (.iload_n 0, 1) := by decide +kernel
theorem dJ6_bitCount_0f7a4_2 : decode cJ6_bitCount_0f7a4 2 = .ok (.iconst 1, 1) := by decide +kernel
theorem dJ6_bitCount_0f7a4_3 : decode cJ6_bitCount_0f7a4 3 = .ok (.iushr, 1) := by decide +kernel
theorem dJ6_bitCount_0f7a4_4 : decode cJ6_bitCount_0f7a4 4 = .ok (.ldc_w 265, 3) := by decide +kernel
theorem dJ6_bitCount_0f7a4_7 : decode cJ6_bitCount_0f7a4 7 = .ok (.iand, 1) := by decide +kernel
theorem dJ6_bitCount_0f7a4_8 : decode cJ6_bitCount_0f7a4 8 = .ok (.isub, 1) := by decide +kernel
theorem dJ6_bitCount_0f7a4_9 : decode cJ6_bitCount_0f7a4 9 = .ok (.istore_n 0, 1) := by decide +kernel
theorem dJ6_bitCount_0f7a4_10 : decode cJ6_bitCount_0f7a4 10 = .ok (.iload_n 0, 1) := by decide +kernel
theorem dJ6_bitCount_0f7a4_11 : decode cJ6_bitCount_0f7a4 11 = .ok (.ldc_w 266, 3) := by decide +kernel
theorem dJ6_bitCount_0f7a4_14 : decode cJ6_bitCount_0f7a4 14 = .ok (.iand, 1) := by decide +kernel
theorem dJ6_bitCount_0f7a4_15 : decode cJ6_bitCount_0f7a4 15 = .ok (.iload_n 0, 1) := by decide +kernel
theorem dJ6_bitCount_0f7a4_16 : decode cJ6_bitCount_0f7a4 16 = .ok (.iconst 2, 1) := by decide +kernel
theorem dJ6_bitCount_0f7a4_17 : decode cJ6_bitCount_0f7a4 17 = .ok (.iushr, 1) := by decide +kernel
theorem dJ6_bitCount_0f7a4_18 : decode cJ6_bitCount_0f7a4 18 = .ok (.ldc_w 266, 3) := by decide +kernel
theorem dJ6_bitCount_0f7a4_21 : decode cJ6_bitCount_0f7a4 21 = .ok (.iand, 1) := by decide +kernel
theorem dJ6_bitCount_0f7a4_22 : decode cJ6_bitCount_0f7a4 22 = .ok (.iadd, 1) := by decide +kernel
theorem dJ6_bitCount_0f7a4_23 : decode cJ6_bitCount_0f7a4 23 = .ok (.istore_n 0, 1) := by decide +kernel
theorem dJ6_bitCount_0f7a4_24 : decode cJ6_bitCount_0f7a4 24 = .ok (.iload_n 0, 1) := by decide +kernel
theorem dJ6_bitCount_0f7a4_25 : decode cJ6_bitCount_0f7a4 25 = .ok (.iload_n 0, 1) := by decide +kernel
theorem dJ6_bitCount_0f7a4_26 : decode cJ6_bitCount_0f7a4 26 = .ok (.iconst 4, 1) := by decide +kernel
theorem dJ6_bitCount_0f7a4_27 : decode cJ6_bitCount_0f7a4 27 = .ok (.iushr, 1) := by decide +kernel
theorem dJ6_bitCount_0f7a4_28 : decode cJ6_bitCount_0f7a4 28 = .ok (.iadd, 1) := by decide +kernel
theorem dJ6_bitCount_0f7a4_29 : decode cJ6_bitCount_0f7a4 29 = .ok (.ldc_w 267, 3) := by decide +kernel
theorem dJ6_bitCount_0f7a4_32 : decode cJ6_bitCount_0f7a4 32 = .ok (.iand, 1) := by decide +kernel
theorem dJ6_bitCount_0f7a4_33 : decode cJ6_bitCount_0f7a4 33 = .ok (.istore_n 0, 1) := by decide +kernel
theorem dJ6_bitCount_0f7a4_34 : decode cJ6_bitCount_0f7a4 34 = .ok (.iload_n 0, 1) := by decide +kernel
theorem dJ6_bitCount_0f7a4_35 : decode cJ6_bitCount_0f7a4 35 = .ok (.iload_n 0, 1) := by decide +kernel
theorem dJ6_bitCount_0f7a4_36 : decode cJ6_bitCount_0f7a4 36 = .ok (.bipush 8, 2) := by decide +kernel
theorem dJ6_bitCount_0f7a4_38 : decode cJ6_bitCount_0f7a4 38 = .ok (.iushr, 1) := by decide +kernel
theorem dJ6_bitCount_0f7a4_39 : decode cJ6_bitCount_0f7a4 39 = .ok (.iadd, 1) := by decide +kernel
theorem dJ6_bitCount_0f7a4_40 : decode cJ6_bitCount_0f7a4 40 = .ok (.istore_n 0, 1) := by decide +kernel
theorem dJ6_bitCount_0f7a4_41 : decode cJ6_bitCount_0f7a4 41 = .ok (.iload_n 0, 1) := by decide +kernel
theorem dJ6_bitCount_0f7a4_42 : decode cJ6_bitCount_0f7a4 42 = .ok (.iload_n 0, 1) := by decide +kernel
theorem dJ6_bitCount_0f7a4_43 : decode cJ6_bitCount_0f7a4 43 = .ok (.bipush 16, 2) := by decide +kernel
theorem dJ6_bitCount_0f7a4_45 : decode cJ6_bitCount_0f7a4 45 = .ok (.iushr, 1) := by decide +kernel
theorem dJ6_bitCount_0f7a4_46 : decode cJ6_bitCount_0f7a4 46 = .ok (.iadd, 1) := by decide +kernel
theorem dJ6_bitCount_0f7a4_47 : decode cJ6_bitCount_0f7a4 47 = .ok (.istore_n 0, 1) := by decide +kernel
theorem dJ6_bitCount_0f7a4_48 : decode cJ6_bitCount_0f7a4 48 = .ok (.iload_n 0, 1) := by decide +kernel
theorem dJ6_bitCount_0f7a4_49 : decode cJ6_bitCount_0f7a4 49 = .ok (.bipush 63, 2) := by decide +kernel
theorem dJ6_bitCount_0f7a4_51 : decode cJ6_bitCount_0f7a4 51 = .ok (.iand, 1) := by decide +kernel
theorem dJ6_bitCount_0f7a4_52 : decode cJ6_bitCount_0f7a4 52 = .ok (.ireturn, 1) := by decide +kernel
noncomputable def f_J6_bitCount_0f7a4 (x1 : Int32) (u0 : qM) : Option (Int32 × qM) :=
  q_lt (x1 - ((((x1 : Int32).toUInt32 >>> (Int32.toUInt32 1 &&& Int32.toUInt32 31)).toInt32) &&& 1431655765)) (fun (x2 : Int32) => q_lt ((x2 &&& 858993459) + ((((x2 : Int32).toUInt32 >>> (Int32.toUInt32 2 &&& Int32.toUInt32 31)).toInt32) &&& 858993459)) (fun (x3 : Int32) => q_lt ((x3 + (((x3 : Int32).toUInt32 >>> (Int32.toUInt32 4 &&& Int32.toUInt32 31)).toInt32)) &&& 252645135) (fun (x4 : Int32) => q_lt (x4 + (((x4 : Int32).toUInt32 >>> (Int32.toUInt32 8 &&& Int32.toUInt32 31)).toInt32)) (fun (x5 : Int32) => q_lt (x5 + (((x5 : Int32).toUInt32 >>> (Int32.toUInt32 16 &&& Int32.toUInt32 31)).toInt32)) (fun (x6 : Int32) => some (x6 &&& 63, u0))))))
set_option maxRecDepth 100000 in
set_option maxHeartbeats 4000000 in
theorem k_J6_bitCount_0f7a4 (l : Launch) (G : qG) (x1 : Int32)  (u0 : qM) : qCt l G m_J6_bitCount_0f7a4 q_cI [.int x1] u0 (f_J6_bitCount_0f7a4 x1 u0) := by
  refine q_entry pk_J6_bitCount_0f7a4 (Nat.le_of_ble_eq_true rfl) ?_
  show qAW l G m_J6_bitCount_0f7a4 (q_mq G q_cI) 0 [(0, .int x1)] [] u0 (f_J6_bitCount_0f7a4 x1 u0)
  unfold f_J6_bitCount_0f7a4
  refine aw_iload_n (i := 0) dJ6_bitCount_0f7a4_0 1 rfl rfl 0 rfl ?_
  refine aw_iload_n (i := 0) dJ6_bitCount_0f7a4_1 2 rfl rfl 0 rfl ?_
  refine aw_iconst (x := 1) dJ6_bitCount_0f7a4_2 3 rfl rfl ?_
  refine aw_iushr dJ6_bitCount_0f7a4_3 4 rfl ?_
  refine aw_ldcw (x := 1431655765) dJ6_bitCount_0f7a4_4 7 rfl wd_211 ?_
  refine aw_iand dJ6_bitCount_0f7a4_7 8 rfl ?_
  refine aw_isub dJ6_bitCount_0f7a4_8 9 rfl ?_
  refine aw_lti (fun x2 => ?_)
  refine aw_istore_n dJ6_bitCount_0f7a4_9 10 rfl rfl [(0, .int x2)] (by decide) rfl ?_
  refine aw_iload_n (i := 0) dJ6_bitCount_0f7a4_10 11 rfl rfl 0 rfl ?_
  refine aw_ldcw (x := 858993459) dJ6_bitCount_0f7a4_11 14 rfl wd_212 ?_
  refine aw_iand dJ6_bitCount_0f7a4_14 15 rfl ?_
  refine aw_iload_n (i := 0) dJ6_bitCount_0f7a4_15 16 rfl rfl 0 rfl ?_
  refine aw_iconst (x := 2) dJ6_bitCount_0f7a4_16 17 rfl rfl ?_
  refine aw_iushr dJ6_bitCount_0f7a4_17 18 rfl ?_
  refine aw_ldcw (x := 858993459) dJ6_bitCount_0f7a4_18 21 rfl wd_212 ?_
  refine aw_iand dJ6_bitCount_0f7a4_21 22 rfl ?_
  refine aw_iadd dJ6_bitCount_0f7a4_22 23 rfl ?_
  refine aw_lti (fun x3 => ?_)
  refine aw_istore_n dJ6_bitCount_0f7a4_23 24 rfl rfl [(0, .int x3)] (by decide) rfl ?_
  refine aw_iload_n (i := 0) dJ6_bitCount_0f7a4_24 25 rfl rfl 0 rfl ?_
  refine aw_iload_n (i := 0) dJ6_bitCount_0f7a4_25 26 rfl rfl 0 rfl ?_
  refine aw_iconst (x := 4) dJ6_bitCount_0f7a4_26 27 rfl rfl ?_
  refine aw_iushr dJ6_bitCount_0f7a4_27 28 rfl ?_
  refine aw_iadd dJ6_bitCount_0f7a4_28 29 rfl ?_
  refine aw_ldcw (x := 252645135) dJ6_bitCount_0f7a4_29 32 rfl wd_213 ?_
  refine aw_iand dJ6_bitCount_0f7a4_32 33 rfl ?_
  refine aw_lti (fun x4 => ?_)
  refine aw_istore_n dJ6_bitCount_0f7a4_33 34 rfl rfl [(0, .int x4)] (by decide) rfl ?_
  refine aw_iload_n (i := 0) dJ6_bitCount_0f7a4_34 35 rfl rfl 0 rfl ?_
  refine aw_iload_n (i := 0) dJ6_bitCount_0f7a4_35 36 rfl rfl 0 rfl ?_
  refine aw_bipush (x := 8) dJ6_bitCount_0f7a4_36 38 rfl rfl ?_
  refine aw_iushr dJ6_bitCount_0f7a4_38 39 rfl ?_
  refine aw_iadd dJ6_bitCount_0f7a4_39 40 rfl ?_
  refine aw_lti (fun x5 => ?_)
  refine aw_istore_n dJ6_bitCount_0f7a4_40 41 rfl rfl [(0, .int x5)] (by decide) rfl ?_
  refine aw_iload_n (i := 0) dJ6_bitCount_0f7a4_41 42 rfl rfl 0 rfl ?_
  refine aw_iload_n (i := 0) dJ6_bitCount_0f7a4_42 43 rfl rfl 0 rfl ?_
  refine aw_bipush (x := 16) dJ6_bitCount_0f7a4_43 45 rfl rfl ?_
  refine aw_iushr dJ6_bitCount_0f7a4_45 46 rfl ?_
  refine aw_iadd dJ6_bitCount_0f7a4_46 47 rfl ?_
  refine aw_lti (fun x6 => ?_)
  refine aw_istore_n dJ6_bitCount_0f7a4_47 48 rfl rfl [(0, .int x6)] (by decide) rfl ?_
  refine aw_iload_n (i := 0) dJ6_bitCount_0f7a4_48 49 rfl rfl 0 rfl ?_
  refine aw_bipush (x := 63) dJ6_bitCount_0f7a4_49 51 rfl rfl ?_
  refine aw_iand dJ6_bitCount_0f7a4_51 52 rfl ?_
  exact aw_iret dJ6_bitCount_0f7a4_52 rfl
theorem dX10_gates_0 : decode cX10_gates 0 = .ok (.aload_n 0, 1) := by decide +kernel
theorem dX10_gates_1 : decode cX10_gates 1 = .ok (.iload_n 1, 1) := by decide +kernel
theorem dX10_gates_2 : decode cX10_gates 2 = .ok (.iload_n 2, 1) := by decide +kernel
theorem dX10_gates_3 : decode cX10_gates 3 = .ok (.iload_n 3, 1) := by decide +kernel
theorem dX10_gates_4 : decode cX10_gates 4 = .ok (.invokevirtual 415, 3) := by decide +kernel
theorem dX10_gates_7 : decode cX10_gates 7 = .ok (.istore 4, 2) := by decide +kernel
theorem dX10_gates_9 : decode cX10_gates 9 = .ok (.iload 4, 2) := by decide +kernel
theorem dX10_gates_11 : decode cX10_gates 11 = .ok (.ifCond .eq 6, 3) := by decide +kernel
theorem dX10_gates_14 : decode cX10_gates 14 = .ok (.iload 4, 2) := by decide +kernel
theorem dX10_gates_16 : decode cX10_gates 16 = .ok (.ireturn, 1) := by decide +kernel
theorem dX10_gates_17 : decode cX10_gates 17 = .ok (.iconst 0, 1) := by decide +kernel
theorem dX10_gates_18 : decode cX10_gates 18 = .ok (.istore 5, 2) := by decide +kernel
theorem dX10_gates_20 : decode cX10_gates 20 = .ok (.aload_n 0, 1) := by decide +kernel
theorem dX10_gates_21 : decode cX10_gates 21 = .ok (.iload_n 1, 1) := by decide +kernel
theorem dX10_gates_22 : decode cX10_gates 22 = .ok (.iload_n 2, 1) := by decide +kernel
theorem dX10_gates_23 : decode cX10_gates 23 = .ok (.iload_n 3, 1) := by decide +kernel
theorem dX10_gates_24 : decode cX10_gates 24 = .ok (.iconst 0, 1) := by decide +kernel
theorem dX10_gates_25 : decode cX10_gates 25 = .ok (.invokevirtual 418, 3) := by decide +kernel
theorem dX10_gates_28 : decode cX10_gates 28 = .ok (.istore 6, 2) := by decide +kernel
theorem dX10_gates_30 : decode cX10_gates 30 = .ok (.iconst 1, 1) := by decide +kernel
theorem dX10_gates_31 : decode cX10_gates 31 = .ok (.istore 7, 2) := by decide +kernel
theorem dX10_gates_33 : decode cX10_gates 33 = .ok (.iload 7, 2) := by decide +kernel
theorem dX10_gates_35 : decode cX10_gates 35 = .ok (.iconst 1, 1) := by decide +kernel
theorem dX10_gates_36 : decode cX10_gates 36 = .ok (.aload_n 0, 1) := by decide +kernel
theorem dX10_gates_37 : decode cX10_gates 37 = .ok (.getfield 30, 3) := by decide +kernel
theorem dX10_gates_40 : decode cX10_gates 40 = .ok (.iload_n 1, 1) := by decide +kernel
theorem dX10_gates_41 : decode cX10_gates 41 = .ok (.aaload, 1) := by decide +kernel
theorem dX10_gates_42 : decode cX10_gates 42 = .ok (.getfield 428, 3) := by decide +kernel
theorem dX10_gates_45 : decode cX10_gates 45 = .ok (.ishl, 1) := by decide +kernel
theorem dX10_gates_46 : decode cX10_gates 46 = .ok (.if_icmp .ge 67, 3) := by decide +kernel
theorem dX10_gates_49 : decode cX10_gates 49 = .ok (.aload_n 0, 1) := by decide +kernel
theorem dX10_gates_50 : decode cX10_gates 50 = .ok (.iload_n 1, 1) := by decide +kernel
theorem dX10_gates_51 : decode cX10_gates 51 = .ok (.iload_n 2, 1) := by decide +kernel
theorem dX10_gates_52 : decode cX10_gates 52 = .ok (.iload_n 3, 1) := by decide +kernel
theorem dX10_gates_53 : decode cX10_gates 53 = .ok (.iload 7, 2) := by decide +kernel
theorem dX10_gates_55 : decode cX10_gates 55 = .ok (.invokevirtual 418, 3) := by decide +kernel
theorem dX10_gates_58 : decode cX10_gates 58 = .ok (.istore 8, 2) := by decide +kernel
theorem dX10_gates_60 : decode cX10_gates 60 = .ok (.iload 7, 2) := by decide +kernel
theorem dX10_gates_62 : decode cX10_gates 62 = .ok (.invokestatic 434, 3) := by decide +kernel
theorem dX10_gates_65 : decode cX10_gates 65 = .ok (.iload 5, 2) := by decide +kernel
theorem dX10_gates_67 : decode cX10_gates 67 = .ok (.invokestatic 434, 3) := by decide +kernel
theorem dX10_gates_70 : decode cX10_gates 70 = .ok (.if_icmp .ge 7, 3) := by decide +kernel
theorem dX10_gates_73 : decode cX10_gates 73 = .ok (.iconst 1, 1) := by decide +kernel
theorem dX10_gates_74 : decode cX10_gates 74 = .ok (.goto 4, 3) := by decide +kernel
theorem dX10_gates_77 : decode cX10_gates 77 = .ok (.iconst 0, 1) := by decide +kernel
theorem dX10_gates_78 : decode cX10_gates 78 = .ok (.istore 9, 2) := by decide +kernel
theorem dX10_gates_80 : decode cX10_gates 80 = .ok (.iload 8, 2) := by decide +kernel
theorem dX10_gates_82 : decode cX10_gates 82 = .ok (.iload 6, 2) := by decide +kernel
theorem dX10_gates_84 : decode cX10_gates 84 = .ok (.if_icmp .lt 15, 3) := by decide +kernel
theorem dX10_gates_87 : decode cX10_gates 87 = .ok (.iload 8, 2) := by decide +kernel
theorem dX10_gates_89 : decode cX10_gates 89 = .ok (.iload 6, 2) := by decide +kernel
theorem dX10_gates_91 : decode cX10_gates 91 = .ok (.if_icmp .ne 16, 3) := by decide +kernel
theorem dX10_gates_94 : decode cX10_gates 94 = .ok (.iload 9, 2) := by decide +kernel
theorem dX10_gates_96 : decode cX10_gates 96 = .ok (.ifCond .eq 11, 3) := by decide +kernel
theorem dX10_gates_99 : decode cX10_gates 99 = .ok (.iload 8, 2) := by decide +kernel
theorem dX10_gates_101 : decode cX10_gates 101 = .ok (.istore 6, 2) := by decide +kernel
theorem dX10_gates_103 : decode cX10_gates 103 = .ok (.iload 7, 2) := by decide +kernel
theorem dX10_gates_105 : decode cX10_gates 105 = .ok (.istore 5, 2) := by decide +kernel
theorem dX10_gates_107 : decode cX10_gates 107 = .ok (.iinc 7 1, 3) := by decide +kernel
theorem dX10_gates_110 : decode cX10_gates 110 = .ok (.goto (-77), 3) := by decide +kernel
theorem dX10_gates_113 : decode cX10_gates 113 = .ok (.aload_n 0, 1) := by decide +kernel
theorem dX10_gates_114 : decode cX10_gates 114 = .ok (.iload 6, 2) := by decide +kernel
theorem dX10_gates_116 : decode cX10_gates 116 = .ok (.aload_n 0, 1) := by decide +kernel
theorem dX10_gates_117 : decode cX10_gates 117 = .ok (.invokevirtual 422, 3) := by decide +kernel
theorem dX10_gates_120 : decode cX10_gates 120 = .ok (.invokevirtual 425, 3) := by decide +kernel
theorem dX10_gates_123 : decode cX10_gates 123 = .ok (.iload 5, 2) := by decide +kernel
theorem dX10_gates_125 : decode cX10_gates 125 = .ok (.ireturn, 1) := by decide +kernel
noncomputable def L_X10_gates_33 (x1 : Int32) (x2 : Int32) (x3 : Int32) : Nat → Int32 → Int32 → Int32 → qM → (Int32 → Int32 → qM → Option (Int32 × qM)) → Option (Int32 × qM)
  | 0, _, _, _, _, _ => none
  | n + 1, x6, x7, x8, u3, e1 => q_ck (q_in x1 6) (if (1 <<< ((u3.1 2 (Int32.toNatClampNeg x1) 9) &&& 31)) ≤ x8 then e1 x6 x7 u3 else q_bd (f_X10_alarmedWeight x1 x2 x3 x8 u3) (fun (x9 : Int32) (u4 : qM) => q_bd (f_J6_bitCount_0f7a4 x8 u4) (fun (x10 : Int32) (u5 : qM) => q_bd (f_J6_bitCount_0f7a4 x6 u5) (fun (x11 : Int32) (u6 : qM) => q_jn (fun (x12 : Int32) (u7 : qM) => q_jn (fun (x13 : Int32) (x14 : Int32) (u8 : qM) => q_lt (x8 + 1) (fun (x15 : Int32) => L_X10_gates_33 x1 x2 x3 n x13 x14 x15 u8 e1)) (fun j2 => q_jn (fun  (u9 : qM) => j2 x8 x9 u9) (fun j3 => if x9 < x7 then j3 u7 else if x9 = x7 then if x12 = 0 then j2 x6 x7 u7 else j3 u7 else j2 x6 x7 u7))) (fun j1 => if x11 ≤ x10 then j1 0 u6 else j1 1 u6)))))
noncomputable def f_X10_gates (x1 : Int32) (x2 : Int32) (x3 : Int32) (u0 : qM) : Option (Int32 × qM) :=
  q_bd (f_X10_alarmRefused x1 x2 x3 u0) (fun (x4 : Int32) (u1 : qM) => if x4 = 0 then q_bd (f_X10_alarmedWeight x1 x2 x3 0 u1) (fun (x5 : Int32) (u2 : qM) => L_X10_gates_33 x1 x2 x3 q_fu 0 x5 1 u2 (fun x16 x17 u10 => q_bd (f_X10_allWeights  u10) (fun (x18 : Int32) (u11 : qM) => q_bd (f_X10_tellFraction x17 x18 u11) (fun (_z : Unit) (u12 : qM) => some (x16, u12))))) else some (x4, u1))
set_option maxRecDepth 100000 in
set_option maxHeartbeats 4000000 in
theorem TL_X10_gates_33 (l : Launch) (G : qG) (x1 : Int32) (x2 : Int32) (x3 : Int32)  (e1 : Int32 → Int32 → qM → Option (Int32 × qM)) (he1 : ∀ (y1 : Int32) (y2 : Int32) (v : qM), qAW l G m_X10_gates (q_mq G q_cI) 113 [(0, .ref (q_ad G 0 0)), (5, .int y1), (6, .int y2)] [] v (e1 y1 y2 v)) : ∀ (n : Nat) (x6 : Int32) (x7 : Int32) (x8 : Int32) (u3 : qM), qAW l G m_X10_gates (q_mq G q_cI) 33 [(0, .ref (q_ad G 0 0)), (1, .int x1), (2, .int x2), (3, .int x3), (5, .int x6), (6, .int x7), (7, .int x8)] [] u3 (L_X10_gates_33 x1 x2 x3 n x6 x7 x8 u3 e1) := by
  intro n
  induction n with
  | zero => intros; exact aw_none
  | succ n ih =>
    intro x6 x7 x8 u3
    unfold L_X10_gates_33
    refine aw_iload (i := 7) dX10_gates_33 35 rfl 6 rfl ?_
    refine aw_iconst (x := 1) dX10_gates_35 36 rfl rfl ?_
    refine aw_aload_n (i := 0) dX10_gates_36 37 rfl rfl 0 rfl ?_
    refine gf_X10_4 dX10_gates_37 40 rfl wd_145 (ok_0 (by decide)) ?_
    refine aw_iload_n (i := 1) dX10_gates_40 41 rfl rfl 1 rfl ?_
    refine aw_aald dX10_gates_41 42 rfl at_21 (by decide) (by decide) rfl rfl (al_21 _) (ok_21 (by decide)) rfl (fun h2 => ?_)
    refine gfN_X0_9 dX10_gates_42 45 rfl "SeaCells" (ns_46) (ok_2 (Nat.lt_of_lt_of_le (q_in_lt h2) (by decide))) ?_
    refine aw_ishl dX10_gates_45 46 rfl ?_
    refine aw_icmp_ge dX10_gates_46 49 rfl 113 rfl (fun h3 => ?_) (fun h3 => ?_)
    · exact aw_conv [0, 4, 5] rfl (he1 x6 x7 u3)
    · refine aw_aload_n (i := 0) dX10_gates_49 50 rfl rfl 0 rfl ?_
      refine aw_iload_n (i := 1) dX10_gates_50 51 rfl rfl 1 rfl ?_
      refine aw_iload_n (i := 2) dX10_gates_51 52 rfl rfl 2 rfl ?_
      refine aw_iload_n (i := 3) dX10_gates_52 53 rfl rfl 3 rfl ?_
      refine aw_iload (i := 7) dX10_gates_53 55 rfl 6 rfl ?_
      refine aw_callV (M2 := m_X10_alarmedWeight) (cv := q_cI) dX10_gates_55 58 rfl (k_X10_alarmedWeight l G x1 x2 x3 x8  u3) wd_209 wv_X10_alarmedWeight pk_X10_alarmedWeight rfl rfl ⟨by decide, by decide⟩ ⟨Nat.zero_le _, Nat.zero_le _⟩ at_0 (ok_0 (by decide)) rfl rfl rfl (Nat.le_of_ble_eq_true rfl) (fun x9 u4 => ?_)
      show qAW l G m_X10_gates (q_mq G q_cI) 58 [(0, .ref (q_ad G 0 0)), (1, .int x1), (2, .int x2), (3, .int x3), (5, .int x6), (6, .int x7), (7, .int x8)] [.int x9] u4 _
      refine aw_istore dX10_gates_58 60 rfl [(8, .int x9), (0, .ref (q_ad G 0 0)), (1, .int x1), (2, .int x2), (3, .int x3), (5, .int x6), (6, .int x7), (7, .int x8)] (by decide) rfl ?_
      refine aw_iload (i := 7) dX10_gates_60 62 rfl 7 rfl ?_
      refine aw_callS (M2 := m_J6_bitCount_0f7a4) (cv := q_cI) dX10_gates_62 65 rfl (k_J6_bitCount_0f7a4 l G x8  u4) wd_214 wv_J6_bitCount_0f7a4 pk_J6_bitCount_0f7a4 rfl ⟨by decide, by decide⟩ ⟨Nat.zero_le _, Nat.zero_le _⟩ rfl (Nat.le_of_ble_eq_true rfl) (fun x10 u5 => ?_)
      show qAW l G m_X10_gates (q_mq G q_cI) 65 [(8, .int x9), (0, .ref (q_ad G 0 0)), (1, .int x1), (2, .int x2), (3, .int x3), (5, .int x6), (6, .int x7), (7, .int x8)] [.int x10] u5 _
      refine aw_iload (i := 5) dX10_gates_65 67 rfl 5 rfl ?_
      refine aw_callS (M2 := m_J6_bitCount_0f7a4) (cv := q_cI) dX10_gates_67 70 rfl (k_J6_bitCount_0f7a4 l G x6  u5) wd_214 wv_J6_bitCount_0f7a4 pk_J6_bitCount_0f7a4 rfl ⟨by decide, by decide⟩ ⟨Nat.zero_le _, Nat.zero_le _⟩ rfl (Nat.le_of_ble_eq_true rfl) (fun x11 u6 => ?_)
      show qAW l G m_X10_gates (q_mq G q_cI) 70 [(8, .int x9), (0, .ref (q_ad G 0 0)), (1, .int x1), (2, .int x2), (3, .int x3), (5, .int x6), (6, .int x7), (7, .int x8)] [.int x11, .int x10] u6 _
      refine aw_jn (fun k => ∀ (x12 : Int32) (u7 : qM), qAW l G m_X10_gates (q_mq G q_cI) 78 [(0, .ref (q_ad G 0 0)), (1, .int x1), (2, .int x2), (3, .int x3), (5, .int x6), (6, .int x7), (7, .int x8), (8, .int x9)] [.int x12] u7 (k x12 u7)) ?_ ?_
      · intro x12 u7
        refine aw_istore dX10_gates_78 80 rfl [(9, .int x12), (0, .ref (q_ad G 0 0)), (1, .int x1), (2, .int x2), (3, .int x3), (5, .int x6), (6, .int x7), (7, .int x8), (8, .int x9)] (by decide) rfl ?_
        refine aw_iload (i := 8) dX10_gates_80 82 rfl 8 rfl ?_
        refine aw_iload (i := 6) dX10_gates_82 84 rfl 6 rfl ?_
        refine aw_jn (fun k => ∀ (x13 : Int32) (x14 : Int32) (u8 : qM), qAW l G m_X10_gates (q_mq G q_cI) 107 [(0, .ref (q_ad G 0 0)), (1, .int x1), (2, .int x2), (3, .int x3), (5, .int x13), (6, .int x14), (7, .int x8)] [] u8 (k x13 x14 u8)) ?_ ?_
        · intro x13 x14 u8
          refine aw_iincx (i := 7) dX10_gates_107 110 rfl 6 rfl 1 rfl (fun x15 => [(7, .int x15), (0, .ref (q_ad G 0 0)), (1, .int x1), (2, .int x2), (3, .int x3), (5, .int x13), (6, .int x14)]) (by decide) (fun _ => rfl) (fun x15 => ?_)
          refine aw_goto dX10_gates_110 33 rfl ?_
          exact aw_conv [1, 2, 3, 4, 5, 6, 0] rfl (ih x13 x14 x15 u8)
        · intro j2 hj2
          refine aw_jn (fun k => ∀  (u9 : qM), qAW l G m_X10_gates (q_mq G q_cI) 99 [(0, .ref (q_ad G 0 0)), (1, .int x1), (2, .int x2), (3, .int x3), (7, .int x8), (8, .int x9)] [] u9 (k u9)) ?_ ?_
          · intro u9
            refine aw_iload (i := 8) dX10_gates_99 101 rfl 5 rfl ?_
            refine aw_istore dX10_gates_101 103 rfl [(6, .int x9), (0, .ref (q_ad G 0 0)), (1, .int x1), (2, .int x2), (3, .int x3), (7, .int x8), (8, .int x9)] (by decide) rfl ?_
            refine aw_iload (i := 7) dX10_gates_103 105 rfl 5 rfl ?_
            refine aw_istore dX10_gates_105 107 rfl [(5, .int x8), (6, .int x9), (0, .ref (q_ad G 0 0)), (1, .int x1), (2, .int x2), (3, .int x3), (7, .int x8), (8, .int x9)] (by decide) rfl ?_
            exact aw_conv [2, 3, 4, 5, 0, 1, 6] rfl (hj2 x8 x9 u9)
          · intro j3 hj3
            refine aw_icmp_lt dX10_gates_84 87 rfl 99 rfl (fun h5 => ?_) (fun h5 => ?_)
            · exact aw_conv [1, 2, 3, 4, 7, 8] rfl (hj3 u7)
            · refine aw_iload (i := 8) dX10_gates_87 89 rfl 8 rfl ?_
              refine aw_iload (i := 6) dX10_gates_89 91 rfl 6 rfl ?_
              refine aw_icmp_ne dX10_gates_91 94 rfl 107 rfl (fun h6 => ?_) (fun h6 => ?_)
              · exact aw_conv [1, 2, 3, 4, 5, 6, 7] rfl (hj2 x6 x7 u7)
              · refine aw_iload (i := 9) dX10_gates_94 96 rfl 0 rfl ?_
                refine aw_if_eq dX10_gates_96 99 rfl 107 rfl (fun h7 => ?_) (fun h7 => ?_)
                · exact aw_conv [1, 2, 3, 4, 5, 6, 7] rfl (hj2 x6 x7 u7)
                · exact aw_conv [1, 2, 3, 4, 7, 8] rfl (hj3 u7)
      · intro j1 hj1
        refine aw_icmp_ge dX10_gates_70 73 rfl 77 rfl (fun h4 => ?_) (fun h4 => ?_)
        · refine aw_iconst (x := 0) dX10_gates_77 78 rfl rfl ?_
          exact aw_conv [1, 2, 3, 4, 5, 6, 7, 0] rfl (hj1 0 u6)
        · refine aw_iconst (x := 1) dX10_gates_73 74 rfl rfl ?_
          refine aw_goto dX10_gates_74 78 rfl ?_
          exact aw_conv [1, 2, 3, 4, 5, 6, 7, 0] rfl (hj1 1 u6)
set_option maxRecDepth 100000 in
set_option maxHeartbeats 4000000 in
theorem k_X10_gates (l : Launch) (G : qG) (x1 : Int32) (x2 : Int32) (x3 : Int32)  (u0 : qM) : qCt l G m_X10_gates q_cI [.ref (q_ad G 0 0), .int x1, .int x2, .int x3] u0 (f_X10_gates x1 x2 x3 u0) := by
  refine q_entry pk_X10_gates (Nat.le_of_ble_eq_true rfl) ?_
  show qAW l G m_X10_gates (q_mq G q_cI) 0 [(0, .ref (q_ad G 0 0)), (1, .int x1), (2, .int x2), (3, .int x3)] [] u0 (f_X10_gates x1 x2 x3 u0)
  unfold f_X10_gates
  refine aw_aload_n (i := 0) dX10_gates_0 1 rfl rfl 0 rfl ?_
  refine aw_iload_n (i := 1) dX10_gates_1 2 rfl rfl 1 rfl ?_
  refine aw_iload_n (i := 2) dX10_gates_2 3 rfl rfl 2 rfl ?_
  refine aw_iload_n (i := 3) dX10_gates_3 4 rfl rfl 3 rfl ?_
  refine aw_callV (M2 := m_X10_alarmRefused) (cv := q_cI) dX10_gates_4 7 rfl (k_X10_alarmRefused l G x1 x2 x3  u0) wd_208 wv_X10_alarmRefused pk_X10_alarmRefused rfl rfl ⟨by decide, by decide⟩ ⟨Nat.zero_le _, Nat.zero_le _⟩ at_0 (ok_0 (by decide)) rfl rfl rfl (Nat.le_of_ble_eq_true rfl) (fun x4 u1 => ?_)
  show qAW l G m_X10_gates (q_mq G q_cI) 7 [(0, .ref (q_ad G 0 0)), (1, .int x1), (2, .int x2), (3, .int x3)] [.int x4] u1 _
  refine aw_istore dX10_gates_7 9 rfl [(4, .int x4), (0, .ref (q_ad G 0 0)), (1, .int x1), (2, .int x2), (3, .int x3)] (by decide) rfl ?_
  refine aw_iload (i := 4) dX10_gates_9 11 rfl 0 rfl ?_
  refine aw_if_eq dX10_gates_11 14 rfl 17 rfl (fun h1 => ?_) (fun h1 => ?_)
  · refine aw_iconst (x := 0) dX10_gates_17 18 rfl rfl ?_
    refine aw_istore dX10_gates_18 20 rfl [(5, .int 0), (4, .int x4), (0, .ref (q_ad G 0 0)), (1, .int x1), (2, .int x2), (3, .int x3)] (by decide) rfl ?_
    refine aw_aload_n (i := 0) dX10_gates_20 21 rfl rfl 2 rfl ?_
    refine aw_iload_n (i := 1) dX10_gates_21 22 rfl rfl 3 rfl ?_
    refine aw_iload_n (i := 2) dX10_gates_22 23 rfl rfl 4 rfl ?_
    refine aw_iload_n (i := 3) dX10_gates_23 24 rfl rfl 5 rfl ?_
    refine aw_iconst (x := 0) dX10_gates_24 25 rfl rfl ?_
    refine aw_callV (M2 := m_X10_alarmedWeight) (cv := q_cI) dX10_gates_25 28 rfl (k_X10_alarmedWeight l G x1 x2 x3 0  u1) wd_209 wv_X10_alarmedWeight pk_X10_alarmedWeight rfl rfl ⟨by decide, by decide⟩ ⟨Nat.zero_le _, Nat.zero_le _⟩ at_0 (ok_0 (by decide)) rfl rfl rfl (Nat.le_of_ble_eq_true rfl) (fun x5 u2 => ?_)
    show qAW l G m_X10_gates (q_mq G q_cI) 28 [(5, .int 0), (4, .int x4), (0, .ref (q_ad G 0 0)), (1, .int x1), (2, .int x2), (3, .int x3)] [.int x5] u2 _
    refine aw_istore dX10_gates_28 30 rfl [(6, .int x5), (5, .int 0), (4, .int x4), (0, .ref (q_ad G 0 0)), (1, .int x1), (2, .int x2), (3, .int x3)] (by decide) rfl ?_
    refine aw_iconst (x := 1) dX10_gates_30 31 rfl rfl ?_
    refine aw_istore dX10_gates_31 33 rfl [(7, .int 1), (6, .int x5), (5, .int 0), (4, .int x4), (0, .ref (q_ad G 0 0)), (1, .int x1), (2, .int x2), (3, .int x3)] (by decide) rfl ?_
    refine aw_conv [4, 5, 6, 7, 2, 1, 0] rfl (TL_X10_gates_33 l G x1 x2 x3  _ ?_ _ 0 x5 1 u2)
    · intro x16 x17 u10
      refine aw_aload_n (i := 0) dX10_gates_113 114 rfl rfl 0 rfl ?_
      refine aw_iload (i := 6) dX10_gates_114 116 rfl 2 rfl ?_
      refine aw_aload_n (i := 0) dX10_gates_116 117 rfl rfl 0 rfl ?_
      refine aw_callV (M2 := m_X10_allWeights) (cv := q_cI) dX10_gates_117 120 rfl (k_X10_allWeights l G   u10) wd_203 wv_X10_allWeights pk_X10_allWeights rfl rfl ⟨by decide, by decide⟩ ⟨Nat.zero_le _, Nat.zero_le _⟩ at_0 (ok_0 (by decide)) rfl rfl rfl (Nat.le_of_ble_eq_true rfl) (fun x18 u11 => ?_)
      show qAW l G m_X10_gates (q_mq G q_cI) 120 [(0, .ref (q_ad G 0 0)), (5, .int x16), (6, .int x17)] [.int x18, .int x17, .ref (q_ad G 0 0)] u11 _
      refine aw_callV (M2 := m_X10_tellFraction) (cv := q_cU) dX10_gates_120 123 rfl (k_X10_tellFraction l G x17 x18  u11) wd_210 wv_X10_tellFraction pk_X10_tellFraction rfl rfl ⟨by decide, by decide⟩ ⟨Nat.zero_le _, Nat.zero_le _⟩ at_0 (ok_0 (by decide)) rfl rfl rfl (Nat.le_of_ble_eq_true rfl) (fun _z u12 => ?_)
      show qAW l G m_X10_gates (q_mq G q_cI) 123 [(0, .ref (q_ad G 0 0)), (5, .int x16), (6, .int x17)] [] u12 _
      refine aw_iload (i := 5) dX10_gates_123 125 rfl 1 rfl ?_
      exact aw_iret dX10_gates_125 rfl
  · refine aw_iload (i := 4) dX10_gates_14 16 rfl 0 rfl ?_
    exact aw_iret dX10_gates_16 rfl
theorem dX10_asked_0 : decode cX10_asked 0 = .ok (.aload_n 0, 1) := by decide +kernel
theorem dX10_asked_1 : decode cX10_asked 1 = .ok (.getfield 116, 3) := by decide +kernel
theorem dX10_asked_4 : decode cX10_asked 4 = .ok (.ireturn, 1) := by decide +kernel
noncomputable def f_X10_asked  (u0 : qM) : Option (Int32 × qM) :=
  some (u0.1 0 0 15, u0)
set_option maxRecDepth 100000 in
set_option maxHeartbeats 4000000 in
theorem k_X10_asked (l : Launch) (G : qG)   (u0 : qM) : qCt l G m_X10_asked q_cI [.ref (q_ad G 0 0)] u0 (f_X10_asked  u0) := by
  refine q_entry pk_X10_asked (Nat.le_of_ble_eq_true rfl) ?_
  show qAW l G m_X10_asked (q_mq G q_cI) 0 [(0, .ref (q_ad G 0 0))] [] u0 (f_X10_asked  u0)
  unfold f_X10_asked
  refine aw_aload_n (i := 0) dX10_asked_0 1 rfl rfl 0 rfl ?_
  refine gf_X10_15 dX10_asked_1 4 rfl wd_134 (ok_0 (by decide)) ?_
  exact aw_iret dX10_asked_4 rfl
theorem dX10_strength_0 : decode cX10_strength 0 = .ok (.aload_n 0, 1) := by decide +kernel
theorem dX10_strength_1 : decode cX10_strength 1 = .ok (.getfield 68, 3) := by decide +kernel
theorem dX10_strength_4 : decode cX10_strength 4 = .ok (.invokevirtual 351, 3) := by decide +kernel
theorem dX10_strength_7 : decode cX10_strength 7 = .ok (.lreturn, 1) := by decide +kernel
noncomputable def f_X10_strength  (u0 : qM) : Option (Int64 × qM) :=
  q_bd (f_X9_power 0 u0) (fun (w1 : Int64) (u1 : qM) => some (w1, u1))
set_option maxRecDepth 100000 in
set_option maxHeartbeats 4000000 in
theorem k_X10_strength (l : Launch) (G : qG)   (u0 : qM) : qCt l G m_X10_strength q_cL [.ref (q_ad G 0 0)] u0 (f_X10_strength  u0) := by
  refine q_entry pk_X10_strength (Nat.le_of_ble_eq_true rfl) ?_
  show qAW l G m_X10_strength (q_mq G q_cL) 0 [(0, .ref (q_ad G 0 0))] [] u0 (f_X10_strength  u0)
  unfold f_X10_strength
  refine aw_aload_n (i := 0) dX10_strength_0 1 rfl rfl 0 rfl ?_
  refine gf_X10_10 dX10_strength_1 4 rfl wd_182 (ok_0 (by decide)) ?_
  refine aw_callV (M2 := m_X9_power) (cv := q_cL) dX10_strength_4 7 rfl (k_X9_power l G 0 (by decide) u0) wd_186 wv_X9_power pk_X9_power rfl rfl ⟨by decide, by decide⟩ ⟨Nat.zero_le _, Nat.zero_le _⟩ at_10 (ok_10 (by decide)) rfl rfl rfl (Nat.le_of_ble_eq_true rfl) (fun w1 u1 => ?_)
  show qAW l G m_X10_strength (q_mq G q_cL) 7 [(0, .ref (q_ad G 0 0))] [.long w1] u1 _
  exact aw_lret dX10_strength_7 rfl
theorem dX10_upper_0 : decode cX10_upper 0 = .ok (.aload_n 0, 1) := by decide +kernel
theorem dX10_upper_1 : decode cX10_upper 1 = .ok (.getfield 454, 3) := by decide +kernel
theorem dX10_upper_4 : decode cX10_upper 4 = .ok (.lreturn, 1) := by decide +kernel
noncomputable def f_X10_upper  (u0 : qM) : Option (Int64 × qM) :=
  some (u0.2.1 0 0 17, u0)
set_option maxRecDepth 100000 in
set_option maxHeartbeats 4000000 in
theorem k_X10_upper (l : Launch) (G : qG)   (u0 : qM) : qCt l G m_X10_upper q_cL [.ref (q_ad G 0 0)] u0 (f_X10_upper  u0) := by
  refine q_entry pk_X10_upper (Nat.le_of_ble_eq_true rfl) ?_
  show qAW l G m_X10_upper (q_mq G q_cL) 0 [(0, .ref (q_ad G 0 0))] [] u0 (f_X10_upper  u0)
  unfold f_X10_upper
  refine aw_aload_n (i := 0) dX10_upper_0 1 rfl rfl 0 rfl ?_
  refine gf_X10_17 dX10_upper_1 4 rfl wd_206 (ok_0 (by decide)) ?_
  exact aw_lret dX10_upper_4 rfl
theorem dX10_lower_0 : decode cX10_lower 0 = .ok (.aload_n 0, 1) := by decide +kernel
theorem dX10_lower_1 : decode cX10_lower 1 = .ok (.getfield 81, 3) := by decide +kernel
theorem dX10_lower_4 : decode cX10_lower 4 = .ok (.lreturn, 1) := by decide +kernel
noncomputable def f_X10_lower  (u0 : qM) : Option (Int64 × qM) :=
  some (u0.2.1 0 0 18, u0)
set_option maxRecDepth 100000 in
set_option maxHeartbeats 4000000 in
theorem k_X10_lower (l : Launch) (G : qG)   (u0 : qM) : qCt l G m_X10_lower q_cL [.ref (q_ad G 0 0)] u0 (f_X10_lower  u0) := by
  refine q_entry pk_X10_lower (Nat.le_of_ble_eq_true rfl) ?_
  show qAW l G m_X10_lower (q_mq G q_cL) 0 [(0, .ref (q_ad G 0 0))] [] u0 (f_X10_lower  u0)
  unfold f_X10_lower
  refine aw_aload_n (i := 0) dX10_lower_0 1 rfl rfl 0 rfl ?_
  refine gf_X10_18 dX10_lower_1 4 rfl wd_207 (ok_0 (by decide)) ?_
  exact aw_lret dX10_lower_4 rfl
theorem dX10_count_0 : decode cX10_count 0 = .ok (.iload_n 1, 1) := by decide +kernel
theorem dX10_count_1 : decode cX10_count 1 = .ok (.ifCond .ne 11, 3) := by decide +kernel
theorem dX10_count_4 : decode cX10_count 4 = .ok (.aload_n 0, 1) := by decide +kernel
theorem dX10_count_5 : decode cX10_count 5 = .ok (.getfield 14, 3) := by decide +kernel
theorem dX10_count_8 : decode cX10_count 8 = .ok (.invokevirtual 457, 3) := by decide +kernel
theorem dX10_count_11 : decode cX10_count 11 = .ok (.ireturn, 1) := by decide +kernel
theorem dX10_count_12 : decode cX10_count 12 = .ok (.iload_n 1, 1) := by decide +kernel
theorem dX10_count_13 : decode cX10_count 13 = .ok (.iconst 1, 1) := by decide +kernel
theorem dX10_count_14 : decode cX10_count 14 = .ok (.if_icmp .ne 11, 3) := by decide +kernel
theorem dX10_count_17 : decode cX10_count 17 = .ok (.aload_n 0, 1) := by decide +kernel
theorem dX10_count_18 : decode cX10_count 18 = .ok (.getfield 18, 3) := by decide +kernel
theorem dX10_count_21 : decode cX10_count 21 = .ok (.invokevirtual 457, 3) := by decide +kernel
theorem dX10_count_24 : decode cX10_count 24 = .ok (.ireturn, 1) := by decide +kernel
theorem dX10_count_25 : decode cX10_count 25 = .ok (.iload_n 1, 1) := by decide +kernel
theorem dX10_count_26 : decode cX10_count 26 = .ok (.iconst 5, 1) := by decide +kernel
theorem dX10_count_27 : decode cX10_count 27 = .ok (.if_icmp .ne 8, 3) := by decide +kernel
theorem dX10_count_30 : decode cX10_count 30 = .ok (.aload_n 0, 1) := by decide +kernel
theorem dX10_count_31 : decode cX10_count 31 = .ok (.getfield 412, 3) := by decide +kernel
theorem dX10_count_34 : decode cX10_count 34 = .ok (.ireturn, 1) := by decide +kernel
theorem dX10_count_35 : decode cX10_count 35 = .ok (.iload_n 1, 1) := by decide +kernel
theorem dX10_count_36 : decode cX10_count 36 = .ok (.iconst 2, 1) := by decide +kernel
theorem dX10_count_37 : decode cX10_count 37 = .ok (.iconst 4, 1) := by decide +kernel
theorem dX10_count_38 : decode cX10_count 38 = .ok (.invokestatic 101, 3) := by decide +kernel
theorem dX10_count_41 : decode cX10_count 41 = .ok (.ifCond .ne 5, 3) := by decide +kernel
theorem dX10_count_44 : decode cX10_count 44 = .ok (.iconst (-1), 1) := by decide +kernel
theorem dX10_count_45 : decode cX10_count 45 = .ok (.ireturn, 1) := by decide +kernel
theorem dX10_count_46 : decode cX10_count 46 = .ok (.iconst 0, 1) := by decide +kernel
theorem dX10_count_47 : decode cX10_count 47 = .ok (.istore_n 2, 1) := by decide +kernel
theorem dX10_count_48 : decode cX10_count 48 = .ok (.iload_n 1, 1) := by decide +kernel
theorem dX10_count_49 : decode cX10_count 49 = .ok (.iconst 2, 1) := by decide +kernel
theorem dX10_count_50 : decode cX10_count 50 = .ok (.if_icmp .ne 40, 3) := by decide +kernel
theorem dX10_count_53 : decode cX10_count 53 = .ok (.iconst 0, 1) := by decide +kernel
theorem dX10_count_54 : decode cX10_count 54 = .ok (.istore_n 3, 1) := by decide +kernel
theorem dX10_count_55 : decode cX10_count 55 = .ok (.iload_n 3, 1) := by decide +kernel
theorem dX10_count_56 : decode cX10_count 56 = .ok (.bipush 6, 2) := by decide +kernel
theorem dX10_count_58 : decode cX10_count 58 = .ok (.if_icmp .ge 29, 3) := by decide +kernel
theorem dX10_count_61 : decode cX10_count 61 = .ok (.iload_n 2, 1) := by decide +kernel
theorem dX10_count_62 : decode cX10_count 62 = .ok (.aload_n 0, 1) := by decide +kernel
theorem dX10_count_63 : decode cX10_count 63 = .ok (.getfield 30, 3) := by decide +kernel
theorem dX10_count_66 : decode cX10_count 66 = .ok (.iload_n 3, 1) := by decide +kernel
theorem dX10_count_67 : decode cX10_count 67 = .ok (.aaload, 1) := by decide +kernel
theorem dX10_count_68 : decode cX10_count 68 = .ok (.getfield 305, 3) := by decide +kernel
theorem dX10_count_71 : decode cX10_count 71 = .ok (.ifCond .eq 7, 3) := by decide +kernel
theorem dX10_count_74 : decode cX10_count 74 = .ok (.iconst 1, 1) := by decide +kernel
theorem dX10_count_75 : decode cX10_count 75 = .ok (.goto 4, 3) := by decide +kernel
theorem dX10_count_78 : decode cX10_count 78 = .ok (.iconst 0, 1) := by decide +kernel
theorem dX10_count_79 : decode cX10_count 79 = .ok (.iadd, 1) := by decide +kernel
theorem dX10_count_80 : decode cX10_count 80 = .ok (.istore_n 2, 1) := by decide +kernel
theorem dX10_count_81 : decode cX10_count 81 = .ok (.iinc 3 1, 3) := by decide +kernel
theorem dX10_count_84 : decode cX10_count 84 = .ok (.goto (-29), 3) := by decide +kernel
theorem dX10_count_87 : decode cX10_count 87 = .ok (.goto 83, 3) := by decide +kernel
theorem dX10_count_90 : decode cX10_count 90 = .ok (.iload_n 1, 1) := by decide +kernel
theorem dX10_count_91 : decode cX10_count 91 = .ok (.iconst 3, 1) := by decide +kernel
theorem dX10_count_92 : decode cX10_count 92 = .ok (.if_icmp .ne 42, 3) := by decide +kernel
theorem dX10_count_95 : decode cX10_count 95 = .ok (.iconst 0, 1) := by decide +kernel
theorem dX10_count_96 : decode cX10_count 96 = .ok (.istore_n 3, 1) := by decide +kernel
theorem dX10_count_97 : decode cX10_count 97 = .ok (.iload_n 3, 1) := by decide +kernel
theorem dX10_count_98 : decode cX10_count 98 = .ok (.bipush 8, 2) := by decide +kernel
theorem dX10_count_100 : decode cX10_count 100 = .ok (.if_icmp .ge 31, 3) := by decide +kernel
theorem dX10_count_103 : decode cX10_count 103 = .ok (.iload_n 2, 1) := by decide +kernel
theorem dX10_count_104 : decode cX10_count 104 = .ok (.aload_n 0, 1) := by decide +kernel
theorem dX10_count_105 : decode cX10_count 105 = .ok (.getfield 55, 3) := by decide +kernel
theorem dX10_count_108 : decode cX10_count 108 = .ok (.iload_n 3, 1) := by decide +kernel
theorem dX10_count_109 : decode cX10_count 109 = .ok (.aaload, 1) := by decide +kernel
theorem dX10_count_110 : decode cX10_count 110 = .ok (.getfield 285, 3) := by decide +kernel
theorem dX10_count_113 : decode cX10_count 113 = .ok (.bipush (-9), 2) := by decide +kernel
theorem dX10_count_115 : decode cX10_count 115 = .ok (.if_icmp .ne 7, 3) := by decide +kernel
theorem dX10_count_118 : decode cX10_count 118 = .ok (.iconst 0, 1) := by decide +kernel
theorem dX10_count_119 : decode cX10_count 119 = .ok (.goto 4, 3) := by decide +kernel
theorem dX10_count_122 : decode cX10_count 122 = .ok (.iconst 1, 1) := by decide +kernel
theorem dX10_count_123 : decode cX10_count 123 = .ok (.iadd, 1) := by decide +kernel
theorem dX10_count_124 : decode cX10_count 124 = .ok (.istore_n 2, 1) := by decide +kernel
theorem dX10_count_125 : decode cX10_count 125 = .ok (.iinc 3 1, 3) := by decide +kernel
theorem dX10_count_128 : decode cX10_count 128 = .ok (.goto (-31), 3) := by decide +kernel
theorem dX10_count_131 : decode cX10_count 131 = .ok (.goto 39, 3) := by decide +kernel
theorem dX10_count_134 : decode cX10_count 134 = .ok (.iconst 0, 1) := by decide +kernel
theorem dX10_count_135 : decode cX10_count 135 = .ok (.istore_n 3, 1) := by decide +kernel
theorem dX10_count_136 : decode cX10_count 136 = .ok (.iload_n 3, 1) := by decide +kernel
theorem dX10_count_137 : decode cX10_count 137 = .ok (.bipush 8, 2) := by decide +kernel
theorem dX10_count_139 : decode cX10_count 139 = .ok (.if_icmp .ge 31, 3) := by decide +kernel
theorem dX10_count_142 : decode cX10_count 142 = .ok (.iload_n 2, 1) := by decide +kernel
theorem dX10_count_143 : decode cX10_count 143 = .ok (.aload_n 0, 1) := by decide +kernel
theorem dX10_count_144 : decode cX10_count 144 = .ok (.getfield 61, 3) := by decide +kernel
theorem dX10_count_147 : decode cX10_count 147 = .ok (.iload_n 3, 1) := by decide +kernel
theorem dX10_count_148 : decode cX10_count 148 = .ok (.aaload, 1) := by decide +kernel
theorem dX10_count_149 : decode cX10_count 149 = .ok (.getfield 293, 3) := by decide +kernel
theorem dX10_count_152 : decode cX10_count 152 = .ok (.bipush (-9), 2) := by decide +kernel
theorem dX10_count_154 : decode cX10_count 154 = .ok (.if_icmp .ne 7, 3) := by decide +kernel
theorem dX10_count_157 : decode cX10_count 157 = .ok (.iconst 0, 1) := by decide +kernel
theorem dX10_count_158 : decode cX10_count 158 = .ok (.goto 4, 3) := by decide +kernel
theorem dX10_count_161 : decode cX10_count 161 = .ok (.iconst 1, 1) := by decide +kernel
theorem dX10_count_162 : decode cX10_count 162 = .ok (.iadd, 1) := by decide +kernel
theorem dX10_count_163 : decode cX10_count 163 = .ok (.istore_n 2, 1) := by decide +kernel
theorem dX10_count_164 : decode cX10_count 164 = .ok (.iinc 3 1, 3) := by decide +kernel
theorem dX10_count_167 : decode cX10_count 167 = .ok (.goto (-31), 3) := by decide +kernel
theorem dX10_count_170 : decode cX10_count 170 = .ok (.iload_n 2, 1) := by decide +kernel
theorem dX10_count_171 : decode cX10_count 171 = .ok (.ireturn, 1) := by decide +kernel
noncomputable def L_X10_count_136  : Nat → Int32 → Int32 → qM → (Int32 → qM → Option (Int32 × qM)) → Option (Int32 × qM)
  | 0, _, _, _, _ => none
  | n + 1, x4, x5, u3, e1 => if 8 ≤ x5 then e1 x4 u3 else q_ck (q_in x5 8) (q_jn (fun (x6 : Int32) (u4 : qM) => q_lt (x4 + x6) (fun (x7 : Int32) => q_lt (x5 + 1) (fun (x8 : Int32) => L_X10_count_136 n x7 x8 u4 e1))) (fun j2 => if (u3.1 9 (Int32.toNatClampNeg x5) 2) = (-9) then j2 0 u3 else j2 1 u3))
noncomputable def L_X10_count_97  : Nat → Int32 → Int32 → qM → (Int32 → qM → Option (Int32 × qM)) → Option (Int32 × qM)
  | 0, _, _, _, _ => none
  | n + 1, x10, x11, u6, e1 => if 8 ≤ x11 then e1 x10 u6 else q_ck (q_in x11 8) (q_jn (fun (x12 : Int32) (u7 : qM) => q_lt (x10 + x12) (fun (x13 : Int32) => q_lt (x11 + 1) (fun (x14 : Int32) => L_X10_count_97 n x13 x14 u7 e1))) (fun j3 => if (u6.1 8 (Int32.toNatClampNeg x11) 0) = (-9) then j3 0 u6 else j3 1 u6))
noncomputable def L_X10_count_55  : Nat → Int32 → Int32 → qM → (Int32 → qM → Option (Int32 × qM)) → Option (Int32 × qM)
  | 0, _, _, _, _ => none
  | n + 1, x16, x17, u9, e1 => if 6 ≤ x17 then e1 x16 u9 else q_ck (q_in x17 6) (q_jn (fun (x18 : Int32) (u10 : qM) => q_lt (x16 + x18) (fun (x19 : Int32) => q_lt (x17 + 1) (fun (x20 : Int32) => L_X10_count_55 n x19 x20 u10 e1))) (fun j4 => if (u9.1 2 (Int32.toNatClampNeg x17) 10) = 0 then j4 0 u9 else j4 1 u9))
noncomputable def f_X10_count (x1 : Int32) (u0 : qM) : Option (Int32 × qM) :=
  if x1 = 0 then q_bd (f_X7_howMany 0 u0) (fun (x23 : Int32) (u13 : qM) => some (x23, u13)) else if x1 = 1 then q_bd (f_X7_howMany 1 u0) (fun (x22 : Int32) (u12 : qM) => some (x22, u12)) else if x1 = 5 then some (u0.1 0 0 14, u0) else q_bd (f_X10_within x1 2 4 u0) (fun (x2 : Int32) (u1 : qM) => if x2 = 0 then some ((-1), u1) else q_jn (fun (x3 : Int32) (u2 : qM) => some (x3, u2)) (fun j1 => if x1 = 2 then L_X10_count_55 q_fu 0 0 u1 (fun x21 u11 => j1 x21 u11) else if x1 = 3 then L_X10_count_97 q_fu 0 0 u1 (fun x15 u8 => j1 x15 u8) else L_X10_count_136 q_fu 0 0 u1 (fun x9 u5 => j1 x9 u5)))
set_option maxRecDepth 100000 in
set_option maxHeartbeats 4000000 in
theorem TL_X10_count_136 (l : Launch) (G : qG)   (e1 : Int32 → qM → Option (Int32 × qM)) (he1 : ∀ (y1 : Int32) (v : qM), qAW l G m_X10_count (q_mq G q_cI) 170 [(2, .int y1)] [] v (e1 y1 v)) : ∀ (n : Nat) (x4 : Int32) (x5 : Int32) (u3 : qM), qAW l G m_X10_count (q_mq G q_cI) 136 [(0, .ref (q_ad G 0 0)), (2, .int x4), (3, .int x5)] [] u3 (L_X10_count_136 n x4 x5 u3 e1) := by
  intro n
  induction n with
  | zero => intros; exact aw_none
  | succ n ih =>
    intro x4 x5 u3
    unfold L_X10_count_136
    refine aw_iload_n (i := 3) dX10_count_136 137 rfl rfl 2 rfl ?_
    refine aw_bipush (x := 8) dX10_count_137 139 rfl rfl ?_
    refine aw_icmp_ge dX10_count_139 142 rfl 170 rfl (fun h7 => ?_) (fun h7 => ?_)
    · exact aw_conv [1] rfl (he1 x4 u3)
    · refine aw_iload_n (i := 2) dX10_count_142 143 rfl rfl 1 rfl ?_
      refine aw_aload_n (i := 0) dX10_count_143 144 rfl rfl 0 rfl ?_
      refine gf_X10_9 dX10_count_144 147 rfl wd_148 (ok_0 (by decide)) ?_
      refine aw_iload_n (i := 3) dX10_count_147 148 rfl rfl 2 rfl ?_
      refine aw_aald dX10_count_148 149 rfl at_23 (by decide) (by decide) rfl rfl (al_23 _) (ok_23 (by decide)) rfl (fun h8 => ?_)
      refine gfN_X2_2 dX10_count_149 152 rfl "SeaCells" (ns_72) (ok_9 (q_in_lt h8)) ?_
      refine aw_bipush (x := (-9)) dX10_count_152 154 rfl rfl ?_
      refine aw_jn (fun k => ∀ (x6 : Int32) (u4 : qM), qAW l G m_X10_count (q_mq G q_cI) 162 [(0, .ref (q_ad G 0 0)), (3, .int x5)] [.int x6, .int x4] u4 (k x6 u4)) ?_ ?_
      · intro x6 u4
        refine aw_iadd dX10_count_162 163 rfl ?_
        refine aw_lti (fun x7 => ?_)
        refine aw_istore_n dX10_count_163 164 rfl rfl [(2, .int x7), (0, .ref (q_ad G 0 0)), (3, .int x5)] (by decide) rfl ?_
        refine aw_iincx (i := 3) dX10_count_164 167 rfl 2 rfl 1 rfl (fun x8 => [(3, .int x8), (2, .int x7), (0, .ref (q_ad G 0 0))]) (by decide) (fun _ => rfl) (fun x8 => ?_)
        refine aw_goto dX10_count_167 136 rfl ?_
        exact aw_conv [2, 1, 0] rfl (ih x7 x8 u4)
      · intro j2 hj2
        refine aw_icmp_ne dX10_count_154 157 rfl 161 rfl (fun h9 => ?_) (fun h9 => ?_)
        · refine aw_iconst (x := 1) dX10_count_161 162 rfl rfl ?_
          exact aw_conv [0, 2] rfl (hj2 1 u3)
        · refine aw_iconst (x := 0) dX10_count_157 158 rfl rfl ?_
          refine aw_goto dX10_count_158 162 rfl ?_
          exact aw_conv [0, 2] rfl (hj2 0 u3)
set_option maxRecDepth 100000 in
set_option maxHeartbeats 4000000 in
theorem TL_X10_count_97 (l : Launch) (G : qG)   (e1 : Int32 → qM → Option (Int32 × qM)) (he1 : ∀ (y1 : Int32) (v : qM), qAW l G m_X10_count (q_mq G q_cI) 131 [(2, .int y1)] [] v (e1 y1 v)) : ∀ (n : Nat) (x10 : Int32) (x11 : Int32) (u6 : qM), qAW l G m_X10_count (q_mq G q_cI) 97 [(0, .ref (q_ad G 0 0)), (2, .int x10), (3, .int x11)] [] u6 (L_X10_count_97 n x10 x11 u6 e1) := by
  intro n
  induction n with
  | zero => intros; exact aw_none
  | succ n ih =>
    intro x10 x11 u6
    unfold L_X10_count_97
    refine aw_iload_n (i := 3) dX10_count_97 98 rfl rfl 2 rfl ?_
    refine aw_bipush (x := 8) dX10_count_98 100 rfl rfl ?_
    refine aw_icmp_ge dX10_count_100 103 rfl 131 rfl (fun h10 => ?_) (fun h10 => ?_)
    · exact aw_conv [1] rfl (he1 x10 u6)
    · refine aw_iload_n (i := 2) dX10_count_103 104 rfl rfl 1 rfl ?_
      refine aw_aload_n (i := 0) dX10_count_104 105 rfl rfl 0 rfl ?_
      refine gf_X10_8 dX10_count_105 108 rfl wd_147 (ok_0 (by decide)) ?_
      refine aw_iload_n (i := 3) dX10_count_108 109 rfl rfl 2 rfl ?_
      refine aw_aald dX10_count_109 110 rfl at_22 (by decide) (by decide) rfl rfl (al_22 _) (ok_22 (by decide)) rfl (fun h11 => ?_)
      refine gfN_X1_0 dX10_count_110 113 rfl "SeaCells" (ns_65) (ok_8 (q_in_lt h11)) ?_
      refine aw_bipush (x := (-9)) dX10_count_113 115 rfl rfl ?_
      refine aw_jn (fun k => ∀ (x12 : Int32) (u7 : qM), qAW l G m_X10_count (q_mq G q_cI) 123 [(0, .ref (q_ad G 0 0)), (3, .int x11)] [.int x12, .int x10] u7 (k x12 u7)) ?_ ?_
      · intro x12 u7
        refine aw_iadd dX10_count_123 124 rfl ?_
        refine aw_lti (fun x13 => ?_)
        refine aw_istore_n dX10_count_124 125 rfl rfl [(2, .int x13), (0, .ref (q_ad G 0 0)), (3, .int x11)] (by decide) rfl ?_
        refine aw_iincx (i := 3) dX10_count_125 128 rfl 2 rfl 1 rfl (fun x14 => [(3, .int x14), (2, .int x13), (0, .ref (q_ad G 0 0))]) (by decide) (fun _ => rfl) (fun x14 => ?_)
        refine aw_goto dX10_count_128 97 rfl ?_
        exact aw_conv [2, 1, 0] rfl (ih x13 x14 u7)
      · intro j3 hj3
        refine aw_icmp_ne dX10_count_115 118 rfl 122 rfl (fun h12 => ?_) (fun h12 => ?_)
        · refine aw_iconst (x := 1) dX10_count_122 123 rfl rfl ?_
          exact aw_conv [0, 2] rfl (hj3 1 u6)
        · refine aw_iconst (x := 0) dX10_count_118 119 rfl rfl ?_
          refine aw_goto dX10_count_119 123 rfl ?_
          exact aw_conv [0, 2] rfl (hj3 0 u6)
set_option maxRecDepth 100000 in
set_option maxHeartbeats 4000000 in
theorem TL_X10_count_55 (l : Launch) (G : qG)   (e1 : Int32 → qM → Option (Int32 × qM)) (he1 : ∀ (y1 : Int32) (v : qM), qAW l G m_X10_count (q_mq G q_cI) 87 [(2, .int y1)] [] v (e1 y1 v)) : ∀ (n : Nat) (x16 : Int32) (x17 : Int32) (u9 : qM), qAW l G m_X10_count (q_mq G q_cI) 55 [(0, .ref (q_ad G 0 0)), (2, .int x16), (3, .int x17)] [] u9 (L_X10_count_55 n x16 x17 u9 e1) := by
  intro n
  induction n with
  | zero => intros; exact aw_none
  | succ n ih =>
    intro x16 x17 u9
    unfold L_X10_count_55
    refine aw_iload_n (i := 3) dX10_count_55 56 rfl rfl 2 rfl ?_
    refine aw_bipush (x := 6) dX10_count_56 58 rfl rfl ?_
    refine aw_icmp_ge dX10_count_58 61 rfl 87 rfl (fun h13 => ?_) (fun h13 => ?_)
    · exact aw_conv [1] rfl (he1 x16 u9)
    · refine aw_iload_n (i := 2) dX10_count_61 62 rfl rfl 1 rfl ?_
      refine aw_aload_n (i := 0) dX10_count_62 63 rfl rfl 0 rfl ?_
      refine gf_X10_4 dX10_count_63 66 rfl wd_145 (ok_0 (by decide)) ?_
      refine aw_iload_n (i := 3) dX10_count_66 67 rfl rfl 2 rfl ?_
      refine aw_aald dX10_count_67 68 rfl at_21 (by decide) (by decide) rfl rfl (al_21 _) (ok_21 (by decide)) rfl (fun h14 => ?_)
      refine gfN_X0_10 dX10_count_68 71 rfl "SeaCells" (ns_47) (ok_2 (Nat.lt_of_lt_of_le (q_in_lt h14) (by decide))) ?_
      refine aw_jn (fun k => ∀ (x18 : Int32) (u10 : qM), qAW l G m_X10_count (q_mq G q_cI) 79 [(0, .ref (q_ad G 0 0)), (3, .int x17)] [.int x18, .int x16] u10 (k x18 u10)) ?_ ?_
      · intro x18 u10
        refine aw_iadd dX10_count_79 80 rfl ?_
        refine aw_lti (fun x19 => ?_)
        refine aw_istore_n dX10_count_80 81 rfl rfl [(2, .int x19), (0, .ref (q_ad G 0 0)), (3, .int x17)] (by decide) rfl ?_
        refine aw_iincx (i := 3) dX10_count_81 84 rfl 2 rfl 1 rfl (fun x20 => [(3, .int x20), (2, .int x19), (0, .ref (q_ad G 0 0))]) (by decide) (fun _ => rfl) (fun x20 => ?_)
        refine aw_goto dX10_count_84 55 rfl ?_
        exact aw_conv [2, 1, 0] rfl (ih x19 x20 u10)
      · intro j4 hj4
        refine aw_if_eq dX10_count_71 74 rfl 78 rfl (fun h15 => ?_) (fun h15 => ?_)
        · refine aw_iconst (x := 0) dX10_count_78 79 rfl rfl ?_
          exact aw_conv [0, 2] rfl (hj4 0 u9)
        · refine aw_iconst (x := 1) dX10_count_74 75 rfl rfl ?_
          refine aw_goto dX10_count_75 79 rfl ?_
          exact aw_conv [0, 2] rfl (hj4 1 u9)
set_option maxRecDepth 100000 in
set_option maxHeartbeats 4000000 in
theorem k_X10_count (l : Launch) (G : qG) (x1 : Int32)  (u0 : qM) : qCt l G m_X10_count q_cI [.ref (q_ad G 0 0), .int x1] u0 (f_X10_count x1 u0) := by
  refine q_entry pk_X10_count (Nat.le_of_ble_eq_true rfl) ?_
  show qAW l G m_X10_count (q_mq G q_cI) 0 [(0, .ref (q_ad G 0 0)), (1, .int x1)] [] u0 (f_X10_count x1 u0)
  unfold f_X10_count
  refine aw_iload_n (i := 1) dX10_count_0 1 rfl rfl 1 rfl ?_
  refine aw_if_ne dX10_count_1 4 rfl 12 rfl (fun h1 => ?_) (fun h1 => ?_)
  · refine aw_iload_n (i := 1) dX10_count_12 13 rfl rfl 1 rfl ?_
    refine aw_iconst (x := 1) dX10_count_13 14 rfl rfl ?_
    refine aw_icmp_ne dX10_count_14 17 rfl 25 rfl (fun h2 => ?_) (fun h2 => ?_)
    · refine aw_iload_n (i := 1) dX10_count_25 26 rfl rfl 1 rfl ?_
      refine aw_iconst (x := 5) dX10_count_26 27 rfl rfl ?_
      refine aw_icmp_ne dX10_count_27 30 rfl 35 rfl (fun h3 => ?_) (fun h3 => ?_)
      · refine aw_iload_n (i := 1) dX10_count_35 36 rfl rfl 1 rfl ?_
        refine aw_iconst (x := 2) dX10_count_36 37 rfl rfl ?_
        refine aw_iconst (x := 4) dX10_count_37 38 rfl rfl ?_
        refine aw_callS (M2 := m_X10_within) (cv := q_cI) dX10_count_38 41 rfl (k_X10_within l G x1 2 4  u0) wd_131 wv_X10_within pk_X10_within rfl ⟨by decide, by decide⟩ ⟨Nat.zero_le _, Nat.zero_le _⟩ rfl (Nat.le_of_ble_eq_true rfl) (fun x2 u1 => ?_)
        show qAW l G m_X10_count (q_mq G q_cI) 41 [(0, .ref (q_ad G 0 0)), (1, .int x1)] [.int x2] u1 _
        refine aw_if_ne dX10_count_41 44 rfl 46 rfl (fun h4 => ?_) (fun h4 => ?_)
        · refine aw_iconst (x := 0) dX10_count_46 47 rfl rfl ?_
          refine aw_istore_n dX10_count_47 48 rfl rfl [(2, .int 0), (0, .ref (q_ad G 0 0)), (1, .int x1)] (by decide) rfl ?_
          refine aw_iload_n (i := 1) dX10_count_48 49 rfl rfl 2 rfl ?_
          refine aw_iconst (x := 2) dX10_count_49 50 rfl rfl ?_
          refine aw_jn (fun k => ∀ (x3 : Int32) (u2 : qM), qAW l G m_X10_count (q_mq G q_cI) 170 [(2, .int x3)] [] u2 (k x3 u2)) ?_ ?_
          · intro x3 u2
            refine aw_iload_n (i := 2) dX10_count_170 171 rfl rfl 0 rfl ?_
            exact aw_iret dX10_count_171 rfl
          · intro j1 hj1
            refine aw_icmp_ne dX10_count_50 53 rfl 90 rfl (fun h5 => ?_) (fun h5 => ?_)
            · refine aw_iload_n (i := 1) dX10_count_90 91 rfl rfl 2 rfl ?_
              refine aw_iconst (x := 3) dX10_count_91 92 rfl rfl ?_
              refine aw_icmp_ne dX10_count_92 95 rfl 134 rfl (fun h6 => ?_) (fun h6 => ?_)
              · refine aw_iconst (x := 0) dX10_count_134 135 rfl rfl ?_
                refine aw_istore_n dX10_count_135 136 rfl rfl [(3, .int 0), (2, .int 0), (0, .ref (q_ad G 0 0)), (1, .int x1)] (by decide) rfl ?_
                refine aw_conv [2, 1, 0] rfl (TL_X10_count_136 l G   _ ?_ _ 0 0 u1)
                · intro x9 u5
                  exact hj1 x9 u5
              · refine aw_iconst (x := 0) dX10_count_95 96 rfl rfl ?_
                refine aw_istore_n dX10_count_96 97 rfl rfl [(3, .int 0), (2, .int 0), (0, .ref (q_ad G 0 0)), (1, .int x1)] (by decide) rfl ?_
                refine aw_conv [2, 1, 0] rfl (TL_X10_count_97 l G   _ ?_ _ 0 0 u1)
                · intro x15 u8
                  refine aw_goto dX10_count_131 170 rfl ?_
                  exact hj1 x15 u8
            · refine aw_iconst (x := 0) dX10_count_53 54 rfl rfl ?_
              refine aw_istore_n dX10_count_54 55 rfl rfl [(3, .int 0), (2, .int 0), (0, .ref (q_ad G 0 0)), (1, .int x1)] (by decide) rfl ?_
              refine aw_conv [2, 1, 0] rfl (TL_X10_count_55 l G   _ ?_ _ 0 0 u1)
              · intro x21 u11
                refine aw_goto dX10_count_87 170 rfl ?_
                exact hj1 x21 u11
        · refine aw_iconst (x := (-1)) dX10_count_44 45 rfl rfl ?_
          exact aw_iret dX10_count_45 rfl
      · refine aw_aload_n (i := 0) dX10_count_30 31 rfl rfl 0 rfl ?_
        refine gf_X10_14 dX10_count_31 34 rfl wd_199 (ok_0 (by decide)) ?_
        exact aw_iret dX10_count_34 rfl
    · refine aw_aload_n (i := 0) dX10_count_17 18 rfl rfl 0 rfl ?_
      refine gf_X10_1 dX10_count_18 21 rfl wd_140 (ok_0 (by decide)) ?_
      refine aw_callV (M2 := m_X7_howMany) (cv := q_cI) dX10_count_21 24 rfl (k_X7_howMany l G 1 (by decide) u0) wd_215 wv_X7_howMany pk_X7_howMany rfl rfl ⟨by decide, by decide⟩ ⟨Nat.zero_le _, Nat.zero_le _⟩ at_1 (ok_1 (by decide)) rfl rfl rfl (Nat.le_of_ble_eq_true rfl) (fun x22 u12 => ?_)
      show qAW l G m_X10_count (q_mq G q_cI) 24 [(0, .ref (q_ad G 0 0)), (1, .int x1)] [.int x22] u12 _
      exact aw_iret dX10_count_24 rfl
  · refine aw_aload_n (i := 0) dX10_count_4 5 rfl rfl 0 rfl ?_
    refine gf_X10_0 dX10_count_5 8 rfl wd_125 (ok_0 (by decide)) ?_
    refine aw_callV (M2 := m_X7_howMany) (cv := q_cI) dX10_count_8 11 rfl (k_X7_howMany l G 0 (by decide) u0) wd_215 wv_X7_howMany pk_X7_howMany rfl rfl ⟨by decide, by decide⟩ ⟨Nat.zero_le _, Nat.zero_le _⟩ at_1 (ok_1 (by decide)) rfl rfl rfl (Nat.le_of_ble_eq_true rfl) (fun x23 u13 => ?_)
    show qAW l G m_X10_count (q_mq G q_cI) 11 [(0, .ref (q_ad G 0 0)), (1, .int x1)] [.int x23] u13 _
    exact aw_iret dX10_count_11 rfl
theorem dX10_finding_0 : decode cX10_finding 0 = .ok (.aload_n 0, 1) := by decide +kernel
theorem dX10_finding_1 : decode cX10_finding 1 = .ok (.getfield 460, 3) := by decide +kernel
theorem dX10_finding_4 : decode cX10_finding 4 = .ok (.ireturn, 1) := by decide +kernel
noncomputable def f_X10_finding  (u0 : qM) : Option (Int32 × qM) :=
  some (u0.1 0 0 16, u0)
set_option maxRecDepth 100000 in
set_option maxHeartbeats 4000000 in
theorem k_X10_finding (l : Launch) (G : qG)   (u0 : qM) : qCt l G m_X10_finding q_cI [.ref (q_ad G 0 0)] u0 (f_X10_finding  u0) := by
  refine q_entry pk_X10_finding (Nat.le_of_ble_eq_true rfl) ?_
  show qAW l G m_X10_finding (q_mq G q_cI) 0 [(0, .ref (q_ad G 0 0))] [] u0 (f_X10_finding  u0)
  unfold f_X10_finding
  refine aw_aload_n (i := 0) dX10_finding_0 1 rfl rfl 0 rfl ?_
  refine gf_X10_16 dX10_finding_1 4 rfl wd_123 (ok_0 (by decide)) ?_
  exact aw_iret dX10_finding_4 rfl
theorem dX10_findings_0 : decode cX10_findings 0 = .ok (.iload_n 1, 1) := by decide +kernel
theorem dX10_findings_1 : decode cX10_findings 1 = .ok (.iconst 1, 1) := by decide +kernel
theorem dX10_findings_2 : decode cX10_findings 2 = .ok (.iconst 5, 1) := by decide +kernel
theorem dX10_findings_3 : decode cX10_findings 3 = .ok (.invokestatic 101, 3) := by decide +kernel
theorem dX10_findings_6 : decode cX10_findings 6 = .ok (.ifCond .eq 12, 3) := by decide +kernel
theorem dX10_findings_9 : decode cX10_findings 9 = .ok (.aload_n 0, 1) := by decide +kernel
theorem dX10_findings_10 : decode cX10_findings 10 = .ok (.getfield 78, 3) := by decide +kernel
theorem dX10_findings_13 : decode cX10_findings 13 = .ok (.iload_n 1, 1) := by decide +kernel
theorem dX10_findings_14 : decode cX10_findings 14 = .ok (.iaload, 1) := by decide +kernel
theorem dX10_findings_15 : decode cX10_findings 15 = .ok (.goto 4, 3) := by decide +kernel
theorem dX10_findings_18 : decode cX10_findings 18 = .ok (.iconst (-1), 1) := by decide +kernel
theorem dX10_findings_19 : decode cX10_findings 19 = .ok (.ireturn, 1) := by decide +kernel
noncomputable def f_X10_findings (x1 : Int32) (u0 : qM) : Option (Int32 × qM) :=
  q_bd (f_X10_within x1 1 5 u0) (fun (x2 : Int32) (u1 : qM) => q_jn (fun (x3 : Int32) (u2 : qM) => some (x3, u2)) (fun j1 => if x2 = 0 then j1 (-1) u1 else q_ck (q_in x1 6) (j1 (u1.1 36 0 (Int32.toNatClampNeg x1)) u1)))
set_option maxRecDepth 100000 in
set_option maxHeartbeats 4000000 in
theorem k_X10_findings (l : Launch) (G : qG) (x1 : Int32)  (u0 : qM) : qCt l G m_X10_findings q_cI [.ref (q_ad G 0 0), .int x1] u0 (f_X10_findings x1 u0) := by
  refine q_entry pk_X10_findings (Nat.le_of_ble_eq_true rfl) ?_
  show qAW l G m_X10_findings (q_mq G q_cI) 0 [(0, .ref (q_ad G 0 0)), (1, .int x1)] [] u0 (f_X10_findings x1 u0)
  unfold f_X10_findings
  refine aw_iload_n (i := 1) dX10_findings_0 1 rfl rfl 1 rfl ?_
  refine aw_iconst (x := 1) dX10_findings_1 2 rfl rfl ?_
  refine aw_iconst (x := 5) dX10_findings_2 3 rfl rfl ?_
  refine aw_callS (M2 := m_X10_within) (cv := q_cI) dX10_findings_3 6 rfl (k_X10_within l G x1 1 5  u0) wd_131 wv_X10_within pk_X10_within rfl ⟨by decide, by decide⟩ ⟨Nat.zero_le _, Nat.zero_le _⟩ rfl (Nat.le_of_ble_eq_true rfl) (fun x2 u1 => ?_)
  show qAW l G m_X10_findings (q_mq G q_cI) 6 [(0, .ref (q_ad G 0 0)), (1, .int x1)] [.int x2] u1 _
  refine aw_jn (fun k => ∀ (x3 : Int32) (u2 : qM), qAW l G m_X10_findings (q_mq G q_cI) 19 [] [.int x3] u2 (k x3 u2)) ?_ ?_
  · intro x3 u2
    exact aw_iret dX10_findings_19 rfl
  · intro j1 hj1
    refine aw_if_eq dX10_findings_6 9 rfl 18 rfl (fun h1 => ?_) (fun h1 => ?_)
    · refine aw_iconst (x := (-1)) dX10_findings_18 19 rfl rfl ?_
      exact aw_conv [] rfl (hj1 (-1) u1)
    · refine aw_aload_n (i := 0) dX10_findings_9 10 rfl rfl 0 rfl ?_
      refine gf_X10_13 dX10_findings_10 13 rfl wd_124 (ok_0 (by decide)) ?_
      refine aw_iload_n (i := 1) dX10_findings_13 14 rfl rfl 1 rfl ?_
      refine aw_iald dX10_findings_14 15 rfl at_36 (al_36 _) (ok_36 (by decide)) (fun h2 => ?_)
      refine aw_goto dX10_findings_15 19 rfl ?_
      exact aw_conv [] rfl (hj1 (u1.1 36 0 (Int32.toNatClampNeg x1)) u1)
theorem dX10_digest_0 : decode cX10_digest 0 = .ok (.ldc2_w 463, 3) := by decide +kernel
theorem dX10_digest_3 : decode cX10_digest 3 = .ok (.lstore_n 1, 1) := by decide +kernel
theorem dX10_digest_4 : decode cX10_digest 4 = .ok (.iconst 0, 1) := by decide +kernel
theorem dX10_digest_5 : decode cX10_digest 5 = .ok (.istore_n 3, 1) := by decide +kernel
theorem dX10_digest_6 : decode cX10_digest 6 = .ok (.iload_n 3, 1) := by decide +kernel
theorem dX10_digest_7 : decode cX10_digest 7 = .ok (.bipush 6, 2) := by decide +kernel
theorem dX10_digest_9 : decode cX10_digest 9 = .ok (.if_icmp .ge 20, 3) := by decide +kernel
theorem dX10_digest_12 : decode cX10_digest 12 = .ok (.aload_n 0, 1) := by decide +kernel
theorem dX10_digest_13 : decode cX10_digest 13 = .ok (.getfield 30, 3) := by decide +kernel
theorem dX10_digest_16 : decode cX10_digest 16 = .ok (.iload_n 3, 1) := by decide +kernel
theorem dX10_digest_17 : decode cX10_digest 17 = .ok (.aaload, 1) := by decide +kernel
theorem dX10_digest_18 : decode cX10_digest 18 = .ok (.lload_n 1, 1) := by decide +kernel
theorem dX10_digest_19 : decode cX10_digest 19 = .ok (.invokevirtual 465, 3) := by decide +kernel
theorem dX10_digest_22 : decode cX10_digest 22 = .ok (.lstore_n 1, 1) := by decide +kernel
theorem dX10_digest_23 : decode cX10_digest 23 = .ok (.iinc 3 1, 3) := by decide +kernel
theorem dX10_digest_26 : decode cX10_digest 26 = .ok (.goto (-20), 3) := by decide +kernel
theorem dX10_digest_29 : decode cX10_digest 29 = .ok (.iconst 0, 1) := by decide +kernel
theorem dX10_digest_30 : decode cX10_digest 30 = .ok (.istore_n 3, 1) := by decide +kernel
theorem dX10_digest_31 : decode cX10_digest 31 = .ok (.iload_n 3, 1) := by decide +kernel
theorem dX10_digest_32 : decode cX10_digest 32 = .ok (.bipush 8, 2) := by decide +kernel
theorem dX10_digest_34 : decode cX10_digest 34 = .ok (.if_icmp .ge 20, 3) := by decide +kernel
theorem dX10_digest_37 : decode cX10_digest 37 = .ok (.aload_n 0, 1) := by decide +kernel
theorem dX10_digest_38 : decode cX10_digest 38 = .ok (.getfield 55, 3) := by decide +kernel
theorem dX10_digest_41 : decode cX10_digest 41 = .ok (.iload_n 3, 1) := by decide +kernel
theorem dX10_digest_42 : decode cX10_digest 42 = .ok (.aaload, 1) := by decide +kernel
theorem dX10_digest_43 : decode cX10_digest 43 = .ok (.lload_n 1, 1) := by decide +kernel
theorem dX10_digest_44 : decode cX10_digest 44 = .ok (.invokevirtual 469, 3) := by decide +kernel
theorem dX10_digest_47 : decode cX10_digest 47 = .ok (.lstore_n 1, 1) := by decide +kernel
theorem dX10_digest_48 : decode cX10_digest 48 = .ok (.iinc 3 1, 3) := by decide +kernel
theorem dX10_digest_51 : decode cX10_digest 51 = .ok (.goto (-20), 3) := by decide +kernel
theorem dX10_digest_54 : decode cX10_digest 54 = .ok (.iconst 0, 1) := by decide +kernel
theorem dX10_digest_55 : decode cX10_digest 55 = .ok (.istore_n 3, 1) := by decide +kernel
theorem dX10_digest_56 : decode cX10_digest 56 = .ok (.iload_n 3, 1) := by decide +kernel
theorem dX10_digest_57 : decode cX10_digest 57 = .ok (.bipush 8, 2) := by decide +kernel
theorem dX10_digest_59 : decode cX10_digest 59 = .ok (.if_icmp .ge 20, 3) := by decide +kernel
theorem dX10_digest_62 : decode cX10_digest 62 = .ok (.aload_n 0, 1) := by decide +kernel
theorem dX10_digest_63 : decode cX10_digest 63 = .ok (.getfield 61, 3) := by decide +kernel
theorem dX10_digest_66 : decode cX10_digest 66 = .ok (.iload_n 3, 1) := by decide +kernel
theorem dX10_digest_67 : decode cX10_digest 67 = .ok (.aaload, 1) := by decide +kernel
theorem dX10_digest_68 : decode cX10_digest 68 = .ok (.lload_n 1, 1) := by decide +kernel
theorem dX10_digest_69 : decode cX10_digest 69 = .ok (.invokevirtual 470, 3) := by decide +kernel
theorem dX10_digest_72 : decode cX10_digest 72 = .ok (.lstore_n 1, 1) := by decide +kernel
theorem dX10_digest_73 : decode cX10_digest 73 = .ok (.iinc 3 1, 3) := by decide +kernel
theorem dX10_digest_76 : decode cX10_digest 76 = .ok (.goto (-20), 3) := by decide +kernel
theorem dX10_digest_79 : decode cX10_digest 79 = .ok (.aload_n 0, 1) := by decide +kernel
theorem dX10_digest_80 : decode cX10_digest 80 = .ok (.getfield 18, 3) := by decide +kernel
theorem dX10_digest_83 : decode cX10_digest 83 = .ok (.aload_n 0, 1) := by decide +kernel
theorem dX10_digest_84 : decode cX10_digest 84 = .ok (.getfield 14, 3) := by decide +kernel
theorem dX10_digest_87 : decode cX10_digest 87 = .ok (.lload_n 1, 1) := by decide +kernel
theorem dX10_digest_88 : decode cX10_digest 88 = .ok (.invokevirtual 471, 3) := by decide +kernel
theorem dX10_digest_91 : decode cX10_digest 91 = .ok (.invokevirtual 471, 3) := by decide +kernel
theorem dX10_digest_94 : decode cX10_digest 94 = .ok (.lreturn, 1) := by decide +kernel
noncomputable def L_X10_digest_6  : Nat → Int64 → Int32 → qM → (Int64 → qM → Option (Int64 × qM)) → Option (Int64 × qM)
  | 0, _, _, _, _ => none
  | n + 1, w1, x1, u1, e1 => if 6 ≤ x1 then e1 w1 u1 else q_ck (q_in x1 6) (q_bd (f_X0_digested (Int32.toNatClampNeg x1) w1 u1) (fun (w2 : Int64) (u2 : qM) => q_lt (x1 + 1) (fun (x2 : Int32) => L_X10_digest_6 n w2 x2 u2 e1)))
noncomputable def L_X10_digest_31  : Nat → Int64 → Int32 → qM → (Int64 → qM → Option (Int64 × qM)) → Option (Int64 × qM)
  | 0, _, _, _, _ => none
  | n + 1, w4, x3, u4, e1 => if 8 ≤ x3 then e1 w4 u4 else q_ck (q_in x3 8) (q_bd (f_X1_digested (Int32.toNatClampNeg x3) w4 u4) (fun (w5 : Int64) (u5 : qM) => q_lt (x3 + 1) (fun (x4 : Int32) => L_X10_digest_31 n w5 x4 u5 e1)))
noncomputable def L_X10_digest_56  : Nat → Int64 → Int32 → qM → (Int64 → qM → Option (Int64 × qM)) → Option (Int64 × qM)
  | 0, _, _, _, _ => none
  | n + 1, w7, x5, u7, e1 => if 8 ≤ x5 then e1 w7 u7 else q_ck (q_in x5 8) (q_bd (f_X2_digested (Int32.toNatClampNeg x5) w7 u7) (fun (w8 : Int64) (u8 : qM) => q_lt (x5 + 1) (fun (x6 : Int32) => L_X10_digest_56 n w8 x6 u8 e1)))
noncomputable def f_X10_digest  (u0 : qM) : Option (Int64 × qM) :=
  L_X10_digest_6 q_fu 17 0 u0 (fun w3 u3 => L_X10_digest_31 q_fu w3 0 u3 (fun w6 u6 => L_X10_digest_56 q_fu w6 0 u6 (fun w9 u9 => q_bd (f_X7_digested 0 w9 u9) (fun (w10 : Int64) (u10 : qM) => q_bd (f_X7_digested 1 w10 u10) (fun (w11 : Int64) (u11 : qM) => some (w11, u11))))))
set_option maxRecDepth 100000 in
set_option maxHeartbeats 4000000 in
theorem TL_X10_digest_6 (l : Launch) (G : qG)   (e1 : Int64 → qM → Option (Int64 × qM)) (he1 : ∀ (y1 : Int64) (v : qM), qAW l G m_X10_digest (q_mq G q_cL) 29 [(0, .ref (q_ad G 0 0)), (1, .long y1)] [] v (e1 y1 v)) : ∀ (n : Nat) (w1 : Int64) (x1 : Int32) (u1 : qM), qAW l G m_X10_digest (q_mq G q_cL) 6 [(0, .ref (q_ad G 0 0)), (1, .long w1), (3, .int x1)] [] u1 (L_X10_digest_6 n w1 x1 u1 e1) := by
  intro n
  induction n with
  | zero => intros; exact aw_none
  | succ n ih =>
    intro w1 x1 u1
    unfold L_X10_digest_6
    refine aw_iload_n (i := 3) dX10_digest_6 7 rfl rfl 2 rfl ?_
    refine aw_bipush (x := 6) dX10_digest_7 9 rfl rfl ?_
    refine aw_icmp_ge dX10_digest_9 12 rfl 29 rfl (fun h1 => ?_) (fun h1 => ?_)
    · exact aw_conv [0, 1] rfl (he1 w1 u1)
    · refine aw_aload_n (i := 0) dX10_digest_12 13 rfl rfl 0 rfl ?_
      refine gf_X10_4 dX10_digest_13 16 rfl wd_145 (ok_0 (by decide)) ?_
      refine aw_iload_n (i := 3) dX10_digest_16 17 rfl rfl 2 rfl ?_
      refine aw_aald dX10_digest_17 18 rfl at_21 (by decide) (by decide) rfl rfl (al_21 _) (ok_21 (by decide)) rfl (fun h2 => ?_)
      refine aw_lload_n (i := 1) dX10_digest_18 19 rfl rfl 1 rfl ?_
      refine aw_callV (M2 := m_X0_digested) (cv := q_cL) dX10_digest_19 22 rfl (k_X0_digested l G (Int32.toNatClampNeg x1) w1 (Nat.lt_of_lt_of_le (q_in_lt h2) (by decide)) u1) wd_217 wv_X0_digested pk_X0_digested rfl rfl ⟨by decide, by decide⟩ ⟨Nat.zero_le _, Nat.zero_le _⟩ at_2 (ok_2 (Nat.lt_of_lt_of_le (q_in_lt h2) (by decide))) rfl rfl rfl (Nat.le_of_ble_eq_true rfl) (fun w2 u2 => ?_)
      show qAW l G m_X10_digest (q_mq G q_cL) 22 [(0, .ref (q_ad G 0 0)), (1, .long w1), (3, .int x1)] [.long w2] u2 _
      refine aw_lstore_n dX10_digest_22 23 rfl rfl [(1, .long w2), (0, .ref (q_ad G 0 0)), (3, .int x1)] (by decide) rfl ?_
      refine aw_iincx (i := 3) dX10_digest_23 26 rfl 2 rfl 1 rfl (fun x2 => [(3, .int x2), (1, .long w2), (0, .ref (q_ad G 0 0))]) (by decide) (fun _ => rfl) (fun x2 => ?_)
      refine aw_goto dX10_digest_26 6 rfl ?_
      exact aw_conv [2, 1, 0] rfl (ih w2 x2 u2)
set_option maxRecDepth 100000 in
set_option maxHeartbeats 4000000 in
theorem TL_X10_digest_31 (l : Launch) (G : qG)   (e1 : Int64 → qM → Option (Int64 × qM)) (he1 : ∀ (y1 : Int64) (v : qM), qAW l G m_X10_digest (q_mq G q_cL) 54 [(0, .ref (q_ad G 0 0)), (1, .long y1)] [] v (e1 y1 v)) : ∀ (n : Nat) (w4 : Int64) (x3 : Int32) (u4 : qM), qAW l G m_X10_digest (q_mq G q_cL) 31 [(0, .ref (q_ad G 0 0)), (1, .long w4), (3, .int x3)] [] u4 (L_X10_digest_31 n w4 x3 u4 e1) := by
  intro n
  induction n with
  | zero => intros; exact aw_none
  | succ n ih =>
    intro w4 x3 u4
    unfold L_X10_digest_31
    refine aw_iload_n (i := 3) dX10_digest_31 32 rfl rfl 2 rfl ?_
    refine aw_bipush (x := 8) dX10_digest_32 34 rfl rfl ?_
    refine aw_icmp_ge dX10_digest_34 37 rfl 54 rfl (fun h3 => ?_) (fun h3 => ?_)
    · exact aw_conv [0, 1] rfl (he1 w4 u4)
    · refine aw_aload_n (i := 0) dX10_digest_37 38 rfl rfl 0 rfl ?_
      refine gf_X10_8 dX10_digest_38 41 rfl wd_147 (ok_0 (by decide)) ?_
      refine aw_iload_n (i := 3) dX10_digest_41 42 rfl rfl 2 rfl ?_
      refine aw_aald dX10_digest_42 43 rfl at_22 (by decide) (by decide) rfl rfl (al_22 _) (ok_22 (by decide)) rfl (fun h4 => ?_)
      refine aw_lload_n (i := 1) dX10_digest_43 44 rfl rfl 1 rfl ?_
      refine aw_callV (M2 := m_X1_digested) (cv := q_cL) dX10_digest_44 47 rfl (k_X1_digested l G (Int32.toNatClampNeg x3) w4 (q_in_lt h4) u4) wd_218 wv_X1_digested pk_X1_digested rfl rfl ⟨by decide, by decide⟩ ⟨Nat.zero_le _, Nat.zero_le _⟩ at_8 (ok_8 (q_in_lt h4)) rfl rfl rfl (Nat.le_of_ble_eq_true rfl) (fun w5 u5 => ?_)
      show qAW l G m_X10_digest (q_mq G q_cL) 47 [(0, .ref (q_ad G 0 0)), (1, .long w4), (3, .int x3)] [.long w5] u5 _
      refine aw_lstore_n dX10_digest_47 48 rfl rfl [(1, .long w5), (0, .ref (q_ad G 0 0)), (3, .int x3)] (by decide) rfl ?_
      refine aw_iincx (i := 3) dX10_digest_48 51 rfl 2 rfl 1 rfl (fun x4 => [(3, .int x4), (1, .long w5), (0, .ref (q_ad G 0 0))]) (by decide) (fun _ => rfl) (fun x4 => ?_)
      refine aw_goto dX10_digest_51 31 rfl ?_
      exact aw_conv [2, 1, 0] rfl (ih w5 x4 u5)
set_option maxRecDepth 100000 in
set_option maxHeartbeats 4000000 in
theorem TL_X10_digest_56 (l : Launch) (G : qG)   (e1 : Int64 → qM → Option (Int64 × qM)) (he1 : ∀ (y1 : Int64) (v : qM), qAW l G m_X10_digest (q_mq G q_cL) 79 [(0, .ref (q_ad G 0 0)), (1, .long y1)] [] v (e1 y1 v)) : ∀ (n : Nat) (w7 : Int64) (x5 : Int32) (u7 : qM), qAW l G m_X10_digest (q_mq G q_cL) 56 [(0, .ref (q_ad G 0 0)), (1, .long w7), (3, .int x5)] [] u7 (L_X10_digest_56 n w7 x5 u7 e1) := by
  intro n
  induction n with
  | zero => intros; exact aw_none
  | succ n ih =>
    intro w7 x5 u7
    unfold L_X10_digest_56
    refine aw_iload_n (i := 3) dX10_digest_56 57 rfl rfl 2 rfl ?_
    refine aw_bipush (x := 8) dX10_digest_57 59 rfl rfl ?_
    refine aw_icmp_ge dX10_digest_59 62 rfl 79 rfl (fun h5 => ?_) (fun h5 => ?_)
    · exact aw_conv [0, 1] rfl (he1 w7 u7)
    · refine aw_aload_n (i := 0) dX10_digest_62 63 rfl rfl 0 rfl ?_
      refine gf_X10_9 dX10_digest_63 66 rfl wd_148 (ok_0 (by decide)) ?_
      refine aw_iload_n (i := 3) dX10_digest_66 67 rfl rfl 2 rfl ?_
      refine aw_aald dX10_digest_67 68 rfl at_23 (by decide) (by decide) rfl rfl (al_23 _) (ok_23 (by decide)) rfl (fun h6 => ?_)
      refine aw_lload_n (i := 1) dX10_digest_68 69 rfl rfl 1 rfl ?_
      refine aw_callV (M2 := m_X2_digested) (cv := q_cL) dX10_digest_69 72 rfl (k_X2_digested l G (Int32.toNatClampNeg x5) w7 (q_in_lt h6) u7) wd_219 wv_X2_digested pk_X2_digested rfl rfl ⟨by decide, by decide⟩ ⟨Nat.zero_le _, Nat.zero_le _⟩ at_9 (ok_9 (q_in_lt h6)) rfl rfl rfl (Nat.le_of_ble_eq_true rfl) (fun w8 u8 => ?_)
      show qAW l G m_X10_digest (q_mq G q_cL) 72 [(0, .ref (q_ad G 0 0)), (1, .long w7), (3, .int x5)] [.long w8] u8 _
      refine aw_lstore_n dX10_digest_72 73 rfl rfl [(1, .long w8), (0, .ref (q_ad G 0 0)), (3, .int x5)] (by decide) rfl ?_
      refine aw_iincx (i := 3) dX10_digest_73 76 rfl 2 rfl 1 rfl (fun x6 => [(3, .int x6), (1, .long w8), (0, .ref (q_ad G 0 0))]) (by decide) (fun _ => rfl) (fun x6 => ?_)
      refine aw_goto dX10_digest_76 56 rfl ?_
      exact aw_conv [2, 1, 0] rfl (ih w8 x6 u8)
set_option maxRecDepth 100000 in
set_option maxHeartbeats 4000000 in
theorem k_X10_digest (l : Launch) (G : qG)   (u0 : qM) : qCt l G m_X10_digest q_cL [.ref (q_ad G 0 0)] u0 (f_X10_digest  u0) := by
  refine q_entry pk_X10_digest (Nat.le_of_ble_eq_true rfl) ?_
  show qAW l G m_X10_digest (q_mq G q_cL) 0 [(0, .ref (q_ad G 0 0))] [] u0 (f_X10_digest  u0)
  unfold f_X10_digest
  refine aw_ldc2 (x := 17) dX10_digest_0 3 rfl wd_216 ?_
  refine aw_lstore_n dX10_digest_3 4 rfl rfl [(1, .long 17), (0, .ref (q_ad G 0 0))] (by decide) rfl ?_
  refine aw_iconst (x := 0) dX10_digest_4 5 rfl rfl ?_
  refine aw_istore_n dX10_digest_5 6 rfl rfl [(3, .int 0), (1, .long 17), (0, .ref (q_ad G 0 0))] (by decide) rfl ?_
  refine aw_conv [2, 1, 0] rfl (TL_X10_digest_6 l G   _ ?_ _ 17 0 u0)
  · intro w3 u3
    refine aw_iconst (x := 0) dX10_digest_29 30 rfl rfl ?_
    refine aw_istore_n dX10_digest_30 31 rfl rfl [(3, .int 0), (0, .ref (q_ad G 0 0)), (1, .long w3)] (by decide) rfl ?_
    refine aw_conv [1, 2, 0] rfl (TL_X10_digest_31 l G   _ ?_ _ w3 0 u3)
    · intro w6 u6
      refine aw_iconst (x := 0) dX10_digest_54 55 rfl rfl ?_
      refine aw_istore_n dX10_digest_55 56 rfl rfl [(3, .int 0), (0, .ref (q_ad G 0 0)), (1, .long w6)] (by decide) rfl ?_
      refine aw_conv [1, 2, 0] rfl (TL_X10_digest_56 l G   _ ?_ _ w6 0 u6)
      · intro w9 u9
        refine aw_aload_n (i := 0) dX10_digest_79 80 rfl rfl 0 rfl ?_
        refine gf_X10_1 dX10_digest_80 83 rfl wd_140 (ok_0 (by decide)) ?_
        refine aw_aload_n (i := 0) dX10_digest_83 84 rfl rfl 0 rfl ?_
        refine gf_X10_0 dX10_digest_84 87 rfl wd_125 (ok_0 (by decide)) ?_
        refine aw_lload_n (i := 1) dX10_digest_87 88 rfl rfl 1 rfl ?_
        refine aw_callV (M2 := m_X7_digested) (cv := q_cL) dX10_digest_88 91 rfl (k_X7_digested l G 0 w9 (by decide) u9) wd_220 wv_X7_digested pk_X7_digested rfl rfl ⟨by decide, by decide⟩ ⟨Nat.zero_le _, Nat.zero_le _⟩ at_1 (ok_1 (by decide)) rfl rfl rfl (Nat.le_of_ble_eq_true rfl) (fun w10 u10 => ?_)
        show qAW l G m_X10_digest (q_mq G q_cL) 91 [(0, .ref (q_ad G 0 0)), (1, .long w9)] [.long w10, .ref (q_ad G 1 1)] u10 _
        refine aw_callV (M2 := m_X7_digested) (cv := q_cL) dX10_digest_91 94 rfl (k_X7_digested l G 1 w10 (by decide) u10) wd_220 wv_X7_digested pk_X7_digested rfl rfl ⟨by decide, by decide⟩ ⟨Nat.zero_le _, Nat.zero_le _⟩ at_1 (ok_1 (by decide)) rfl rfl rfl (Nat.le_of_ble_eq_true rfl) (fun w11 u11 => ?_)
        show qAW l G m_X10_digest (q_mq G q_cL) 94 [(0, .ref (q_ad G 0 0)), (1, .long w9)] [.long w11] u11 _
        exact aw_lret dX10_digest_94 rfl
theorem dX11_in_0 : decode cX11_in 0 = .ok (.iload_n 0, 1) := by decide +kernel
theorem dX11_in_1 : decode cX11_in 1 = .ok (.iload_n 1, 1) := by decide +kernel
theorem dX11_in_2 : decode cX11_in 2 = .ok (.if_icmp .lt 12, 3) := by decide +kernel
theorem dX11_in_5 : decode cX11_in 5 = .ok (.iload_n 0, 1) := by decide +kernel
theorem dX11_in_6 : decode cX11_in 6 = .ok (.iload_n 2, 1) := by decide +kernel
theorem dX11_in_7 : decode cX11_in 7 = .ok (.if_icmp .gt 7, 3) := by decide +kernel
theorem dX11_in_10 : decode cX11_in 10 = .ok (.iconst 1, 1) := by decide +kernel
theorem dX11_in_11 : decode cX11_in 11 = .ok (.goto 4, 3) := by decide +kernel
theorem dX11_in_14 : decode cX11_in 14 = .ok (.iconst 0, 1) := by decide +kernel
theorem dX11_in_15 : decode cX11_in 15 = .ok (.ireturn, 1) := by decide +kernel
noncomputable def f_X11_in (x1 : Int32) (x2 : Int32) (x3 : Int32) (u0 : qM) : Option (Int32 × qM) :=
  q_jn (fun (x4 : Int32) (u1 : qM) => q_ck (q_b x4) (some (x4, u1))) (fun j1 => q_jn (fun  (u2 : qM) => j1 0 u2) (fun j2 => if x1 < x2 then j2 u0 else if x3 < x1 then j2 u0 else j1 1 u0))
set_option maxRecDepth 100000 in
set_option maxHeartbeats 4000000 in
theorem k_X11_in (l : Launch) (G : qG) (x1 : Int32) (x2 : Int32) (x3 : Int32)  (u0 : qM) : qCt l G m_X11_in q_cI [.int x1, .int x2, .int x3] u0 (f_X11_in x1 x2 x3 u0) := by
  refine q_entry pk_X11_in (Nat.le_of_ble_eq_true rfl) ?_
  show qAW l G m_X11_in (q_mq G q_cI) 0 [(0, .int x1), (1, .int x2), (2, .int x3)] [] u0 (f_X11_in x1 x2 x3 u0)
  unfold f_X11_in
  refine aw_iload_n (i := 0) dX11_in_0 1 rfl rfl 0 rfl ?_
  refine aw_iload_n (i := 1) dX11_in_1 2 rfl rfl 1 rfl ?_
  refine aw_jn (fun k => ∀ (x4 : Int32) (u1 : qM), qAW l G m_X11_in (q_mq G q_cI) 15 [] [.int x4] u1 (k x4 u1)) ?_ ?_
  · intro x4 u1
    refine aw_ck (fun h2 => ?_)
    exact aw_zret dX11_in_15 rfl h2
  · intro j1 hj1
    refine aw_jn (fun k => ∀  (u2 : qM), qAW l G m_X11_in (q_mq G q_cI) 14 [] [] u2 (k u2)) ?_ ?_
    · intro u2
      refine aw_iconst (x := 0) dX11_in_14 15 rfl rfl ?_
      exact hj1 0 u2
    · intro j2 hj2
      refine aw_icmp_lt dX11_in_2 5 rfl 14 rfl (fun h1 => ?_) (fun h1 => ?_)
      · exact aw_conv [] rfl (hj2 u0)
      · refine aw_iload_n (i := 0) dX11_in_5 6 rfl rfl 0 rfl ?_
        refine aw_iload_n (i := 2) dX11_in_6 7 rfl rfl 2 rfl ?_
        refine aw_icmp_gt dX11_in_7 10 rfl 14 rfl (fun h3 => ?_) (fun h3 => ?_)
        · exact aw_conv [] rfl (hj2 u0)
        · refine aw_iconst (x := 1) dX11_in_10 11 rfl rfl ?_
          refine aw_goto dX11_in_11 15 rfl ?_
          exact aw_conv [] rfl (hj1 1 u0)
theorem dX11_meets_0 : decode cX11_meets 0 = .ok (.aload_n 0, 1) := by decide +kernel
theorem dX11_meets_1 : decode cX11_meets 1 = .ok (.iload_n 1, 1) := by decide +kernel
theorem dX11_meets_2 : decode cX11_meets 2 = .ok (.putfield 172, 3) := by decide +kernel
theorem dX11_meets_5 : decode cX11_meets 5 = .ok (.aload_n 0, 1) := by decide +kernel
theorem dX11_meets_6 : decode cX11_meets 6 = .ok (.getfield 7, 3) := by decide +kernel
theorem dX11_meets_9 : decode cX11_meets 9 = .ok (.iload_n 1, 1) := by decide +kernel
theorem dX11_meets_10 : decode cX11_meets 10 = .ok (.dup2, 1) := by decide +kernel
theorem dX11_meets_11 : decode cX11_meets 11 = .ok (.iaload, 1) := by decide +kernel
theorem dX11_meets_12 : decode cX11_meets 12 = .ok (.iconst 1, 1) := by decide +kernel
theorem dX11_meets_13 : decode cX11_meets 13 = .ok (.iadd, 1) := by decide +kernel
theorem dX11_meets_14 : decode cX11_meets 14 = .ok (.iastore, 1) := by decide +kernel
theorem dX11_meets_15 : decode cX11_meets 15 = .ok (.bipush (-3), 2) := by decide +kernel
theorem dX11_meets_17 : decode cX11_meets 17 = .ok (.ireturn, 1) := by decide +kernel
noncomputable def f_X11_meets (x1 : Int32) (u0 : qM) : Option (Int32 × qM) :=
  q_lt (q_si u0 11 0 0 x1) (fun (u1 : qM) => q_ck (q_in x1 6) (q_ck (q_in x1 6) (q_lt (q_si u1 61 0 (Int32.toNatClampNeg x1) ((u1.1 61 0 (Int32.toNatClampNeg x1)) + 1)) (fun (u2 : qM) => some ((-3), u2)))))
set_option maxRecDepth 100000 in
set_option maxHeartbeats 4000000 in
theorem k_X11_meets (l : Launch) (G : qG) (x1 : Int32)  (u0 : qM) : qCt l G m_X11_meets q_cI [.ref (q_ad G 11 0), .int x1] u0 (f_X11_meets x1 u0) := by
  refine q_entry pk_X11_meets (Nat.le_of_ble_eq_true rfl) ?_
  show qAW l G m_X11_meets (q_mq G q_cI) 0 [(0, .ref (q_ad G 11 0)), (1, .int x1)] [] u0 (f_X11_meets x1 u0)
  unfold f_X11_meets
  refine aw_aload_n (i := 0) dX11_meets_0 1 rfl rfl 0 rfl ?_
  refine aw_iload_n (i := 1) dX11_meets_1 2 rfl rfl 1 rfl ?_
  refine pf_X11_0 dX11_meets_2 5 rfl wd_221 (ok_11 (by decide)) ?_
  refine aw_ltm (fun u1 => ?_)
  refine aw_aload_n (i := 0) dX11_meets_5 6 rfl rfl 0 rfl ?_
  refine gf_X11_1 dX11_meets_6 9 rfl wd_222 (ok_11 (by decide)) ?_
  refine aw_iload_n (i := 1) dX11_meets_9 10 rfl rfl 1 rfl ?_
  refine aw_dup2 dX11_meets_10 11 rfl rfl rfl ?_
  refine aw_iald dX11_meets_11 12 rfl at_61 (al_61 _) (ok_61 (by decide)) (fun h1 => ?_)
  refine aw_iconst (x := 1) dX11_meets_12 13 rfl rfl ?_
  refine aw_iadd dX11_meets_13 14 rfl ?_
  refine aw_iast dX11_meets_14 15 rfl at_61 (al_61 _) (ok_61 (by decide)) (fun h2 => ?_)
  refine aw_ltm (fun u2 => ?_)
  refine aw_bipush (x := (-3)) dX11_meets_15 17 rfl rfl ?_
  exact aw_iret dX11_meets_17 rfl
theorem dX11_ask_0 : decode cX11_ask 0 = .ok (.aload_n 0, 1) := by decide +kernel
theorem dX11_ask_1 : decode cX11_ask 1 = .ok (.iload_n 1, 1) := by decide +kernel
theorem dX11_ask_2 : decode cX11_ask 2 = .ok (.putfield 176, 3) := by decide +kernel
theorem dX11_ask_5 : decode cX11_ask 5 = .ok (.iload_n 2, 1) := by decide +kernel
theorem dX11_ask_6 : decode cX11_ask 6 = .ok (.ireturn, 1) := by decide +kernel
noncomputable def f_X11_ask (x1 : Int32) (x2 : Int32) (u0 : qM) : Option (Int32 × qM) :=
  q_lt (q_si u0 11 0 2 x1) (fun (u1 : qM) => some (x2, u1))
set_option maxRecDepth 100000 in
set_option maxHeartbeats 4000000 in
theorem k_X11_ask (l : Launch) (G : qG) (x1 : Int32) (x2 : Int32)  (u0 : qM) : qCt l G m_X11_ask q_cI [.ref (q_ad G 11 0), .int x1, .int x2] u0 (f_X11_ask x1 x2 u0) := by
  refine q_entry pk_X11_ask (Nat.le_of_ble_eq_true rfl) ?_
  show qAW l G m_X11_ask (q_mq G q_cI) 0 [(0, .ref (q_ad G 11 0)), (1, .int x1), (2, .int x2)] [] u0 (f_X11_ask x1 x2 u0)
  unfold f_X11_ask
  refine aw_aload_n (i := 0) dX11_ask_0 1 rfl rfl 0 rfl ?_
  refine aw_iload_n (i := 1) dX11_ask_1 2 rfl rfl 1 rfl ?_
  refine pf_X11_2 dX11_ask_2 5 rfl wd_223 (ok_11 (by decide)) ?_
  refine aw_ltm (fun u1 => ?_)
  refine aw_iload_n (i := 2) dX11_ask_5 6 rfl rfl 2 rfl ?_
  exact aw_iret dX11_ask_6 rfl
theorem dX11_tell_0 : decode cX11_tell 0 = .ok (.lload_n 1, 1) := by decide +kernel
theorem dX11_tell_1 : decode cX11_tell 1 = .ok (.lstore 6, 2) := by decide +kernel
theorem dX11_tell_3 : decode cX11_tell 3 = .ok (.lload_n 3, 1) := by decide +kernel
theorem dX11_tell_4 : decode cX11_tell 4 = .ok (.lstore 8, 2) := by decide +kernel
theorem dX11_tell_6 : decode cX11_tell 6 = .ok (.lload 8, 2) := by decide +kernel
theorem dX11_tell_8 : decode cX11_tell 8 = .ok (.lconst 0, 1) := by decide +kernel
theorem dX11_tell_9 : decode cX11_tell 9 = .ok (.lcmp, 1) := by decide +kernel
theorem dX11_tell_10 : decode cX11_tell 10 = .ok (.ifCond .eq 21, 3) := by decide +kernel
theorem dX11_tell_13 : decode cX11_tell 13 = .ok (.lload 6, 2) := by decide +kernel
theorem dX11_tell_15 : decode cX11_tell 15 = .ok (.lload 8, 2) := by decide +kernel
theorem dX11_tell_17 : decode cX11_tell 17 = .ok (.lrem, 1) := by decide +kernel
theorem dX11_tell_18 : decode cX11_tell 18 = .ok (.lstore 10, 2) := by decide +kernel
theorem dX11_tell_20 : decode cX11_tell 20 = .ok (.lload 8, 2) := by decide +kernel
theorem dX11_tell_22 : decode cX11_tell 22 = .ok (.lstore 6, 2) := by decide +kernel
theorem dX11_tell_24 : decode cX11_tell 24 = .ok (.lload 10, 2) := by decide +kernel
theorem dX11_tell_26 : decode cX11_tell 26 = .ok (.lstore 8, 2) := by decide +kernel
theorem dX11_tell_28 : decode cX11_tell 28 = .ok (.goto (-22), 3) := by decide +kernel
theorem dX11_tell_31 : decode cX11_tell 31 = .ok (.aload_n 0, 1) := by decide +kernel
theorem dX11_tell_32 : decode cX11_tell 32 = .ok (.lload_n 1, 1) := by decide +kernel
theorem dX11_tell_33 : decode cX11_tell 33 = .ok (.lload 6, 2) := by decide +kernel
theorem dX11_tell_35 : decode cX11_tell 35 = .ok (.ldiv, 1) := by decide +kernel
theorem dX11_tell_36 : decode cX11_tell 36 = .ok (.putfield 179, 3) := by decide +kernel
theorem dX11_tell_39 : decode cX11_tell 39 = .ok (.aload_n 0, 1) := by decide +kernel
theorem dX11_tell_40 : decode cX11_tell 40 = .ok (.lload_n 3, 1) := by decide +kernel
theorem dX11_tell_41 : decode cX11_tell 41 = .ok (.lload 6, 2) := by decide +kernel
theorem dX11_tell_43 : decode cX11_tell 43 = .ok (.ldiv, 1) := by decide +kernel
theorem dX11_tell_44 : decode cX11_tell 44 = .ok (.putfield 13, 3) := by decide +kernel
theorem dX11_tell_47 : decode cX11_tell 47 = .ok (.iload 5, 2) := by decide +kernel
theorem dX11_tell_49 : decode cX11_tell 49 = .ok (.ireturn, 1) := by decide +kernel
noncomputable def L_X11_tell_6 (w1 : Int64) (w2 : Int64) (x1 : Int32) : Nat → Int64 → Int64 → qM → (Int64 → qM → Option (Int32 × qM)) → Option (Int32 × qM)
  | 0, _, _, _, _ => none
  | n + 1, w3, w4, u1, e1 => if (lg_cmp w4 0) = 0 then e1 w3 u1 else q_ck (q_nzl w4) (q_lt (w3 - w3 / w4 * w4) (fun (w5 : Int64) => L_X11_tell_6 w1 w2 x1 n w4 w5 u1 e1))
noncomputable def f_X11_tell (w1 : Int64) (w2 : Int64) (x1 : Int32) (u0 : qM) : Option (Int32 × qM) :=
  L_X11_tell_6 w1 w2 x1 q_fu w1 w2 u0 (fun w6 u2 => q_ck (q_nzl w6) (q_lt (q_sl u2 11 0 4 (w1 / w6)) (fun (u3 : qM) => q_ck (q_nzl w6) (q_lt (q_sl u3 11 0 5 (w2 / w6)) (fun (u4 : qM) => some (x1, u4))))))
set_option maxRecDepth 100000 in
set_option maxHeartbeats 4000000 in
theorem TL_X11_tell_6 (l : Launch) (G : qG) (w1 : Int64) (w2 : Int64) (x1 : Int32)  (e1 : Int64 → qM → Option (Int32 × qM)) (he1 : ∀ (y1 : Int64) (v : qM), qAW l G m_X11_tell (q_mq G q_cI) 31 [(0, .ref (q_ad G 11 0)), (1, .long w1), (3, .long w2), (5, .int x1), (6, .long y1)] [] v (e1 y1 v)) : ∀ (n : Nat) (w3 : Int64) (w4 : Int64) (u1 : qM), qAW l G m_X11_tell (q_mq G q_cI) 6 [(0, .ref (q_ad G 11 0)), (1, .long w1), (3, .long w2), (5, .int x1), (6, .long w3), (8, .long w4)] [] u1 (L_X11_tell_6 w1 w2 x1 n w3 w4 u1 e1) := by
  intro n
  induction n with
  | zero => intros; exact aw_none
  | succ n ih =>
    intro w3 w4 u1
    unfold L_X11_tell_6
    refine aw_lload (i := 8) dX11_tell_6 8 rfl 5 rfl ?_
    refine aw_lconst (x := 0) dX11_tell_8 9 rfl rfl ?_
    refine aw_lcmp dX11_tell_9 10 rfl ?_
    refine aw_if_eq dX11_tell_10 13 rfl 31 rfl (fun h1 => ?_) (fun h1 => ?_)
    · exact aw_conv [0, 1, 2, 3, 4] rfl (he1 w3 u1)
    · refine aw_lload (i := 6) dX11_tell_13 15 rfl 4 rfl ?_
      refine aw_lload (i := 8) dX11_tell_15 17 rfl 5 rfl ?_
      refine aw_ck (fun h2 => ?_)
      refine aw_lrem dX11_tell_17 18 rfl (of_decide_eq_true h2) ?_
      refine aw_ltl (fun w5 => ?_)
      refine aw_lstore dX11_tell_18 20 rfl [(10, .long w5), (0, .ref (q_ad G 11 0)), (1, .long w1), (3, .long w2), (5, .int x1), (6, .long w3), (8, .long w4)] (by decide) rfl ?_
      refine aw_lload (i := 8) dX11_tell_20 22 rfl 6 rfl ?_
      refine aw_lstore dX11_tell_22 24 rfl [(6, .long w4), (10, .long w5), (0, .ref (q_ad G 11 0)), (1, .long w1), (3, .long w2), (5, .int x1), (8, .long w4)] (by decide) rfl ?_
      refine aw_lload (i := 10) dX11_tell_24 26 rfl 1 rfl ?_
      refine aw_lstore dX11_tell_26 28 rfl [(8, .long w5), (6, .long w4), (10, .long w5), (0, .ref (q_ad G 11 0)), (1, .long w1), (3, .long w2), (5, .int x1)] (by decide) rfl ?_
      refine aw_goto dX11_tell_28 6 rfl ?_
      exact aw_conv [3, 4, 5, 6, 1, 0] rfl (ih w4 w5 u1)
set_option maxRecDepth 100000 in
set_option maxHeartbeats 4000000 in
theorem k_X11_tell (l : Launch) (G : qG) (w1 : Int64) (w2 : Int64) (x1 : Int32)  (u0 : qM) : qCt l G m_X11_tell q_cI [.ref (q_ad G 11 0), .long w1, .long w2, .int x1] u0 (f_X11_tell w1 w2 x1 u0) := by
  refine q_entry pk_X11_tell (Nat.le_of_ble_eq_true rfl) ?_
  show qAW l G m_X11_tell (q_mq G q_cI) 0 [(0, .ref (q_ad G 11 0)), (1, .long w1), (3, .long w2), (5, .int x1)] [] u0 (f_X11_tell w1 w2 x1 u0)
  unfold f_X11_tell
  refine aw_lload_n (i := 1) dX11_tell_0 1 rfl rfl 1 rfl ?_
  refine aw_lstore dX11_tell_1 3 rfl [(6, .long w1), (0, .ref (q_ad G 11 0)), (1, .long w1), (3, .long w2), (5, .int x1)] (by decide) rfl ?_
  refine aw_lload_n (i := 3) dX11_tell_3 4 rfl rfl 3 rfl ?_
  refine aw_lstore dX11_tell_4 6 rfl [(8, .long w2), (6, .long w1), (0, .ref (q_ad G 11 0)), (1, .long w1), (3, .long w2), (5, .int x1)] (by decide) rfl ?_
  refine aw_conv [2, 3, 4, 5, 1, 0] rfl (TL_X11_tell_6 l G w1 w2 x1  _ ?_ _ w1 w2 u0)
  · intro w6 u2
    refine aw_aload_n (i := 0) dX11_tell_31 32 rfl rfl 0 rfl ?_
    refine aw_lload_n (i := 1) dX11_tell_32 33 rfl rfl 1 rfl ?_
    refine aw_lload (i := 6) dX11_tell_33 35 rfl 4 rfl ?_
    refine aw_ck (fun h3 => ?_)
    refine aw_ldiv dX11_tell_35 36 rfl (of_decide_eq_true h3) ?_
    refine pf_X11_4 dX11_tell_36 39 rfl wd_224 (ok_11 (by decide)) ?_
    refine aw_ltm (fun u3 => ?_)
    refine aw_aload_n (i := 0) dX11_tell_39 40 rfl rfl 0 rfl ?_
    refine aw_lload_n (i := 3) dX11_tell_40 41 rfl rfl 2 rfl ?_
    refine aw_lload (i := 6) dX11_tell_41 43 rfl 4 rfl ?_
    refine aw_ck (fun h4 => ?_)
    refine aw_ldiv dX11_tell_43 44 rfl (of_decide_eq_true h4) ?_
    refine pf_X11_5 dX11_tell_44 47 rfl wd_225 (ok_11 (by decide)) ?_
    refine aw_ltm (fun u4 => ?_)
    refine aw_iload (i := 5) dX11_tell_47 49 rfl 3 rfl ?_
    exact aw_iret dX11_tell_49 rfl
theorem dX11_isSix_0 : decode cX11_isSix 0 = .ok (.iload_n 0, 1) := by decide +kernel
theorem dX11_isSix_1 : decode cX11_isSix 1 = .ok (.iconst 0, 1) := by decide +kernel
theorem dX11_isSix_2 : decode cX11_isSix 2 = .ok (.iconst 5, 1) := by decide +kernel
theorem dX11_isSix_3 : decode cX11_isSix 3 = .ok (.invokestatic 182, 3) := by decide +kernel
theorem dX11_isSix_6 : decode cX11_isSix 6 = .ok (.ireturn, 1) := by decide +kernel
noncomputable def f_X11_isSix (x1 : Int32) (u0 : qM) : Option (Int32 × qM) :=
  q_bd (f_X11_in x1 0 5 u0) (fun (x2 : Int32) (u1 : qM) => q_ck (q_b x2) (some (x2, u1)))
set_option maxRecDepth 100000 in
set_option maxHeartbeats 4000000 in
theorem k_X11_isSix (l : Launch) (G : qG) (x1 : Int32)  (u0 : qM) : qCt l G m_X11_isSix q_cI [.int x1] u0 (f_X11_isSix x1 u0) := by
  refine q_entry pk_X11_isSix (Nat.le_of_ble_eq_true rfl) ?_
  show qAW l G m_X11_isSix (q_mq G q_cI) 0 [(0, .int x1)] [] u0 (f_X11_isSix x1 u0)
  unfold f_X11_isSix
  refine aw_iload_n (i := 0) dX11_isSix_0 1 rfl rfl 0 rfl ?_
  refine aw_iconst (x := 0) dX11_isSix_1 2 rfl rfl ?_
  refine aw_iconst (x := 5) dX11_isSix_2 3 rfl rfl ?_
  refine aw_callS (M2 := m_X11_in) (cv := q_cI) dX11_isSix_3 6 rfl (k_X11_in l G x1 0 5  u0) wd_226 wv_X11_in pk_X11_in rfl ⟨by decide, by decide⟩ ⟨Nat.zero_le _, Nat.zero_le _⟩ rfl (Nat.le_of_ble_eq_true rfl) (fun x2 u1 => ?_)
  show qAW l G m_X11_isSix (q_mq G q_cI) 6 [(0, .int x1)] [.int x2] u1 _
  refine aw_ck (fun h1 => ?_)
  exact aw_zret dX11_isSix_6 rfl h1
theorem dX11_looked_0 : decode cX11_looked 0 = .ok (.iload_n 1, 1) := by decide +kernel
theorem dX11_looked_1 : decode cX11_looked 1 = .ok (.invokestatic 186, 3) := by decide +kernel
theorem dX11_looked_4 : decode cX11_looked 4 = .ok (.ifCond .ne 7, 3) := by decide +kernel
theorem dX11_looked_7 : decode cX11_looked 7 = .ok (.iconst (-1), 1) := by decide +kernel
theorem dX11_looked_8 : decode cX11_looked 8 = .ok (.goto 21, 3) := by decide +kernel
theorem dX11_looked_11 : decode cX11_looked 11 = .ok (.aload_n 0, 1) := by decide +kernel
theorem dX11_looked_12 : decode cX11_looked 12 = .ok (.getfield 17, 3) := by decide +kernel
theorem dX11_looked_15 : decode cX11_looked 15 = .ok (.iload_n 1, 1) := by decide +kernel
theorem dX11_looked_16 : decode cX11_looked 16 = .ok (.iaload, 1) := by decide +kernel
theorem dX11_looked_17 : decode cX11_looked 17 = .ok (.ifCond .ge 11, 3) := by decide +kernel
theorem dX11_looked_20 : decode cX11_looked 20 = .ok (.aload_n 0, 1) := by decide +kernel
theorem dX11_looked_21 : decode cX11_looked 21 = .ok (.iconst 1, 1) := by decide +kernel
theorem dX11_looked_22 : decode cX11_looked 22 = .ok (.invokevirtual 190, 3) := by decide +kernel
theorem dX11_looked_25 : decode cX11_looked 25 = .ok (.goto 4, 3) := by decide +kernel
theorem dX11_looked_28 : decode cX11_looked 28 = .ok (.iconst 0, 1) := by decide +kernel
theorem dX11_looked_29 : decode cX11_looked 29 = .ok (.ireturn, 1) := by decide +kernel
noncomputable def f_X11_looked (x1 : Int32) (u0 : qM) : Option (Int32 × qM) :=
  q_bd (f_X11_isSix x1 u0) (fun (x2 : Int32) (u1 : qM) => q_jn (fun (x3 : Int32) (u2 : qM) => some (x3, u2)) (fun j1 => if x2 = 0 then j1 (-1) u1 else q_ck (q_in x1 6) (if (0 : Int32) ≤ (u1.1 66 0 (Int32.toNatClampNeg x1)) then j1 0 u1 else q_bd (f_X11_meets 1 u1) (fun (x4 : Int32) (u3 : qM) => j1 x4 u3))))
set_option maxRecDepth 100000 in
set_option maxHeartbeats 4000000 in
theorem k_X11_looked (l : Launch) (G : qG) (x1 : Int32)  (u0 : qM) : qCt l G m_X11_looked q_cI [.ref (q_ad G 11 0), .int x1] u0 (f_X11_looked x1 u0) := by
  refine q_entry pk_X11_looked (Nat.le_of_ble_eq_true rfl) ?_
  show qAW l G m_X11_looked (q_mq G q_cI) 0 [(0, .ref (q_ad G 11 0)), (1, .int x1)] [] u0 (f_X11_looked x1 u0)
  unfold f_X11_looked
  refine aw_iload_n (i := 1) dX11_looked_0 1 rfl rfl 1 rfl ?_
  refine aw_callS (M2 := m_X11_isSix) (cv := q_cI) dX11_looked_1 4 rfl (k_X11_isSix l G x1  u0) wd_227 wv_X11_isSix pk_X11_isSix rfl ⟨by decide, by decide⟩ ⟨Nat.zero_le _, Nat.zero_le _⟩ rfl (Nat.le_of_ble_eq_true rfl) (fun x2 u1 => ?_)
  show qAW l G m_X11_looked (q_mq G q_cI) 4 [(0, .ref (q_ad G 11 0)), (1, .int x1)] [.int x2] u1 _
  refine aw_jn (fun k => ∀ (x3 : Int32) (u2 : qM), qAW l G m_X11_looked (q_mq G q_cI) 29 [] [.int x3] u2 (k x3 u2)) ?_ ?_
  · intro x3 u2
    exact aw_iret dX11_looked_29 rfl
  · intro j1 hj1
    refine aw_if_ne dX11_looked_4 7 rfl 11 rfl (fun h1 => ?_) (fun h1 => ?_)
    · refine aw_aload_n (i := 0) dX11_looked_11 12 rfl rfl 0 rfl ?_
      refine gf_X11_6 dX11_looked_12 15 rfl wd_228 (ok_11 (by decide)) ?_
      refine aw_iload_n (i := 1) dX11_looked_15 16 rfl rfl 1 rfl ?_
      refine aw_iald dX11_looked_16 17 rfl at_66 (al_66 _) (ok_66 (by decide)) (fun h2 => ?_)
      refine aw_if_ge dX11_looked_17 20 rfl 28 rfl (fun h3 => ?_) (fun h3 => ?_)
      · refine aw_iconst (x := 0) dX11_looked_28 29 rfl rfl ?_
        exact aw_conv [] rfl (hj1 0 u1)
      · refine aw_aload_n (i := 0) dX11_looked_20 21 rfl rfl 0 rfl ?_
        refine aw_iconst (x := 1) dX11_looked_21 22 rfl rfl ?_
        refine aw_callV (M2 := m_X11_meets) (cv := q_cI) dX11_looked_22 25 rfl (k_X11_meets l G 1  u1) wd_229 wv_X11_meets pk_X11_meets rfl rfl ⟨by decide, by decide⟩ ⟨Nat.zero_le _, Nat.zero_le _⟩ at_11 (ok_11 (by decide)) rfl rfl rfl (Nat.le_of_ble_eq_true rfl) (fun x4 u3 => ?_)
        show qAW l G m_X11_looked (q_mq G q_cI) 25 [(0, .ref (q_ad G 11 0)), (1, .int x1)] [.int x4] u3 _
        refine aw_goto dX11_looked_25 29 rfl ?_
        exact aw_conv [] rfl (hj1 x4 u3)
    · refine aw_iconst (x := (-1)) dX11_looked_7 8 rfl rfl ?_
      refine aw_goto dX11_looked_8 29 rfl ?_
      exact aw_conv [] rfl (hj1 (-1) u1)
theorem dX11_row_0 : decode cX11_row 0 = .ok (.iload_n 1, 1) := by decide +kernel
theorem dX11_row_1 : decode cX11_row 1 = .ok (.invokestatic 186, 3) := by decide +kernel
theorem dX11_row_4 : decode cX11_row 4 = .ok (.ifCond .eq 9, 3) := by decide +kernel
theorem dX11_row_7 : decode cX11_row 7 = .ok (.iload_n 2, 1) := by decide +kernel
theorem dX11_row_8 : decode cX11_row 8 = .ok (.bipush 48, 2) := by decide +kernel
theorem dX11_row_10 : decode cX11_row 10 = .ok (.if_icmp .le 5, 3) := by decide +kernel
theorem dX11_row_13 : decode cX11_row 13 = .ok (.iconst (-1), 1) := by decide +kernel
theorem dX11_row_14 : decode cX11_row 14 = .ok (.ireturn, 1) := by decide +kernel
theorem dX11_row_15 : decode cX11_row 15 = .ok (.iload_n 2, 1) := by decide +kernel
theorem dX11_row_16 : decode cX11_row 16 = .ok (.ifCond .ge 9, 3) := by decide +kernel
theorem dX11_row_19 : decode cX11_row 19 = .ok (.aload_n 0, 1) := by decide +kernel
theorem dX11_row_20 : decode cX11_row 20 = .ok (.iconst 5, 1) := by decide +kernel
theorem dX11_row_21 : decode cX11_row 21 = .ok (.invokevirtual 190, 3) := by decide +kernel
theorem dX11_row_24 : decode cX11_row 24 = .ok (.ireturn, 1) := by decide +kernel
theorem dX11_row_25 : decode cX11_row 25 = .ok (.aload_n 0, 1) := by decide +kernel
theorem dX11_row_26 : decode cX11_row 26 = .ok (.getfield 17, 3) := by decide +kernel
theorem dX11_row_29 : decode cX11_row 29 = .ok (.iload_n 1, 1) := by decide +kernel
theorem dX11_row_30 : decode cX11_row 30 = .ok (.iload_n 2, 1) := by decide +kernel
theorem dX11_row_31 : decode cX11_row 31 = .ok (.iastore, 1) := by decide +kernel
theorem dX11_row_32 : decode cX11_row 32 = .ok (.iconst 0, 1) := by decide +kernel
theorem dX11_row_33 : decode cX11_row 33 = .ok (.istore_n 3, 1) := by decide +kernel
theorem dX11_row_34 : decode cX11_row 34 = .ok (.iload_n 3, 1) := by decide +kernel
theorem dX11_row_35 : decode cX11_row 35 = .ok (.bipush 48, 2) := by decide +kernel
theorem dX11_row_37 : decode cX11_row 37 = .ok (.if_icmp .ge 21, 3) := by decide +kernel
theorem dX11_row_40 : decode cX11_row 40 = .ok (.aload_n 0, 1) := by decide +kernel
theorem dX11_row_41 : decode cX11_row 41 = .ok (.getfield 20, 3) := by decide +kernel
theorem dX11_row_44 : decode cX11_row 44 = .ok (.bipush 48, 2) := by decide +kernel
theorem dX11_row_46 : decode cX11_row 46 = .ok (.iload_n 1, 1) := by decide +kernel
theorem dX11_row_47 : decode cX11_row 47 = .ok (.imul, 1) := by decide +kernel
theorem dX11_row_48 : decode cX11_row 48 = .ok (.iload_n 3, 1) := by decide +kernel
theorem dX11_row_49 : decode cX11_row 49 = .ok (.iadd, 1) := by decide +kernel
theorem dX11_row_50 : decode cX11_row 50 = .ok (.iconst 0, 1) := by decide +kernel
theorem dX11_row_51 : decode cX11_row 51 = .ok (.iastore, 1) := by decide +kernel
theorem dX11_row_52 : decode cX11_row 52 = .ok (.iinc 3 1, 3) := by decide +kernel
theorem dX11_row_55 : decode cX11_row 55 = .ok (.goto (-21), 3) := by decide +kernel
theorem dX11_row_58 : decode cX11_row 58 = .ok (.iload_n 2, 1) := by decide +kernel
theorem dX11_row_59 : decode cX11_row 59 = .ok (.ireturn, 1) := by decide +kernel
noncomputable def L_X11_row_34 (x1 : Int32) (x2 : Int32) : Nat → Int32 → qM → (qM → Option (Int32 × qM)) → Option (Int32 × qM)
  | 0, _, _, _ => none
  | n + 1, x4, u4, e1 => if 48 ≤ x4 then e1 u4 else q_ck (q_in ((48 * x1) + x4) 288) (q_lt (q_si u4 67 0 (Int32.toNatClampNeg ((48 * x1) + x4)) 0) (fun (u5 : qM) => q_lt (x4 + 1) (fun (x5 : Int32) => L_X11_row_34 x1 x2 n x5 u5 e1)))
noncomputable def f_X11_row (x1 : Int32) (x2 : Int32) (u0 : qM) : Option (Int32 × qM) :=
  q_bd (f_X11_isSix x1 u0) (fun (x3 : Int32) (u1 : qM) => q_jn (fun  (u2 : qM) => some ((-1), u2)) (fun j1 => if x3 = 0 then j1 u1 else if x2 ≤ 48 then if (0 : Int32) ≤ x2 then q_ck (q_in x1 6) (q_lt (q_si u1 66 0 (Int32.toNatClampNeg x1) x2) (fun (u3 : qM) => L_X11_row_34 x1 x2 q_fu 0 u3 (fun u6 => some (x2, u6)))) else q_bd (f_X11_meets 5 u1) (fun (x6 : Int32) (u7 : qM) => some (x6, u7)) else j1 u1))
set_option maxRecDepth 100000 in
set_option maxHeartbeats 4000000 in
theorem TL_X11_row_34 (l : Launch) (G : qG) (x1 : Int32) (x2 : Int32)  (e1 : qM → Option (Int32 × qM)) (he1 : ∀  (v : qM), qAW l G m_X11_row (q_mq G q_cI) 58 [(2, .int x2)] [] v (e1 v)) : ∀ (n : Nat) (x4 : Int32) (u4 : qM), qAW l G m_X11_row (q_mq G q_cI) 34 [(0, .ref (q_ad G 11 0)), (1, .int x1), (2, .int x2), (3, .int x4)] [] u4 (L_X11_row_34 x1 x2 n x4 u4 e1) := by
  intro n
  induction n with
  | zero => intros; exact aw_none
  | succ n ih =>
    intro x4 u4
    unfold L_X11_row_34
    refine aw_iload_n (i := 3) dX11_row_34 35 rfl rfl 3 rfl ?_
    refine aw_bipush (x := 48) dX11_row_35 37 rfl rfl ?_
    refine aw_icmp_ge dX11_row_37 40 rfl 58 rfl (fun h5 => ?_) (fun h5 => ?_)
    · exact aw_conv [2] rfl (he1 u4)
    · refine aw_aload_n (i := 0) dX11_row_40 41 rfl rfl 0 rfl ?_
      refine gf_X11_7 dX11_row_41 44 rfl wd_230 (ok_11 (by decide)) ?_
      refine aw_bipush (x := 48) dX11_row_44 46 rfl rfl ?_
      refine aw_iload_n (i := 1) dX11_row_46 47 rfl rfl 1 rfl ?_
      refine aw_imul dX11_row_47 48 rfl ?_
      refine aw_iload_n (i := 3) dX11_row_48 49 rfl rfl 3 rfl ?_
      refine aw_iadd dX11_row_49 50 rfl ?_
      refine aw_iconst (x := 0) dX11_row_50 51 rfl rfl ?_
      refine aw_iast dX11_row_51 52 rfl at_67 (al_67 _) (ok_67 (by decide)) (fun h6 => ?_)
      refine aw_ltm (fun u5 => ?_)
      refine aw_iincx (i := 3) dX11_row_52 55 rfl 3 rfl 1 rfl (fun x5 => [(3, .int x5), (0, .ref (q_ad G 11 0)), (1, .int x1), (2, .int x2)]) (by decide) (fun _ => rfl) (fun x5 => ?_)
      refine aw_goto dX11_row_55 34 rfl ?_
      exact aw_conv [1, 2, 3, 0] rfl (ih x5 u5)
set_option maxRecDepth 100000 in
set_option maxHeartbeats 4000000 in
theorem k_X11_row (l : Launch) (G : qG) (x1 : Int32) (x2 : Int32)  (u0 : qM) : qCt l G m_X11_row q_cI [.ref (q_ad G 11 0), .int x1, .int x2] u0 (f_X11_row x1 x2 u0) := by
  refine q_entry pk_X11_row (Nat.le_of_ble_eq_true rfl) ?_
  show qAW l G m_X11_row (q_mq G q_cI) 0 [(0, .ref (q_ad G 11 0)), (1, .int x1), (2, .int x2)] [] u0 (f_X11_row x1 x2 u0)
  unfold f_X11_row
  refine aw_iload_n (i := 1) dX11_row_0 1 rfl rfl 1 rfl ?_
  refine aw_callS (M2 := m_X11_isSix) (cv := q_cI) dX11_row_1 4 rfl (k_X11_isSix l G x1  u0) wd_227 wv_X11_isSix pk_X11_isSix rfl ⟨by decide, by decide⟩ ⟨Nat.zero_le _, Nat.zero_le _⟩ rfl (Nat.le_of_ble_eq_true rfl) (fun x3 u1 => ?_)
  show qAW l G m_X11_row (q_mq G q_cI) 4 [(0, .ref (q_ad G 11 0)), (1, .int x1), (2, .int x2)] [.int x3] u1 _
  refine aw_jn (fun k => ∀  (u2 : qM), qAW l G m_X11_row (q_mq G q_cI) 13 [] [] u2 (k u2)) ?_ ?_
  · intro u2
    refine aw_iconst (x := (-1)) dX11_row_13 14 rfl rfl ?_
    exact aw_iret dX11_row_14 rfl
  · intro j1 hj1
    refine aw_if_eq dX11_row_4 7 rfl 13 rfl (fun h1 => ?_) (fun h1 => ?_)
    · exact aw_conv [] rfl (hj1 u1)
    · refine aw_iload_n (i := 2) dX11_row_7 8 rfl rfl 2 rfl ?_
      refine aw_bipush (x := 48) dX11_row_8 10 rfl rfl ?_
      refine aw_icmp_le dX11_row_10 13 rfl 15 rfl (fun h2 => ?_) (fun h2 => ?_)
      · refine aw_iload_n (i := 2) dX11_row_15 16 rfl rfl 2 rfl ?_
        refine aw_if_ge dX11_row_16 19 rfl 25 rfl (fun h3 => ?_) (fun h3 => ?_)
        · refine aw_aload_n (i := 0) dX11_row_25 26 rfl rfl 0 rfl ?_
          refine gf_X11_6 dX11_row_26 29 rfl wd_228 (ok_11 (by decide)) ?_
          refine aw_iload_n (i := 1) dX11_row_29 30 rfl rfl 1 rfl ?_
          refine aw_iload_n (i := 2) dX11_row_30 31 rfl rfl 2 rfl ?_
          refine aw_iast dX11_row_31 32 rfl at_66 (al_66 _) (ok_66 (by decide)) (fun h4 => ?_)
          refine aw_ltm (fun u3 => ?_)
          refine aw_iconst (x := 0) dX11_row_32 33 rfl rfl ?_
          refine aw_istore_n dX11_row_33 34 rfl rfl [(3, .int 0), (0, .ref (q_ad G 11 0)), (1, .int x1), (2, .int x2)] (by decide) rfl ?_
          refine aw_conv [1, 2, 3, 0] rfl (TL_X11_row_34 l G x1 x2  _ ?_ _ 0 u3)
          · intro u6
            refine aw_iload_n (i := 2) dX11_row_58 59 rfl rfl 0 rfl ?_
            exact aw_iret dX11_row_59 rfl
        · refine aw_aload_n (i := 0) dX11_row_19 20 rfl rfl 0 rfl ?_
          refine aw_iconst (x := 5) dX11_row_20 21 rfl rfl ?_
          refine aw_callV (M2 := m_X11_meets) (cv := q_cI) dX11_row_21 24 rfl (k_X11_meets l G 5  u1) wd_229 wv_X11_meets pk_X11_meets rfl rfl ⟨by decide, by decide⟩ ⟨Nat.zero_le _, Nat.zero_le _⟩ at_11 (ok_11 (by decide)) rfl rfl rfl (Nat.le_of_ble_eq_true rfl) (fun x6 u7 => ?_)
          show qAW l G m_X11_row (q_mq G q_cI) 24 [(0, .ref (q_ad G 11 0)), (1, .int x1), (2, .int x2)] [.int x6] u7 _
          exact aw_iret dX11_row_24 rfl
      · exact aw_conv [] rfl (hj1 u1)
theorem dX11_lay_0 : decode cX11_lay 0 = .ok (.iload_n 3, 1) := by decide +kernel
theorem dX11_lay_1 : decode cX11_lay 1 = .ok (.ldc 194, 2) := by decide +kernel
theorem dX11_lay_3 : decode cX11_lay 3 = .ok (.ldc 195, 2) := by decide +kernel
theorem dX11_lay_5 : decode cX11_lay 5 = .ok (.invokestatic 182, 3) := by decide +kernel
theorem dX11_lay_8 : decode cX11_lay 8 = .ok (.ifCond .ne 5, 3) := by decide +kernel
theorem dX11_lay_11 : decode cX11_lay 11 = .ok (.iconst (-1), 1) := by decide +kernel
theorem dX11_lay_12 : decode cX11_lay 12 = .ok (.ireturn, 1) := by decide +kernel
theorem dX11_lay_13 : decode cX11_lay 13 = .ok (.aload_n 0, 1) := by decide +kernel
theorem dX11_lay_14 : decode cX11_lay 14 = .ok (.iload_n 1, 1) := by decide +kernel
theorem dX11_lay_15 : decode cX11_lay 15 = .ok (.invokevirtual 196, 3) := by decide +kernel
theorem dX11_lay_18 : decode cX11_lay 18 = .ok (.istore 4, 2) := by decide +kernel
theorem dX11_lay_20 : decode cX11_lay 20 = .ok (.iload 4, 2) := by decide +kernel
theorem dX11_lay_22 : decode cX11_lay 22 = .ok (.ifCond .ge 6, 3) := by decide +kernel
theorem dX11_lay_25 : decode cX11_lay 25 = .ok (.iload 4, 2) := by decide +kernel
theorem dX11_lay_27 : decode cX11_lay 27 = .ok (.ireturn, 1) := by decide +kernel
theorem dX11_lay_28 : decode cX11_lay 28 = .ok (.iload_n 2, 1) := by decide +kernel
theorem dX11_lay_29 : decode cX11_lay 29 = .ok (.iconst 0, 1) := by decide +kernel
theorem dX11_lay_30 : decode cX11_lay 30 = .ok (.aload_n 0, 1) := by decide +kernel
theorem dX11_lay_31 : decode cX11_lay 31 = .ok (.getfield 17, 3) := by decide +kernel
theorem dX11_lay_34 : decode cX11_lay 34 = .ok (.iload_n 1, 1) := by decide +kernel
theorem dX11_lay_35 : decode cX11_lay 35 = .ok (.iaload, 1) := by decide +kernel
theorem dX11_lay_36 : decode cX11_lay 36 = .ok (.iconst 1, 1) := by decide +kernel
theorem dX11_lay_37 : decode cX11_lay 37 = .ok (.isub, 1) := by decide +kernel
theorem dX11_lay_38 : decode cX11_lay 38 = .ok (.invokestatic 182, 3) := by decide +kernel
theorem dX11_lay_41 : decode cX11_lay 41 = .ok (.ifCond .ne 9, 3) := by decide +kernel
theorem dX11_lay_44 : decode cX11_lay 44 = .ok (.aload_n 0, 1) := by decide +kernel
theorem dX11_lay_45 : decode cX11_lay 45 = .ok (.iconst 2, 1) := by decide +kernel
theorem dX11_lay_46 : decode cX11_lay 46 = .ok (.invokevirtual 190, 3) := by decide +kernel
theorem dX11_lay_49 : decode cX11_lay 49 = .ok (.ireturn, 1) := by decide +kernel
theorem dX11_lay_50 : decode cX11_lay 50 = .ok (.aload_n 0, 1) := by decide +kernel
theorem dX11_lay_51 : decode cX11_lay 51 = .ok (.aload_n 0, 1) := by decide +kernel
theorem dX11_lay_52 : decode cX11_lay 52 = .ok (.getfield 20, 3) := by decide +kernel
theorem dX11_lay_55 : decode cX11_lay 55 = .ok (.bipush 48, 2) := by decide +kernel
theorem dX11_lay_57 : decode cX11_lay 57 = .ok (.iload_n 1, 1) := by decide +kernel
theorem dX11_lay_58 : decode cX11_lay 58 = .ok (.imul, 1) := by decide +kernel
theorem dX11_lay_59 : decode cX11_lay 59 = .ok (.iload_n 2, 1) := by decide +kernel
theorem dX11_lay_60 : decode cX11_lay 60 = .ok (.iadd, 1) := by decide +kernel
theorem dX11_lay_61 : decode cX11_lay 61 = .ok (.iaload, 1) := by decide +kernel
theorem dX11_lay_62 : decode cX11_lay 62 = .ok (.putfield 176, 3) := by decide +kernel
theorem dX11_lay_65 : decode cX11_lay 65 = .ok (.aload_n 0, 1) := by decide +kernel
theorem dX11_lay_66 : decode cX11_lay 66 = .ok (.getfield 20, 3) := by decide +kernel
theorem dX11_lay_69 : decode cX11_lay 69 = .ok (.bipush 48, 2) := by decide +kernel
theorem dX11_lay_71 : decode cX11_lay 71 = .ok (.iload_n 1, 1) := by decide +kernel
theorem dX11_lay_72 : decode cX11_lay 72 = .ok (.imul, 1) := by decide +kernel
theorem dX11_lay_73 : decode cX11_lay 73 = .ok (.iload_n 2, 1) := by decide +kernel
theorem dX11_lay_74 : decode cX11_lay 74 = .ok (.iadd, 1) := by decide +kernel
theorem dX11_lay_75 : decode cX11_lay 75 = .ok (.iload_n 3, 1) := by decide +kernel
theorem dX11_lay_76 : decode cX11_lay 76 = .ok (.iastore, 1) := by decide +kernel
theorem dX11_lay_77 : decode cX11_lay 77 = .ok (.iconst 1, 1) := by decide +kernel
theorem dX11_lay_78 : decode cX11_lay 78 = .ok (.ireturn, 1) := by decide +kernel
noncomputable def f_X11_lay (x1 : Int32) (x2 : Int32) (x3 : Int32) (u0 : qM) : Option (Int32 × qM) :=
  q_bd (f_X11_in x3 (-100000) 100000 u0) (fun (x4 : Int32) (u1 : qM) => if x4 = 0 then some ((-1), u1) else q_bd (f_X11_looked x1 u1) (fun (x5 : Int32) (u2 : qM) => if (0 : Int32) ≤ x5 then q_ck (q_in x1 6) (q_bd (f_X11_in x2 0 ((u2.1 66 0 (Int32.toNatClampNeg x1)) - 1) u2) (fun (x6 : Int32) (u3 : qM) => if x6 = 0 then q_bd (f_X11_meets 2 u3) (fun (x7 : Int32) (u6 : qM) => some (x7, u6)) else q_ck (q_in ((48 * x1) + x2) 288) (q_lt (q_si u3 11 0 2 (u3.1 67 0 (Int32.toNatClampNeg ((48 * x1) + x2)))) (fun (u4 : qM) => q_ck (q_in ((48 * x1) + x2) 288) (q_lt (q_si u4 67 0 (Int32.toNatClampNeg ((48 * x1) + x2)) x3) (fun (u5 : qM) => some (1, u5))))))) else some (x5, u2)))
set_option maxRecDepth 100000 in
set_option maxHeartbeats 4000000 in
theorem k_X11_lay (l : Launch) (G : qG) (x1 : Int32) (x2 : Int32) (x3 : Int32)  (u0 : qM) : qCt l G m_X11_lay q_cI [.ref (q_ad G 11 0), .int x1, .int x2, .int x3] u0 (f_X11_lay x1 x2 x3 u0) := by
  refine q_entry pk_X11_lay (Nat.le_of_ble_eq_true rfl) ?_
  show qAW l G m_X11_lay (q_mq G q_cI) 0 [(0, .ref (q_ad G 11 0)), (1, .int x1), (2, .int x2), (3, .int x3)] [] u0 (f_X11_lay x1 x2 x3 u0)
  unfold f_X11_lay
  refine aw_iload_n (i := 3) dX11_lay_0 1 rfl rfl 3 rfl ?_
  refine aw_ldc (x := (-100000)) dX11_lay_1 3 rfl wd_231 ?_
  refine aw_ldc (x := 100000) dX11_lay_3 5 rfl wd_232 ?_
  refine aw_callS (M2 := m_X11_in) (cv := q_cI) dX11_lay_5 8 rfl (k_X11_in l G x3 (-100000) 100000  u0) wd_226 wv_X11_in pk_X11_in rfl ⟨by decide, by decide⟩ ⟨Nat.zero_le _, Nat.zero_le _⟩ rfl (Nat.le_of_ble_eq_true rfl) (fun x4 u1 => ?_)
  show qAW l G m_X11_lay (q_mq G q_cI) 8 [(0, .ref (q_ad G 11 0)), (1, .int x1), (2, .int x2), (3, .int x3)] [.int x4] u1 _
  refine aw_if_ne dX11_lay_8 11 rfl 13 rfl (fun h1 => ?_) (fun h1 => ?_)
  · refine aw_aload_n (i := 0) dX11_lay_13 14 rfl rfl 0 rfl ?_
    refine aw_iload_n (i := 1) dX11_lay_14 15 rfl rfl 1 rfl ?_
    refine aw_callV (M2 := m_X11_looked) (cv := q_cI) dX11_lay_15 18 rfl (k_X11_looked l G x1  u1) wd_233 wv_X11_looked pk_X11_looked rfl rfl ⟨by decide, by decide⟩ ⟨Nat.zero_le _, Nat.zero_le _⟩ at_11 (ok_11 (by decide)) rfl rfl rfl (Nat.le_of_ble_eq_true rfl) (fun x5 u2 => ?_)
    show qAW l G m_X11_lay (q_mq G q_cI) 18 [(0, .ref (q_ad G 11 0)), (1, .int x1), (2, .int x2), (3, .int x3)] [.int x5] u2 _
    refine aw_istore dX11_lay_18 20 rfl [(4, .int x5), (0, .ref (q_ad G 11 0)), (1, .int x1), (2, .int x2), (3, .int x3)] (by decide) rfl ?_
    refine aw_iload (i := 4) dX11_lay_20 22 rfl 0 rfl ?_
    refine aw_if_ge dX11_lay_22 25 rfl 28 rfl (fun h2 => ?_) (fun h2 => ?_)
    · refine aw_iload_n (i := 2) dX11_lay_28 29 rfl rfl 3 rfl ?_
      refine aw_iconst (x := 0) dX11_lay_29 30 rfl rfl ?_
      refine aw_aload_n (i := 0) dX11_lay_30 31 rfl rfl 1 rfl ?_
      refine gf_X11_6 dX11_lay_31 34 rfl wd_228 (ok_11 (by decide)) ?_
      refine aw_iload_n (i := 1) dX11_lay_34 35 rfl rfl 2 rfl ?_
      refine aw_iald dX11_lay_35 36 rfl at_66 (al_66 _) (ok_66 (by decide)) (fun h3 => ?_)
      refine aw_iconst (x := 1) dX11_lay_36 37 rfl rfl ?_
      refine aw_isub dX11_lay_37 38 rfl ?_
      refine aw_callS (M2 := m_X11_in) (cv := q_cI) dX11_lay_38 41 rfl (k_X11_in l G x2 0 ((u2.1 66 0 (Int32.toNatClampNeg x1)) - 1)  u2) wd_226 wv_X11_in pk_X11_in rfl ⟨by decide, by decide⟩ ⟨Nat.zero_le _, Nat.zero_le _⟩ rfl (Nat.le_of_ble_eq_true rfl) (fun x6 u3 => ?_)
      show qAW l G m_X11_lay (q_mq G q_cI) 41 [(4, .int x5), (0, .ref (q_ad G 11 0)), (1, .int x1), (2, .int x2), (3, .int x3)] [.int x6] u3 _
      refine aw_if_ne dX11_lay_41 44 rfl 50 rfl (fun h4 => ?_) (fun h4 => ?_)
      · refine aw_aload_n (i := 0) dX11_lay_50 51 rfl rfl 1 rfl ?_
        refine aw_aload_n (i := 0) dX11_lay_51 52 rfl rfl 1 rfl ?_
        refine gf_X11_7 dX11_lay_52 55 rfl wd_230 (ok_11 (by decide)) ?_
        refine aw_bipush (x := 48) dX11_lay_55 57 rfl rfl ?_
        refine aw_iload_n (i := 1) dX11_lay_57 58 rfl rfl 2 rfl ?_
        refine aw_imul dX11_lay_58 59 rfl ?_
        refine aw_iload_n (i := 2) dX11_lay_59 60 rfl rfl 3 rfl ?_
        refine aw_iadd dX11_lay_60 61 rfl ?_
        refine aw_iald dX11_lay_61 62 rfl at_67 (al_67 _) (ok_67 (by decide)) (fun h5 => ?_)
        refine pf_X11_2 dX11_lay_62 65 rfl wd_223 (ok_11 (by decide)) ?_
        refine aw_ltm (fun u4 => ?_)
        refine aw_aload_n (i := 0) dX11_lay_65 66 rfl rfl 1 rfl ?_
        refine gf_X11_7 dX11_lay_66 69 rfl wd_230 (ok_11 (by decide)) ?_
        refine aw_bipush (x := 48) dX11_lay_69 71 rfl rfl ?_
        refine aw_iload_n (i := 1) dX11_lay_71 72 rfl rfl 2 rfl ?_
        refine aw_imul dX11_lay_72 73 rfl ?_
        refine aw_iload_n (i := 2) dX11_lay_73 74 rfl rfl 3 rfl ?_
        refine aw_iadd dX11_lay_74 75 rfl ?_
        refine aw_iload_n (i := 3) dX11_lay_75 76 rfl rfl 4 rfl ?_
        refine aw_iast dX11_lay_76 77 rfl at_67 (al_67 _) (ok_67 (by decide)) (fun h6 => ?_)
        refine aw_ltm (fun u5 => ?_)
        refine aw_iconst (x := 1) dX11_lay_77 78 rfl rfl ?_
        exact aw_iret dX11_lay_78 rfl
      · refine aw_aload_n (i := 0) dX11_lay_44 45 rfl rfl 1 rfl ?_
        refine aw_iconst (x := 2) dX11_lay_45 46 rfl rfl ?_
        refine aw_callV (M2 := m_X11_meets) (cv := q_cI) dX11_lay_46 49 rfl (k_X11_meets l G 2  u3) wd_229 wv_X11_meets pk_X11_meets rfl rfl ⟨by decide, by decide⟩ ⟨Nat.zero_le _, Nat.zero_le _⟩ at_11 (ok_11 (by decide)) rfl rfl rfl (Nat.le_of_ble_eq_true rfl) (fun x7 u6 => ?_)
        show qAW l G m_X11_lay (q_mq G q_cI) 49 [(4, .int x5), (0, .ref (q_ad G 11 0)), (1, .int x1), (2, .int x2), (3, .int x3)] [.int x7] u6 _
        exact aw_iret dX11_lay_49 rfl
    · refine aw_iload (i := 4) dX11_lay_25 27 rfl 0 rfl ?_
      exact aw_iret dX11_lay_27 rfl
  · refine aw_iconst (x := (-1)) dX11_lay_11 12 rfl rfl ?_
    exact aw_iret dX11_lay_12 rfl
theorem dX11_tear_0 : decode cX11_tear 0 = .ok (.aload_n 0, 1) := by decide +kernel
theorem dX11_tear_1 : decode cX11_tear 1 = .ok (.iload_n 1, 1) := by decide +kernel
theorem dX11_tear_2 : decode cX11_tear 2 = .ok (.invokevirtual 196, 3) := by decide +kernel
theorem dX11_tear_5 : decode cX11_tear 5 = .ok (.istore_n 2, 1) := by decide +kernel
theorem dX11_tear_6 : decode cX11_tear 6 = .ok (.iload_n 2, 1) := by decide +kernel
theorem dX11_tear_7 : decode cX11_tear 7 = .ok (.ifCond .ge 5, 3) := by decide +kernel
theorem dX11_tear_10 : decode cX11_tear 10 = .ok (.iload_n 2, 1) := by decide +kernel
theorem dX11_tear_11 : decode cX11_tear 11 = .ok (.ireturn, 1) := by decide +kernel
theorem dX11_tear_12 : decode cX11_tear 12 = .ok (.aload_n 0, 1) := by decide +kernel
theorem dX11_tear_13 : decode cX11_tear 13 = .ok (.getfield 17, 3) := by decide +kernel
theorem dX11_tear_16 : decode cX11_tear 16 = .ok (.iload_n 1, 1) := by decide +kernel
theorem dX11_tear_17 : decode cX11_tear 17 = .ok (.bipush (-9), 2) := by decide +kernel
theorem dX11_tear_19 : decode cX11_tear 19 = .ok (.iastore, 1) := by decide +kernel
theorem dX11_tear_20 : decode cX11_tear 20 = .ok (.iconst 1, 1) := by decide +kernel
theorem dX11_tear_21 : decode cX11_tear 21 = .ok (.ireturn, 1) := by decide +kernel
noncomputable def f_X11_tear (x1 : Int32) (u0 : qM) : Option (Int32 × qM) :=
  q_bd (f_X11_looked x1 u0) (fun (x2 : Int32) (u1 : qM) => if (0 : Int32) ≤ x2 then q_ck (q_in x1 6) (q_lt (q_si u1 66 0 (Int32.toNatClampNeg x1) (-9)) (fun (u2 : qM) => some (1, u2))) else some (x2, u1))
set_option maxRecDepth 100000 in
set_option maxHeartbeats 4000000 in
theorem k_X11_tear (l : Launch) (G : qG) (x1 : Int32)  (u0 : qM) : qCt l G m_X11_tear q_cI [.ref (q_ad G 11 0), .int x1] u0 (f_X11_tear x1 u0) := by
  refine q_entry pk_X11_tear (Nat.le_of_ble_eq_true rfl) ?_
  show qAW l G m_X11_tear (q_mq G q_cI) 0 [(0, .ref (q_ad G 11 0)), (1, .int x1)] [] u0 (f_X11_tear x1 u0)
  unfold f_X11_tear
  refine aw_aload_n (i := 0) dX11_tear_0 1 rfl rfl 0 rfl ?_
  refine aw_iload_n (i := 1) dX11_tear_1 2 rfl rfl 1 rfl ?_
  refine aw_callV (M2 := m_X11_looked) (cv := q_cI) dX11_tear_2 5 rfl (k_X11_looked l G x1  u0) wd_233 wv_X11_looked pk_X11_looked rfl rfl ⟨by decide, by decide⟩ ⟨Nat.zero_le _, Nat.zero_le _⟩ at_11 (ok_11 (by decide)) rfl rfl rfl (Nat.le_of_ble_eq_true rfl) (fun x2 u1 => ?_)
  show qAW l G m_X11_tear (q_mq G q_cI) 5 [(0, .ref (q_ad G 11 0)), (1, .int x1)] [.int x2] u1 _
  refine aw_istore_n dX11_tear_5 6 rfl rfl [(2, .int x2), (0, .ref (q_ad G 11 0)), (1, .int x1)] (by decide) rfl ?_
  refine aw_iload_n (i := 2) dX11_tear_6 7 rfl rfl 0 rfl ?_
  refine aw_if_ge dX11_tear_7 10 rfl 12 rfl (fun h1 => ?_) (fun h1 => ?_)
  · refine aw_aload_n (i := 0) dX11_tear_12 13 rfl rfl 1 rfl ?_
    refine gf_X11_6 dX11_tear_13 16 rfl wd_228 (ok_11 (by decide)) ?_
    refine aw_iload_n (i := 1) dX11_tear_16 17 rfl rfl 2 rfl ?_
    refine aw_bipush (x := (-9)) dX11_tear_17 19 rfl rfl ?_
    refine aw_iast dX11_tear_19 20 rfl at_66 (al_66 _) (ok_66 (by decide)) (fun h2 => ?_)
    refine aw_ltm (fun u2 => ?_)
    refine aw_iconst (x := 1) dX11_tear_20 21 rfl rfl ?_
    exact aw_iret dX11_tear_21 rfl
  · refine aw_iload_n (i := 2) dX11_tear_10 11 rfl rfl 0 rfl ?_
    exact aw_iret dX11_tear_11 rfl
theorem dX11_copy_0 : decode cX11_copy 0 = .ok (.iload_n 1, 1) := by decide +kernel
theorem dX11_copy_1 : decode cX11_copy 1 = .ok (.invokestatic 186, 3) := by decide +kernel
theorem dX11_copy_4 : decode cX11_copy 4 = .ok (.ifCond .eq 10, 3) := by decide +kernel
theorem dX11_copy_7 : decode cX11_copy 7 = .ok (.iload_n 3, 1) := by decide +kernel
theorem dX11_copy_8 : decode cX11_copy 8 = .ok (.invokestatic 186, 3) := by decide +kernel
theorem dX11_copy_11 : decode cX11_copy 11 = .ok (.ifCond .ne 5, 3) := by decide +kernel
theorem dX11_copy_14 : decode cX11_copy 14 = .ok (.iconst (-1), 1) := by decide +kernel
theorem dX11_copy_15 : decode cX11_copy 15 = .ok (.ireturn, 1) := by decide +kernel
theorem dX11_copy_16 : decode cX11_copy 16 = .ok (.iload 5, 2) := by decide +kernel
theorem dX11_copy_18 : decode cX11_copy 18 = .ok (.ifCond .ge 9, 3) := by decide +kernel
theorem dX11_copy_21 : decode cX11_copy 21 = .ok (.aload_n 0, 1) := by decide +kernel
theorem dX11_copy_22 : decode cX11_copy 22 = .ok (.iconst 5, 1) := by decide +kernel
theorem dX11_copy_23 : decode cX11_copy 23 = .ok (.invokevirtual 190, 3) := by decide +kernel
theorem dX11_copy_26 : decode cX11_copy 26 = .ok (.ireturn, 1) := by decide +kernel
theorem dX11_copy_27 : decode cX11_copy 27 = .ok (.aload_n 0, 1) := by decide +kernel
theorem dX11_copy_28 : decode cX11_copy 28 = .ok (.getfield 17, 3) := by decide +kernel
theorem dX11_copy_31 : decode cX11_copy 31 = .ok (.iload_n 1, 1) := by decide +kernel
theorem dX11_copy_32 : decode cX11_copy 32 = .ok (.iaload, 1) := by decide +kernel
theorem dX11_copy_33 : decode cX11_copy 33 = .ok (.ifCond .lt 12, 3) := by decide +kernel
theorem dX11_copy_36 : decode cX11_copy 36 = .ok (.aload_n 0, 1) := by decide +kernel
theorem dX11_copy_37 : decode cX11_copy 37 = .ok (.getfield 17, 3) := by decide +kernel
theorem dX11_copy_40 : decode cX11_copy 40 = .ok (.iload_n 3, 1) := by decide +kernel
theorem dX11_copy_41 : decode cX11_copy 41 = .ok (.iaload, 1) := by decide +kernel
theorem dX11_copy_42 : decode cX11_copy 42 = .ok (.ifCond .ge 9, 3) := by decide +kernel
theorem dX11_copy_45 : decode cX11_copy 45 = .ok (.aload_n 0, 1) := by decide +kernel
theorem dX11_copy_46 : decode cX11_copy 46 = .ok (.iconst 1, 1) := by decide +kernel
theorem dX11_copy_47 : decode cX11_copy 47 = .ok (.invokevirtual 190, 3) := by decide +kernel
theorem dX11_copy_50 : decode cX11_copy 50 = .ok (.ireturn, 1) := by decide +kernel
theorem dX11_copy_51 : decode cX11_copy 51 = .ok (.iload_n 2, 1) := by decide +kernel
theorem dX11_copy_52 : decode cX11_copy 52 = .ok (.ifCond .lt 43, 3) := by decide +kernel
theorem dX11_copy_55 : decode cX11_copy 55 = .ok (.iload 4, 2) := by decide +kernel
theorem dX11_copy_57 : decode cX11_copy 57 = .ok (.ifCond .lt 38, 3) := by decide +kernel
theorem dX11_copy_60 : decode cX11_copy 60 = .ok (.iload_n 2, 1) := by decide +kernel
theorem dX11_copy_61 : decode cX11_copy 61 = .ok (.i2l, 1) := by decide +kernel
theorem dX11_copy_62 : decode cX11_copy 62 = .ok (.iload 5, 2) := by decide +kernel
theorem dX11_copy_64 : decode cX11_copy 64 = .ok (.i2l, 1) := by decide +kernel
theorem dX11_copy_65 : decode cX11_copy 65 = .ok (.ladd, 1) := by decide +kernel
theorem dX11_copy_66 : decode cX11_copy 66 = .ok (.aload_n 0, 1) := by decide +kernel
theorem dX11_copy_67 : decode cX11_copy 67 = .ok (.getfield 17, 3) := by decide +kernel
theorem dX11_copy_70 : decode cX11_copy 70 = .ok (.iload_n 1, 1) := by decide +kernel
theorem dX11_copy_71 : decode cX11_copy 71 = .ok (.iaload, 1) := by decide +kernel
theorem dX11_copy_72 : decode cX11_copy 72 = .ok (.i2l, 1) := by decide +kernel
theorem dX11_copy_73 : decode cX11_copy 73 = .ok (.lcmp, 1) := by decide +kernel
theorem dX11_copy_74 : decode cX11_copy 74 = .ok (.ifCond .gt 21, 3) := by decide +kernel
theorem dX11_copy_77 : decode cX11_copy 77 = .ok (.iload 4, 2) := by decide +kernel
theorem dX11_copy_79 : decode cX11_copy 79 = .ok (.i2l, 1) := by decide +kernel
theorem dX11_copy_80 : decode cX11_copy 80 = .ok (.iload 5, 2) := by decide +kernel
theorem dX11_copy_82 : decode cX11_copy 82 = .ok (.i2l, 1) := by decide +kernel
theorem dX11_copy_83 : decode cX11_copy 83 = .ok (.ladd, 1) := by decide +kernel
theorem dX11_copy_84 : decode cX11_copy 84 = .ok (.aload_n 0, 1) := by decide +kernel
theorem dX11_copy_85 : decode cX11_copy 85 = .ok (.getfield 17, 3) := by decide +kernel
theorem dX11_copy_88 : decode cX11_copy 88 = .ok (.iload_n 3, 1) := by decide +kernel
theorem dX11_copy_89 : decode cX11_copy 89 = .ok (.iaload, 1) := by decide +kernel
theorem dX11_copy_90 : decode cX11_copy 90 = .ok (.i2l, 1) := by decide +kernel
theorem dX11_copy_91 : decode cX11_copy 91 = .ok (.lcmp, 1) := by decide +kernel
theorem dX11_copy_92 : decode cX11_copy 92 = .ok (.ifCond .le 9, 3) := by decide +kernel
theorem dX11_copy_95 : decode cX11_copy 95 = .ok (.aload_n 0, 1) := by decide +kernel
theorem dX11_copy_96 : decode cX11_copy 96 = .ok (.iconst 2, 1) := by decide +kernel
theorem dX11_copy_97 : decode cX11_copy 97 = .ok (.invokevirtual 190, 3) := by decide +kernel
theorem dX11_copy_100 : decode cX11_copy 100 = .ok (.ireturn, 1) := by decide +kernel
theorem dX11_copy_101 : decode cX11_copy 101 = .ok (.iconst 0, 1) := by decide +kernel
theorem dX11_copy_102 : decode cX11_copy 102 = .ok (.istore 6, 2) := by decide +kernel
theorem dX11_copy_104 : decode cX11_copy 104 = .ok (.iload 6, 2) := by decide +kernel
theorem dX11_copy_106 : decode cX11_copy 106 = .ok (.iload 5, 2) := by decide +kernel
theorem dX11_copy_108 : decode cX11_copy 108 = .ok (.if_icmp .ge 30, 3) := by decide +kernel
theorem dX11_copy_111 : decode cX11_copy 111 = .ok (.aload_n 0, 1) := by decide +kernel
theorem dX11_copy_112 : decode cX11_copy 112 = .ok (.getfield 23, 3) := by decide +kernel
theorem dX11_copy_115 : decode cX11_copy 115 = .ok (.iload 6, 2) := by decide +kernel
theorem dX11_copy_117 : decode cX11_copy 117 = .ok (.aload_n 0, 1) := by decide +kernel
theorem dX11_copy_118 : decode cX11_copy 118 = .ok (.getfield 20, 3) := by decide +kernel
theorem dX11_copy_121 : decode cX11_copy 121 = .ok (.bipush 48, 2) := by decide +kernel
theorem dX11_copy_123 : decode cX11_copy 123 = .ok (.iload_n 1, 1) := by decide +kernel
theorem dX11_copy_124 : decode cX11_copy 124 = .ok (.imul, 1) := by decide +kernel
theorem dX11_copy_125 : decode cX11_copy 125 = .ok (.iload_n 2, 1) := by decide +kernel
theorem dX11_copy_126 : decode cX11_copy 126 = .ok (.iadd, 1) := by decide +kernel
theorem dX11_copy_127 : decode cX11_copy 127 = .ok (.iload 6, 2) := by decide +kernel
theorem dX11_copy_129 : decode cX11_copy 129 = .ok (.iadd, 1) := by decide +kernel
theorem dX11_copy_130 : decode cX11_copy 130 = .ok (.iaload, 1) := by decide +kernel
theorem dX11_copy_131 : decode cX11_copy 131 = .ok (.iastore, 1) := by decide +kernel
theorem dX11_copy_132 : decode cX11_copy 132 = .ok (.iinc 6 1, 3) := by decide +kernel
theorem dX11_copy_135 : decode cX11_copy 135 = .ok (.goto (-31), 3) := by decide +kernel
theorem dX11_copy_138 : decode cX11_copy 138 = .ok (.iconst 0, 1) := by decide +kernel
theorem dX11_copy_139 : decode cX11_copy 139 = .ok (.istore 6, 2) := by decide +kernel
theorem dX11_copy_141 : decode cX11_copy 141 = .ok (.iload 6, 2) := by decide +kernel
theorem dX11_copy_143 : decode cX11_copy 143 = .ok (.iload 5, 2) := by decide +kernel
theorem dX11_copy_145 : decode cX11_copy 145 = .ok (.if_icmp .ge 31, 3) := by decide +kernel
theorem dX11_copy_148 : decode cX11_copy 148 = .ok (.aload_n 0, 1) := by decide +kernel
theorem dX11_copy_149 : decode cX11_copy 149 = .ok (.getfield 20, 3) := by decide +kernel
theorem dX11_copy_152 : decode cX11_copy 152 = .ok (.bipush 48, 2) := by decide +kernel
theorem dX11_copy_154 : decode cX11_copy 154 = .ok (.iload_n 3, 1) := by decide +kernel
theorem dX11_copy_155 : decode cX11_copy 155 = .ok (.imul, 1) := by decide +kernel
theorem dX11_copy_156 : decode cX11_copy 156 = .ok (.iload 4, 2) := by decide +kernel
theorem dX11_copy_158 : decode cX11_copy 158 = .ok (.iadd, 1) := by decide +kernel
theorem dX11_copy_159 : decode cX11_copy 159 = .ok (.iload 6, 2) := by decide +kernel
theorem dX11_copy_161 : decode cX11_copy 161 = .ok (.iadd, 1) := by decide +kernel
theorem dX11_copy_162 : decode cX11_copy 162 = .ok (.aload_n 0, 1) := by decide +kernel
theorem dX11_copy_163 : decode cX11_copy 163 = .ok (.getfield 23, 3) := by decide +kernel
theorem dX11_copy_166 : decode cX11_copy 166 = .ok (.iload 6, 2) := by decide +kernel
theorem dX11_copy_168 : decode cX11_copy 168 = .ok (.iaload, 1) := by decide +kernel
theorem dX11_copy_169 : decode cX11_copy 169 = .ok (.iastore, 1) := by decide +kernel
theorem dX11_copy_170 : decode cX11_copy 170 = .ok (.iinc 6 1, 3) := by decide +kernel
theorem dX11_copy_173 : decode cX11_copy 173 = .ok (.goto (-32), 3) := by decide +kernel
theorem dX11_copy_176 : decode cX11_copy 176 = .ok (.iconst 1, 1) := by decide +kernel
theorem dX11_copy_177 : decode cX11_copy 177 = .ok (.ireturn, 1) := by decide +kernel
noncomputable def L_X11_copy_104 (x1 : Int32) (x2 : Int32) (x3 : Int32) (x4 : Int32) (x5 : Int32) : Nat → Int32 → qM → (qM → Option (Int32 × qM)) → Option (Int32 × qM)
  | 0, _, _, _ => none
  | n + 1, x10, u8, e1 => if x5 ≤ x10 then e1 u8 else q_ck (q_in (((48 * x1) + x2) + x10) 288) (q_ck (q_in x10 48) (q_lt (q_si u8 68 0 (Int32.toNatClampNeg x10) (u8.1 67 0 (Int32.toNatClampNeg (((48 * x1) + x2) + x10)))) (fun (u9 : qM) => q_lt (x10 + 1) (fun (x11 : Int32) => L_X11_copy_104 x1 x2 x3 x4 x5 n x11 u9 e1))))
noncomputable def L_X11_copy_141 (x3 : Int32) (x4 : Int32) (x5 : Int32) : Nat → Int32 → qM → (qM → Option (Int32 × qM)) → Option (Int32 × qM)
  | 0, _, _, _ => none
  | n + 1, x12, u11, e1 => if x5 ≤ x12 then e1 u11 else q_ck (q_in x12 48) (q_ck (q_in (((48 * x3) + x4) + x12) 288) (q_lt (q_si u11 67 0 (Int32.toNatClampNeg (((48 * x3) + x4) + x12)) (u11.1 68 0 (Int32.toNatClampNeg x12))) (fun (u12 : qM) => q_lt (x12 + 1) (fun (x13 : Int32) => L_X11_copy_141 x3 x4 x5 n x13 u12 e1))))
noncomputable def f_X11_copy (x1 : Int32) (x2 : Int32) (x3 : Int32) (x4 : Int32) (x5 : Int32) (u0 : qM) : Option (Int32 × qM) :=
  q_bd (f_X11_isSix x1 u0) (fun (x6 : Int32) (u1 : qM) => q_jn (fun  (u2 : qM) => some ((-1), u2)) (fun j1 => if x6 = 0 then j1 u1 else q_bd (f_X11_isSix x3 u1) (fun (x7 : Int32) (u3 : qM) => if x7 = 0 then j1 u3 else if (0 : Int32) ≤ x5 then q_ck (q_in x1 6) (q_jn (fun  (u4 : qM) => q_bd (f_X11_meets 1 u4) (fun (x8 : Int32) (u5 : qM) => some (x8, u5))) (fun j2 => if (u3.1 66 0 (Int32.toNatClampNeg x1)) < 0 then j2 u3 else q_ck (q_in x3 6) (if (0 : Int32) ≤ (u3.1 66 0 (Int32.toNatClampNeg x3)) then q_jn (fun  (u6 : qM) => q_bd (f_X11_meets 2 u6) (fun (x9 : Int32) (u7 : qM) => some (x9, u7))) (fun j3 => if x2 < 0 then j3 u3 else if x4 < 0 then j3 u3 else q_ck (q_in x1 6) (if (0 : Int32) < (lg_cmp ((Int32.toInt64 x2) + (Int32.toInt64 x5)) (Int32.toInt64 (u3.1 66 0 (Int32.toNatClampNeg x1)))) then j3 u3 else q_ck (q_in x3 6) (if (lg_cmp ((Int32.toInt64 x4) + (Int32.toInt64 x5)) (Int32.toInt64 (u3.1 66 0 (Int32.toNatClampNeg x3)))) ≤ 0 then L_X11_copy_104 x1 x2 x3 x4 x5 q_fu 0 u3 (fun u10 => L_X11_copy_141 x3 x4 x5 q_fu 0 u10 (fun u13 => some (1, u13))) else j3 u3))) else j2 u3))) else q_bd (f_X11_meets 5 u3) (fun (x14 : Int32) (u14 : qM) => some (x14, u14)))))
set_option maxRecDepth 100000 in
set_option maxHeartbeats 4000000 in
theorem TL_X11_copy_104 (l : Launch) (G : qG) (x1 : Int32) (x2 : Int32) (x3 : Int32) (x4 : Int32) (x5 : Int32)  (e1 : qM → Option (Int32 × qM)) (he1 : ∀  (v : qM), qAW l G m_X11_copy (q_mq G q_cI) 138 [(0, .ref (q_ad G 11 0)), (3, .int x3), (4, .int x4), (5, .int x5)] [] v (e1 v)) : ∀ (n : Nat) (x10 : Int32) (u8 : qM), qAW l G m_X11_copy (q_mq G q_cI) 104 [(0, .ref (q_ad G 11 0)), (1, .int x1), (2, .int x2), (3, .int x3), (4, .int x4), (5, .int x5), (6, .int x10)] [] u8 (L_X11_copy_104 x1 x2 x3 x4 x5 n x10 u8 e1) := by
  intro n
  induction n with
  | zero => intros; exact aw_none
  | succ n ih =>
    intro x10 u8
    unfold L_X11_copy_104
    refine aw_iload (i := 6) dX11_copy_104 106 rfl 6 rfl ?_
    refine aw_iload (i := 5) dX11_copy_106 108 rfl 5 rfl ?_
    refine aw_icmp_ge dX11_copy_108 111 rfl 138 rfl (fun h14 => ?_) (fun h14 => ?_)
    · exact aw_conv [0, 3, 4, 5] rfl (he1 u8)
    · refine aw_aload_n (i := 0) dX11_copy_111 112 rfl rfl 0 rfl ?_
      refine gf_X11_8 dX11_copy_112 115 rfl wd_234 (ok_11 (by decide)) ?_
      refine aw_iload (i := 6) dX11_copy_115 117 rfl 6 rfl ?_
      refine aw_aload_n (i := 0) dX11_copy_117 118 rfl rfl 0 rfl ?_
      refine gf_X11_7 dX11_copy_118 121 rfl wd_230 (ok_11 (by decide)) ?_
      refine aw_bipush (x := 48) dX11_copy_121 123 rfl rfl ?_
      refine aw_iload_n (i := 1) dX11_copy_123 124 rfl rfl 1 rfl ?_
      refine aw_imul dX11_copy_124 125 rfl ?_
      refine aw_iload_n (i := 2) dX11_copy_125 126 rfl rfl 2 rfl ?_
      refine aw_iadd dX11_copy_126 127 rfl ?_
      refine aw_iload (i := 6) dX11_copy_127 129 rfl 6 rfl ?_
      refine aw_iadd dX11_copy_129 130 rfl ?_
      refine aw_iald dX11_copy_130 131 rfl at_67 (al_67 _) (ok_67 (by decide)) (fun h15 => ?_)
      refine aw_iast dX11_copy_131 132 rfl at_68 (al_68 _) (ok_68 (by decide)) (fun h16 => ?_)
      refine aw_ltm (fun u9 => ?_)
      refine aw_iincx (i := 6) dX11_copy_132 135 rfl 6 rfl 1 rfl (fun x11 => [(6, .int x11), (0, .ref (q_ad G 11 0)), (1, .int x1), (2, .int x2), (3, .int x3), (4, .int x4), (5, .int x5)]) (by decide) (fun _ => rfl) (fun x11 => ?_)
      refine aw_goto dX11_copy_135 104 rfl ?_
      exact aw_conv [1, 2, 3, 4, 5, 6, 0] rfl (ih x11 u9)
set_option maxRecDepth 100000 in
set_option maxHeartbeats 4000000 in
theorem TL_X11_copy_141 (l : Launch) (G : qG) (x3 : Int32) (x4 : Int32) (x5 : Int32)  (e1 : qM → Option (Int32 × qM)) (he1 : ∀  (v : qM), qAW l G m_X11_copy (q_mq G q_cI) 176 [] [] v (e1 v)) : ∀ (n : Nat) (x12 : Int32) (u11 : qM), qAW l G m_X11_copy (q_mq G q_cI) 141 [(0, .ref (q_ad G 11 0)), (3, .int x3), (4, .int x4), (5, .int x5), (6, .int x12)] [] u11 (L_X11_copy_141 x3 x4 x5 n x12 u11 e1) := by
  intro n
  induction n with
  | zero => intros; exact aw_none
  | succ n ih =>
    intro x12 u11
    unfold L_X11_copy_141
    refine aw_iload (i := 6) dX11_copy_141 143 rfl 4 rfl ?_
    refine aw_iload (i := 5) dX11_copy_143 145 rfl 3 rfl ?_
    refine aw_icmp_ge dX11_copy_145 148 rfl 176 rfl (fun h17 => ?_) (fun h17 => ?_)
    · exact aw_conv [] rfl (he1 u11)
    · refine aw_aload_n (i := 0) dX11_copy_148 149 rfl rfl 0 rfl ?_
      refine gf_X11_7 dX11_copy_149 152 rfl wd_230 (ok_11 (by decide)) ?_
      refine aw_bipush (x := 48) dX11_copy_152 154 rfl rfl ?_
      refine aw_iload_n (i := 3) dX11_copy_154 155 rfl rfl 1 rfl ?_
      refine aw_imul dX11_copy_155 156 rfl ?_
      refine aw_iload (i := 4) dX11_copy_156 158 rfl 2 rfl ?_
      refine aw_iadd dX11_copy_158 159 rfl ?_
      refine aw_iload (i := 6) dX11_copy_159 161 rfl 4 rfl ?_
      refine aw_iadd dX11_copy_161 162 rfl ?_
      refine aw_aload_n (i := 0) dX11_copy_162 163 rfl rfl 0 rfl ?_
      refine gf_X11_8 dX11_copy_163 166 rfl wd_234 (ok_11 (by decide)) ?_
      refine aw_iload (i := 6) dX11_copy_166 168 rfl 4 rfl ?_
      refine aw_iald dX11_copy_168 169 rfl at_68 (al_68 _) (ok_68 (by decide)) (fun h18 => ?_)
      refine aw_iast dX11_copy_169 170 rfl at_67 (al_67 _) (ok_67 (by decide)) (fun h19 => ?_)
      refine aw_ltm (fun u12 => ?_)
      refine aw_iincx (i := 6) dX11_copy_170 173 rfl 4 rfl 1 rfl (fun x13 => [(6, .int x13), (0, .ref (q_ad G 11 0)), (3, .int x3), (4, .int x4), (5, .int x5)]) (by decide) (fun _ => rfl) (fun x13 => ?_)
      refine aw_goto dX11_copy_173 141 rfl ?_
      exact aw_conv [1, 2, 3, 4, 0] rfl (ih x13 u12)
set_option maxRecDepth 100000 in
set_option maxHeartbeats 4000000 in
theorem k_X11_copy (l : Launch) (G : qG) (x1 : Int32) (x2 : Int32) (x3 : Int32) (x4 : Int32) (x5 : Int32)  (u0 : qM) : qCt l G m_X11_copy q_cI [.ref (q_ad G 11 0), .int x1, .int x2, .int x3, .int x4, .int x5] u0 (f_X11_copy x1 x2 x3 x4 x5 u0) := by
  refine q_entry pk_X11_copy (Nat.le_of_ble_eq_true rfl) ?_
  show qAW l G m_X11_copy (q_mq G q_cI) 0 [(0, .ref (q_ad G 11 0)), (1, .int x1), (2, .int x2), (3, .int x3), (4, .int x4), (5, .int x5)] [] u0 (f_X11_copy x1 x2 x3 x4 x5 u0)
  unfold f_X11_copy
  refine aw_iload_n (i := 1) dX11_copy_0 1 rfl rfl 1 rfl ?_
  refine aw_callS (M2 := m_X11_isSix) (cv := q_cI) dX11_copy_1 4 rfl (k_X11_isSix l G x1  u0) wd_227 wv_X11_isSix pk_X11_isSix rfl ⟨by decide, by decide⟩ ⟨Nat.zero_le _, Nat.zero_le _⟩ rfl (Nat.le_of_ble_eq_true rfl) (fun x6 u1 => ?_)
  show qAW l G m_X11_copy (q_mq G q_cI) 4 [(0, .ref (q_ad G 11 0)), (1, .int x1), (2, .int x2), (3, .int x3), (4, .int x4), (5, .int x5)] [.int x6] u1 _
  refine aw_jn (fun k => ∀  (u2 : qM), qAW l G m_X11_copy (q_mq G q_cI) 14 [] [] u2 (k u2)) ?_ ?_
  · intro u2
    refine aw_iconst (x := (-1)) dX11_copy_14 15 rfl rfl ?_
    exact aw_iret dX11_copy_15 rfl
  · intro j1 hj1
    refine aw_if_eq dX11_copy_4 7 rfl 14 rfl (fun h1 => ?_) (fun h1 => ?_)
    · exact aw_conv [] rfl (hj1 u1)
    · refine aw_iload_n (i := 3) dX11_copy_7 8 rfl rfl 3 rfl ?_
      refine aw_callS (M2 := m_X11_isSix) (cv := q_cI) dX11_copy_8 11 rfl (k_X11_isSix l G x3  u1) wd_227 wv_X11_isSix pk_X11_isSix rfl ⟨by decide, by decide⟩ ⟨Nat.zero_le _, Nat.zero_le _⟩ rfl (Nat.le_of_ble_eq_true rfl) (fun x7 u3 => ?_)
      show qAW l G m_X11_copy (q_mq G q_cI) 11 [(0, .ref (q_ad G 11 0)), (1, .int x1), (2, .int x2), (3, .int x3), (4, .int x4), (5, .int x5)] [.int x7] u3 _
      refine aw_if_ne dX11_copy_11 14 rfl 16 rfl (fun h2 => ?_) (fun h2 => ?_)
      · refine aw_iload (i := 5) dX11_copy_16 18 rfl 5 rfl ?_
        refine aw_if_ge dX11_copy_18 21 rfl 27 rfl (fun h3 => ?_) (fun h3 => ?_)
        · refine aw_aload_n (i := 0) dX11_copy_27 28 rfl rfl 0 rfl ?_
          refine gf_X11_6 dX11_copy_28 31 rfl wd_228 (ok_11 (by decide)) ?_
          refine aw_iload_n (i := 1) dX11_copy_31 32 rfl rfl 1 rfl ?_
          refine aw_iald dX11_copy_32 33 rfl at_66 (al_66 _) (ok_66 (by decide)) (fun h4 => ?_)
          refine aw_jn (fun k => ∀  (u4 : qM), qAW l G m_X11_copy (q_mq G q_cI) 45 [(0, .ref (q_ad G 11 0))] [] u4 (k u4)) ?_ ?_
          · intro u4
            refine aw_aload_n (i := 0) dX11_copy_45 46 rfl rfl 0 rfl ?_
            refine aw_iconst (x := 1) dX11_copy_46 47 rfl rfl ?_
            refine aw_callV (M2 := m_X11_meets) (cv := q_cI) dX11_copy_47 50 rfl (k_X11_meets l G 1  u4) wd_229 wv_X11_meets pk_X11_meets rfl rfl ⟨by decide, by decide⟩ ⟨Nat.zero_le _, Nat.zero_le _⟩ at_11 (ok_11 (by decide)) rfl rfl rfl (Nat.le_of_ble_eq_true rfl) (fun x8 u5 => ?_)
            show qAW l G m_X11_copy (q_mq G q_cI) 50 [(0, .ref (q_ad G 11 0))] [.int x8] u5 _
            exact aw_iret dX11_copy_50 rfl
          · intro j2 hj2
            refine aw_if_lt dX11_copy_33 36 rfl 45 rfl (fun h5 => ?_) (fun h5 => ?_)
            · exact aw_conv [0] rfl (hj2 u3)
            · refine aw_aload_n (i := 0) dX11_copy_36 37 rfl rfl 0 rfl ?_
              refine gf_X11_6 dX11_copy_37 40 rfl wd_228 (ok_11 (by decide)) ?_
              refine aw_iload_n (i := 3) dX11_copy_40 41 rfl rfl 3 rfl ?_
              refine aw_iald dX11_copy_41 42 rfl at_66 (al_66 _) (ok_66 (by decide)) (fun h6 => ?_)
              refine aw_if_ge dX11_copy_42 45 rfl 51 rfl (fun h7 => ?_) (fun h7 => ?_)
              · refine aw_iload_n (i := 2) dX11_copy_51 52 rfl rfl 2 rfl ?_
                refine aw_jn (fun k => ∀  (u6 : qM), qAW l G m_X11_copy (q_mq G q_cI) 95 [(0, .ref (q_ad G 11 0))] [] u6 (k u6)) ?_ ?_
                · intro u6
                  refine aw_aload_n (i := 0) dX11_copy_95 96 rfl rfl 0 rfl ?_
                  refine aw_iconst (x := 2) dX11_copy_96 97 rfl rfl ?_
                  refine aw_callV (M2 := m_X11_meets) (cv := q_cI) dX11_copy_97 100 rfl (k_X11_meets l G 2  u6) wd_229 wv_X11_meets pk_X11_meets rfl rfl ⟨by decide, by decide⟩ ⟨Nat.zero_le _, Nat.zero_le _⟩ at_11 (ok_11 (by decide)) rfl rfl rfl (Nat.le_of_ble_eq_true rfl) (fun x9 u7 => ?_)
                  show qAW l G m_X11_copy (q_mq G q_cI) 100 [(0, .ref (q_ad G 11 0))] [.int x9] u7 _
                  exact aw_iret dX11_copy_100 rfl
                · intro j3 hj3
                  refine aw_if_lt dX11_copy_52 55 rfl 95 rfl (fun h8 => ?_) (fun h8 => ?_)
                  · exact aw_conv [0] rfl (hj3 u3)
                  · refine aw_iload (i := 4) dX11_copy_55 57 rfl 4 rfl ?_
                    refine aw_if_lt dX11_copy_57 60 rfl 95 rfl (fun h9 => ?_) (fun h9 => ?_)
                    · exact aw_conv [0] rfl (hj3 u3)
                    · refine aw_iload_n (i := 2) dX11_copy_60 61 rfl rfl 2 rfl ?_
                      refine aw_i2l dX11_copy_61 62 rfl ?_
                      refine aw_iload (i := 5) dX11_copy_62 64 rfl 5 rfl ?_
                      refine aw_i2l dX11_copy_64 65 rfl ?_
                      refine aw_ladd dX11_copy_65 66 rfl ?_
                      refine aw_aload_n (i := 0) dX11_copy_66 67 rfl rfl 0 rfl ?_
                      refine gf_X11_6 dX11_copy_67 70 rfl wd_228 (ok_11 (by decide)) ?_
                      refine aw_iload_n (i := 1) dX11_copy_70 71 rfl rfl 1 rfl ?_
                      refine aw_iald dX11_copy_71 72 rfl at_66 (al_66 _) (ok_66 (by decide)) (fun h10 => ?_)
                      refine aw_i2l dX11_copy_72 73 rfl ?_
                      refine aw_lcmp dX11_copy_73 74 rfl ?_
                      refine aw_if_gt dX11_copy_74 77 rfl 95 rfl (fun h11 => ?_) (fun h11 => ?_)
                      · exact aw_conv [0] rfl (hj3 u3)
                      · refine aw_iload (i := 4) dX11_copy_77 79 rfl 4 rfl ?_
                        refine aw_i2l dX11_copy_79 80 rfl ?_
                        refine aw_iload (i := 5) dX11_copy_80 82 rfl 5 rfl ?_
                        refine aw_i2l dX11_copy_82 83 rfl ?_
                        refine aw_ladd dX11_copy_83 84 rfl ?_
                        refine aw_aload_n (i := 0) dX11_copy_84 85 rfl rfl 0 rfl ?_
                        refine gf_X11_6 dX11_copy_85 88 rfl wd_228 (ok_11 (by decide)) ?_
                        refine aw_iload_n (i := 3) dX11_copy_88 89 rfl rfl 3 rfl ?_
                        refine aw_iald dX11_copy_89 90 rfl at_66 (al_66 _) (ok_66 (by decide)) (fun h12 => ?_)
                        refine aw_i2l dX11_copy_90 91 rfl ?_
                        refine aw_lcmp dX11_copy_91 92 rfl ?_
                        refine aw_if_le dX11_copy_92 95 rfl 101 rfl (fun h13 => ?_) (fun h13 => ?_)
                        · refine aw_iconst (x := 0) dX11_copy_101 102 rfl rfl ?_
                          refine aw_istore dX11_copy_102 104 rfl [(6, .int 0), (0, .ref (q_ad G 11 0)), (1, .int x1), (2, .int x2), (3, .int x3), (4, .int x4), (5, .int x5)] (by decide) rfl ?_
                          refine aw_conv [1, 2, 3, 4, 5, 6, 0] rfl (TL_X11_copy_104 l G x1 x2 x3 x4 x5  _ ?_ _ 0 u3)
                          · intro u10
                            refine aw_iconst (x := 0) dX11_copy_138 139 rfl rfl ?_
                            refine aw_istore dX11_copy_139 141 rfl [(6, .int 0), (0, .ref (q_ad G 11 0)), (3, .int x3), (4, .int x4), (5, .int x5)] (by decide) rfl ?_
                            refine aw_conv [1, 2, 3, 4, 0] rfl (TL_X11_copy_141 l G x3 x4 x5  _ ?_ _ 0 u10)
                            · intro u13
                              refine aw_iconst (x := 1) dX11_copy_176 177 rfl rfl ?_
                              exact aw_iret dX11_copy_177 rfl
                        · exact aw_conv [0] rfl (hj3 u3)
              · exact aw_conv [0] rfl (hj2 u3)
        · refine aw_aload_n (i := 0) dX11_copy_21 22 rfl rfl 0 rfl ?_
          refine aw_iconst (x := 5) dX11_copy_22 23 rfl rfl ?_
          refine aw_callV (M2 := m_X11_meets) (cv := q_cI) dX11_copy_23 26 rfl (k_X11_meets l G 5  u3) wd_229 wv_X11_meets pk_X11_meets rfl rfl ⟨by decide, by decide⟩ ⟨Nat.zero_le _, Nat.zero_le _⟩ at_11 (ok_11 (by decide)) rfl rfl rfl (Nat.le_of_ble_eq_true rfl) (fun x14 u14 => ?_)
          show qAW l G m_X11_copy (q_mq G q_cI) 26 [(0, .ref (q_ad G 11 0)), (1, .int x1), (2, .int x2), (3, .int x3), (4, .int x4), (5, .int x5)] [.int x14] u14 _
          exact aw_iret dX11_copy_26 rfl
      · exact aw_conv [] rfl (hj1 u3)
theorem dX11_countOf_0 : decode cX11_countOf 0 = .ok (.iconst 0, 1) := by decide +kernel
theorem dX11_countOf_1 : decode cX11_countOf 1 = .ok (.istore_n 2, 1) := by decide +kernel
theorem dX11_countOf_2 : decode cX11_countOf 2 = .ok (.iconst 0, 1) := by decide +kernel
theorem dX11_countOf_3 : decode cX11_countOf 3 = .ok (.istore_n 3, 1) := by decide +kernel
theorem dX11_countOf_4 : decode cX11_countOf 4 = .ok (.iload_n 3, 1) := by decide +kernel
theorem dX11_countOf_5 : decode cX11_countOf 5 = .ok (.aload_n 0, 1) := by decide +kernel
theorem dX11_countOf_6 : decode cX11_countOf 6 = .ok (.getfield 17, 3) := by decide +kernel
theorem dX11_countOf_9 : decode cX11_countOf 9 = .ok (.iload_n 1, 1) := by decide +kernel
theorem dX11_countOf_10 : decode cX11_countOf 10 = .ok (.iaload, 1) := by decide +kernel
theorem dX11_countOf_11 : decode cX11_countOf 11 = .ok (.if_icmp .ge 33, 3) := by decide +kernel
theorem dX11_countOf_14 : decode cX11_countOf 14 = .ok (.iload_n 2, 1) := by decide +kernel
theorem dX11_countOf_15 : decode cX11_countOf 15 = .ok (.aload_n 0, 1) := by decide +kernel
theorem dX11_countOf_16 : decode cX11_countOf 16 = .ok (.getfield 20, 3) := by decide +kernel
theorem dX11_countOf_19 : decode cX11_countOf 19 = .ok (.bipush 48, 2) := by decide +kernel
theorem dX11_countOf_21 : decode cX11_countOf 21 = .ok (.iload_n 1, 1) := by decide +kernel
theorem dX11_countOf_22 : decode cX11_countOf 22 = .ok (.imul, 1) := by decide +kernel
theorem dX11_countOf_23 : decode cX11_countOf 23 = .ok (.iload_n 3, 1) := by decide +kernel
theorem dX11_countOf_24 : decode cX11_countOf 24 = .ok (.iadd, 1) := by decide +kernel
theorem dX11_countOf_25 : decode cX11_countOf 25 = .ok (.iaload, 1) := by decide +kernel
theorem dX11_countOf_26 : decode cX11_countOf 26 = .ok (.bipush (-9), 2) := by decide +kernel
theorem dX11_countOf_28 : decode cX11_countOf 28 = .ok (.if_icmp .ne 7, 3) := by decide +kernel
theorem dX11_countOf_31 : decode cX11_countOf 31 = .ok (.iconst 0, 1) := by decide +kernel
theorem dX11_countOf_32 : decode cX11_countOf 32 = .ok (.goto 4, 3) := by decide +kernel
theorem dX11_countOf_35 : decode cX11_countOf 35 = .ok (.iconst 1, 1) := by decide +kernel
theorem dX11_countOf_36 : decode cX11_countOf 36 = .ok (.iadd, 1) := by decide +kernel
theorem dX11_countOf_37 : decode cX11_countOf 37 = .ok (.istore_n 2, 1) := by decide +kernel
theorem dX11_countOf_38 : decode cX11_countOf 38 = .ok (.iinc 3 1, 3) := by decide +kernel
theorem dX11_countOf_41 : decode cX11_countOf 41 = .ok (.goto (-37), 3) := by decide +kernel
theorem dX11_countOf_44 : decode cX11_countOf 44 = .ok (.iload_n 2, 1) := by decide +kernel
theorem dX11_countOf_45 : decode cX11_countOf 45 = .ok (.ireturn, 1) := by decide +kernel
noncomputable def L_X11_countOf_4 (x1 : Int32) : Nat → Int32 → Int32 → qM → (Int32 → qM → Option (Int32 × qM)) → Option (Int32 × qM)
  | 0, _, _, _, _ => none
  | n + 1, x2, x3, u1, e1 => q_ck (q_in x1 6) (if (u1.1 66 0 (Int32.toNatClampNeg x1)) ≤ x3 then e1 x2 u1 else q_ck (q_in ((48 * x1) + x3) 288) (q_jn (fun (x4 : Int32) (u2 : qM) => q_lt (x2 + x4) (fun (x5 : Int32) => q_lt (x3 + 1) (fun (x6 : Int32) => L_X11_countOf_4 x1 n x5 x6 u2 e1))) (fun j1 => if (u1.1 67 0 (Int32.toNatClampNeg ((48 * x1) + x3))) = (-9) then j1 0 u1 else j1 1 u1)))
noncomputable def f_X11_countOf (x1 : Int32) (u0 : qM) : Option (Int32 × qM) :=
  L_X11_countOf_4 x1 q_fu 0 0 u0 (fun x7 u3 => some (x7, u3))
set_option maxRecDepth 100000 in
set_option maxHeartbeats 4000000 in
theorem TL_X11_countOf_4 (l : Launch) (G : qG) (x1 : Int32)  (e1 : Int32 → qM → Option (Int32 × qM)) (he1 : ∀ (y1 : Int32) (v : qM), qAW l G m_X11_countOf (q_mq G q_cI) 44 [(2, .int y1)] [] v (e1 y1 v)) : ∀ (n : Nat) (x2 : Int32) (x3 : Int32) (u1 : qM), qAW l G m_X11_countOf (q_mq G q_cI) 4 [(0, .ref (q_ad G 11 0)), (1, .int x1), (2, .int x2), (3, .int x3)] [] u1 (L_X11_countOf_4 x1 n x2 x3 u1 e1) := by
  intro n
  induction n with
  | zero => intros; exact aw_none
  | succ n ih =>
    intro x2 x3 u1
    unfold L_X11_countOf_4
    refine aw_iload_n (i := 3) dX11_countOf_4 5 rfl rfl 3 rfl ?_
    refine aw_aload_n (i := 0) dX11_countOf_5 6 rfl rfl 0 rfl ?_
    refine gf_X11_6 dX11_countOf_6 9 rfl wd_228 (ok_11 (by decide)) ?_
    refine aw_iload_n (i := 1) dX11_countOf_9 10 rfl rfl 1 rfl ?_
    refine aw_iald dX11_countOf_10 11 rfl at_66 (al_66 _) (ok_66 (by decide)) (fun h1 => ?_)
    refine aw_icmp_ge dX11_countOf_11 14 rfl 44 rfl (fun h2 => ?_) (fun h2 => ?_)
    · exact aw_conv [2] rfl (he1 x2 u1)
    · refine aw_iload_n (i := 2) dX11_countOf_14 15 rfl rfl 2 rfl ?_
      refine aw_aload_n (i := 0) dX11_countOf_15 16 rfl rfl 0 rfl ?_
      refine gf_X11_7 dX11_countOf_16 19 rfl wd_230 (ok_11 (by decide)) ?_
      refine aw_bipush (x := 48) dX11_countOf_19 21 rfl rfl ?_
      refine aw_iload_n (i := 1) dX11_countOf_21 22 rfl rfl 1 rfl ?_
      refine aw_imul dX11_countOf_22 23 rfl ?_
      refine aw_iload_n (i := 3) dX11_countOf_23 24 rfl rfl 3 rfl ?_
      refine aw_iadd dX11_countOf_24 25 rfl ?_
      refine aw_iald dX11_countOf_25 26 rfl at_67 (al_67 _) (ok_67 (by decide)) (fun h3 => ?_)
      refine aw_bipush (x := (-9)) dX11_countOf_26 28 rfl rfl ?_
      refine aw_jn (fun k => ∀ (x4 : Int32) (u2 : qM), qAW l G m_X11_countOf (q_mq G q_cI) 36 [(0, .ref (q_ad G 11 0)), (1, .int x1), (3, .int x3)] [.int x4, .int x2] u2 (k x4 u2)) ?_ ?_
      · intro x4 u2
        refine aw_iadd dX11_countOf_36 37 rfl ?_
        refine aw_lti (fun x5 => ?_)
        refine aw_istore_n dX11_countOf_37 38 rfl rfl [(2, .int x5), (0, .ref (q_ad G 11 0)), (1, .int x1), (3, .int x3)] (by decide) rfl ?_
        refine aw_iincx (i := 3) dX11_countOf_38 41 rfl 3 rfl 1 rfl (fun x6 => [(3, .int x6), (2, .int x5), (0, .ref (q_ad G 11 0)), (1, .int x1)]) (by decide) (fun _ => rfl) (fun x6 => ?_)
        refine aw_goto dX11_countOf_41 4 rfl ?_
        exact aw_conv [2, 3, 1, 0] rfl (ih x5 x6 u2)
      · intro j1 hj1
        refine aw_icmp_ne dX11_countOf_28 31 rfl 35 rfl (fun h4 => ?_) (fun h4 => ?_)
        · refine aw_iconst (x := 1) dX11_countOf_35 36 rfl rfl ?_
          exact aw_conv [0, 1, 3] rfl (hj1 1 u1)
        · refine aw_iconst (x := 0) dX11_countOf_31 32 rfl rfl ?_
          refine aw_goto dX11_countOf_32 36 rfl ?_
          exact aw_conv [0, 1, 3] rfl (hj1 0 u1)
set_option maxRecDepth 100000 in
set_option maxHeartbeats 4000000 in
theorem k_X11_countOf (l : Launch) (G : qG) (x1 : Int32)  (u0 : qM) : qCt l G m_X11_countOf q_cI [.ref (q_ad G 11 0), .int x1] u0 (f_X11_countOf x1 u0) := by
  refine q_entry pk_X11_countOf (Nat.le_of_ble_eq_true rfl) ?_
  show qAW l G m_X11_countOf (q_mq G q_cI) 0 [(0, .ref (q_ad G 11 0)), (1, .int x1)] [] u0 (f_X11_countOf x1 u0)
  unfold f_X11_countOf
  refine aw_iconst (x := 0) dX11_countOf_0 1 rfl rfl ?_
  refine aw_istore_n dX11_countOf_1 2 rfl rfl [(2, .int 0), (0, .ref (q_ad G 11 0)), (1, .int x1)] (by decide) rfl ?_
  refine aw_iconst (x := 0) dX11_countOf_2 3 rfl rfl ?_
  refine aw_istore_n dX11_countOf_3 4 rfl rfl [(3, .int 0), (2, .int 0), (0, .ref (q_ad G 11 0)), (1, .int x1)] (by decide) rfl ?_
  refine aw_conv [2, 3, 1, 0] rfl (TL_X11_countOf_4 l G x1  _ ?_ _ 0 0 u0)
  · intro x7 u3
    refine aw_iload_n (i := 2) dX11_countOf_44 45 rfl rfl 0 rfl ?_
    exact aw_iret dX11_countOf_45 rfl
theorem dX11_mean_0 : decode cX11_mean 0 = .ok (.aload_n 0, 1) := by decide +kernel
theorem dX11_mean_1 : decode cX11_mean 1 = .ok (.iload_n 1, 1) := by decide +kernel
theorem dX11_mean_2 : decode cX11_mean 2 = .ok (.invokevirtual 196, 3) := by decide +kernel
theorem dX11_mean_5 : decode cX11_mean 5 = .ok (.istore_n 2, 1) := by decide +kernel
theorem dX11_mean_6 : decode cX11_mean 6 = .ok (.iload_n 2, 1) := by decide +kernel
theorem dX11_mean_7 : decode cX11_mean 7 = .ok (.ifCond .ge 5, 3) := by decide +kernel
theorem dX11_mean_10 : decode cX11_mean 10 = .ok (.iload_n 2, 1) := by decide +kernel
theorem dX11_mean_11 : decode cX11_mean 11 = .ok (.ireturn, 1) := by decide +kernel
theorem dX11_mean_12 : decode cX11_mean 12 = .ok (.iconst 0, 1) := by decide +kernel
theorem dX11_mean_13 : decode cX11_mean 13 = .ok (.istore_n 3, 1) := by decide +kernel
theorem dX11_mean_14 : decode cX11_mean 14 = .ok (.iconst 0, 1) := by decide +kernel
theorem dX11_mean_15 : decode cX11_mean 15 = .ok (.istore 4, 2) := by decide +kernel
theorem dX11_mean_17 : decode cX11_mean 17 = .ok (.iload 4, 2) := by decide +kernel
theorem dX11_mean_19 : decode cX11_mean 19 = .ok (.aload_n 0, 1) := by decide +kernel
theorem dX11_mean_20 : decode cX11_mean 20 = .ok (.getfield 17, 3) := by decide +kernel
theorem dX11_mean_23 : decode cX11_mean 23 = .ok (.iload_n 1, 1) := by decide +kernel
theorem dX11_mean_24 : decode cX11_mean 24 = .ok (.iaload, 1) := by decide +kernel
theorem dX11_mean_25 : decode cX11_mean 25 = .ok (.if_icmp .ge 45, 3) := by decide +kernel
theorem dX11_mean_28 : decode cX11_mean 28 = .ok (.iload_n 3, 1) := by decide +kernel
theorem dX11_mean_29 : decode cX11_mean 29 = .ok (.aload_n 0, 1) := by decide +kernel
theorem dX11_mean_30 : decode cX11_mean 30 = .ok (.getfield 20, 3) := by decide +kernel
theorem dX11_mean_33 : decode cX11_mean 33 = .ok (.bipush 48, 2) := by decide +kernel
theorem dX11_mean_35 : decode cX11_mean 35 = .ok (.iload_n 1, 1) := by decide +kernel
theorem dX11_mean_36 : decode cX11_mean 36 = .ok (.imul, 1) := by decide +kernel
theorem dX11_mean_37 : decode cX11_mean 37 = .ok (.iload 4, 2) := by decide +kernel
theorem dX11_mean_39 : decode cX11_mean 39 = .ok (.iadd, 1) := by decide +kernel
theorem dX11_mean_40 : decode cX11_mean 40 = .ok (.iaload, 1) := by decide +kernel
theorem dX11_mean_41 : decode cX11_mean 41 = .ok (.bipush (-9), 2) := by decide +kernel
theorem dX11_mean_43 : decode cX11_mean 43 = .ok (.if_icmp .ne 7, 3) := by decide +kernel
theorem dX11_mean_46 : decode cX11_mean 46 = .ok (.iconst 0, 1) := by decide +kernel
theorem dX11_mean_47 : decode cX11_mean 47 = .ok (.goto 15, 3) := by decide +kernel
theorem dX11_mean_50 : decode cX11_mean 50 = .ok (.aload_n 0, 1) := by decide +kernel
theorem dX11_mean_51 : decode cX11_mean 51 = .ok (.getfield 20, 3) := by decide +kernel
theorem dX11_mean_54 : decode cX11_mean 54 = .ok (.bipush 48, 2) := by decide +kernel
theorem dX11_mean_56 : decode cX11_mean 56 = .ok (.iload_n 1, 1) := by decide +kernel
theorem dX11_mean_57 : decode cX11_mean 57 = .ok (.imul, 1) := by decide +kernel
theorem dX11_mean_58 : decode cX11_mean 58 = .ok (.iload 4, 2) := by decide +kernel
theorem dX11_mean_60 : decode cX11_mean 60 = .ok (.iadd, 1) := by decide +kernel
theorem dX11_mean_61 : decode cX11_mean 61 = .ok (.iaload, 1) := by decide +kernel
theorem dX11_mean_62 : decode cX11_mean 62 = .ok (.iadd, 1) := by decide +kernel
theorem dX11_mean_63 : decode cX11_mean 63 = .ok (.istore_n 3, 1) := by decide +kernel
theorem dX11_mean_64 : decode cX11_mean 64 = .ok (.iinc 4 1, 3) := by decide +kernel
theorem dX11_mean_67 : decode cX11_mean 67 = .ok (.goto (-50), 3) := by decide +kernel
theorem dX11_mean_70 : decode cX11_mean 70 = .ok (.aload_n 0, 1) := by decide +kernel
theorem dX11_mean_71 : decode cX11_mean 71 = .ok (.iload_n 1, 1) := by decide +kernel
theorem dX11_mean_72 : decode cX11_mean 72 = .ok (.invokevirtual 199, 3) := by decide +kernel
theorem dX11_mean_75 : decode cX11_mean 75 = .ok (.ifCond .ne 11, 3) := by decide +kernel
theorem dX11_mean_78 : decode cX11_mean 78 = .ok (.aload_n 0, 1) := by decide +kernel
theorem dX11_mean_79 : decode cX11_mean 79 = .ok (.iconst 4, 1) := by decide +kernel
theorem dX11_mean_80 : decode cX11_mean 80 = .ok (.invokevirtual 190, 3) := by decide +kernel
theorem dX11_mean_83 : decode cX11_mean 83 = .ok (.goto 15, 3) := by decide +kernel
theorem dX11_mean_86 : decode cX11_mean 86 = .ok (.aload_n 0, 1) := by decide +kernel
theorem dX11_mean_87 : decode cX11_mean 87 = .ok (.iload_n 3, 1) := by decide +kernel
theorem dX11_mean_88 : decode cX11_mean 88 = .ok (.aload_n 0, 1) := by decide +kernel
theorem dX11_mean_89 : decode cX11_mean 89 = .ok (.iload_n 1, 1) := by decide +kernel
theorem dX11_mean_90 : decode cX11_mean 90 = .ok (.invokevirtual 199, 3) := by decide +kernel
theorem dX11_mean_93 : decode cX11_mean 93 = .ok (.idiv, 1) := by decide +kernel
theorem dX11_mean_94 : decode cX11_mean 94 = .ok (.iconst 1, 1) := by decide +kernel
theorem dX11_mean_95 : decode cX11_mean 95 = .ok (.invokevirtual 202, 3) := by decide +kernel
theorem dX11_mean_98 : decode cX11_mean 98 = .ok (.ireturn, 1) := by decide +kernel
noncomputable def L_X11_mean_17 (x1 : Int32) : Nat → Int32 → Int32 → qM → (Int32 → qM → Option (Int32 × qM)) → Option (Int32 × qM)
  | 0, _, _, _, _ => none
  | n + 1, x3, x4, u2, e1 => q_ck (q_in x1 6) (if (u2.1 66 0 (Int32.toNatClampNeg x1)) ≤ x4 then e1 x3 u2 else q_ck (q_in ((48 * x1) + x4) 288) (q_jn (fun (x5 : Int32) (u3 : qM) => q_lt (x3 + x5) (fun (x6 : Int32) => q_lt (x4 + 1) (fun (x7 : Int32) => L_X11_mean_17 x1 n x6 x7 u3 e1))) (fun j1 => if (u2.1 67 0 (Int32.toNatClampNeg ((48 * x1) + x4))) = (-9) then j1 0 u2 else q_ck (q_in ((48 * x1) + x4) 288) (j1 (u2.1 67 0 (Int32.toNatClampNeg ((48 * x1) + x4))) u2))))
noncomputable def f_X11_mean (x1 : Int32) (u0 : qM) : Option (Int32 × qM) :=
  q_bd (f_X11_looked x1 u0) (fun (x2 : Int32) (u1 : qM) => if (0 : Int32) ≤ x2 then L_X11_mean_17 x1 q_fu 0 0 u1 (fun x8 u4 => q_bd (f_X11_countOf x1 u4) (fun (x9 : Int32) (u5 : qM) => q_jn (fun (x10 : Int32) (u6 : qM) => some (x10, u6)) (fun j2 => if x9 = 0 then q_bd (f_X11_meets 4 u5) (fun (x13 : Int32) (u9 : qM) => j2 x13 u9) else q_bd (f_X11_countOf x1 u5) (fun (x11 : Int32) (u7 : qM) => q_ck (q_nz x11) (q_bd (f_X11_ask (x8 / x11) 1 u7) (fun (x12 : Int32) (u8 : qM) => j2 x12 u8)))))) else some (x2, u1))
set_option maxRecDepth 100000 in
set_option maxHeartbeats 4000000 in
theorem TL_X11_mean_17 (l : Launch) (G : qG) (x1 : Int32)  (e1 : Int32 → qM → Option (Int32 × qM)) (he1 : ∀ (y1 : Int32) (v : qM), qAW l G m_X11_mean (q_mq G q_cI) 70 [(0, .ref (q_ad G 11 0)), (1, .int x1), (3, .int y1)] [] v (e1 y1 v)) : ∀ (n : Nat) (x3 : Int32) (x4 : Int32) (u2 : qM), qAW l G m_X11_mean (q_mq G q_cI) 17 [(0, .ref (q_ad G 11 0)), (1, .int x1), (3, .int x3), (4, .int x4)] [] u2 (L_X11_mean_17 x1 n x3 x4 u2 e1) := by
  intro n
  induction n with
  | zero => intros; exact aw_none
  | succ n ih =>
    intro x3 x4 u2
    unfold L_X11_mean_17
    refine aw_iload (i := 4) dX11_mean_17 19 rfl 3 rfl ?_
    refine aw_aload_n (i := 0) dX11_mean_19 20 rfl rfl 0 rfl ?_
    refine gf_X11_6 dX11_mean_20 23 rfl wd_228 (ok_11 (by decide)) ?_
    refine aw_iload_n (i := 1) dX11_mean_23 24 rfl rfl 1 rfl ?_
    refine aw_iald dX11_mean_24 25 rfl at_66 (al_66 _) (ok_66 (by decide)) (fun h2 => ?_)
    refine aw_icmp_ge dX11_mean_25 28 rfl 70 rfl (fun h3 => ?_) (fun h3 => ?_)
    · exact aw_conv [0, 1, 2] rfl (he1 x3 u2)
    · refine aw_iload_n (i := 3) dX11_mean_28 29 rfl rfl 2 rfl ?_
      refine aw_aload_n (i := 0) dX11_mean_29 30 rfl rfl 0 rfl ?_
      refine gf_X11_7 dX11_mean_30 33 rfl wd_230 (ok_11 (by decide)) ?_
      refine aw_bipush (x := 48) dX11_mean_33 35 rfl rfl ?_
      refine aw_iload_n (i := 1) dX11_mean_35 36 rfl rfl 1 rfl ?_
      refine aw_imul dX11_mean_36 37 rfl ?_
      refine aw_iload (i := 4) dX11_mean_37 39 rfl 3 rfl ?_
      refine aw_iadd dX11_mean_39 40 rfl ?_
      refine aw_iald dX11_mean_40 41 rfl at_67 (al_67 _) (ok_67 (by decide)) (fun h4 => ?_)
      refine aw_bipush (x := (-9)) dX11_mean_41 43 rfl rfl ?_
      refine aw_jn (fun k => ∀ (x5 : Int32) (u3 : qM), qAW l G m_X11_mean (q_mq G q_cI) 62 [(0, .ref (q_ad G 11 0)), (1, .int x1), (4, .int x4)] [.int x5, .int x3] u3 (k x5 u3)) ?_ ?_
      · intro x5 u3
        refine aw_iadd dX11_mean_62 63 rfl ?_
        refine aw_lti (fun x6 => ?_)
        refine aw_istore_n dX11_mean_63 64 rfl rfl [(3, .int x6), (0, .ref (q_ad G 11 0)), (1, .int x1), (4, .int x4)] (by decide) rfl ?_
        refine aw_iincx (i := 4) dX11_mean_64 67 rfl 3 rfl 1 rfl (fun x7 => [(4, .int x7), (3, .int x6), (0, .ref (q_ad G 11 0)), (1, .int x1)]) (by decide) (fun _ => rfl) (fun x7 => ?_)
        refine aw_goto dX11_mean_67 17 rfl ?_
        exact aw_conv [2, 3, 1, 0] rfl (ih x6 x7 u3)
      · intro j1 hj1
        refine aw_icmp_ne dX11_mean_43 46 rfl 50 rfl (fun h5 => ?_) (fun h5 => ?_)
        · refine aw_aload_n (i := 0) dX11_mean_50 51 rfl rfl 0 rfl ?_
          refine gf_X11_7 dX11_mean_51 54 rfl wd_230 (ok_11 (by decide)) ?_
          refine aw_bipush (x := 48) dX11_mean_54 56 rfl rfl ?_
          refine aw_iload_n (i := 1) dX11_mean_56 57 rfl rfl 1 rfl ?_
          refine aw_imul dX11_mean_57 58 rfl ?_
          refine aw_iload (i := 4) dX11_mean_58 60 rfl 3 rfl ?_
          refine aw_iadd dX11_mean_60 61 rfl ?_
          refine aw_iald dX11_mean_61 62 rfl at_67 (al_67 _) (ok_67 (by decide)) (fun h6 => ?_)
          exact aw_conv [0, 1, 3] rfl (hj1 (u2.1 67 0 (Int32.toNatClampNeg ((48 * x1) + x4))) u2)
        · refine aw_iconst (x := 0) dX11_mean_46 47 rfl rfl ?_
          refine aw_goto dX11_mean_47 62 rfl ?_
          exact aw_conv [0, 1, 3] rfl (hj1 0 u2)
set_option maxRecDepth 100000 in
set_option maxHeartbeats 4000000 in
theorem k_X11_mean (l : Launch) (G : qG) (x1 : Int32)  (u0 : qM) : qCt l G m_X11_mean q_cI [.ref (q_ad G 11 0), .int x1] u0 (f_X11_mean x1 u0) := by
  refine q_entry pk_X11_mean (Nat.le_of_ble_eq_true rfl) ?_
  show qAW l G m_X11_mean (q_mq G q_cI) 0 [(0, .ref (q_ad G 11 0)), (1, .int x1)] [] u0 (f_X11_mean x1 u0)
  unfold f_X11_mean
  refine aw_aload_n (i := 0) dX11_mean_0 1 rfl rfl 0 rfl ?_
  refine aw_iload_n (i := 1) dX11_mean_1 2 rfl rfl 1 rfl ?_
  refine aw_callV (M2 := m_X11_looked) (cv := q_cI) dX11_mean_2 5 rfl (k_X11_looked l G x1  u0) wd_233 wv_X11_looked pk_X11_looked rfl rfl ⟨by decide, by decide⟩ ⟨Nat.zero_le _, Nat.zero_le _⟩ at_11 (ok_11 (by decide)) rfl rfl rfl (Nat.le_of_ble_eq_true rfl) (fun x2 u1 => ?_)
  show qAW l G m_X11_mean (q_mq G q_cI) 5 [(0, .ref (q_ad G 11 0)), (1, .int x1)] [.int x2] u1 _
  refine aw_istore_n dX11_mean_5 6 rfl rfl [(2, .int x2), (0, .ref (q_ad G 11 0)), (1, .int x1)] (by decide) rfl ?_
  refine aw_iload_n (i := 2) dX11_mean_6 7 rfl rfl 0 rfl ?_
  refine aw_if_ge dX11_mean_7 10 rfl 12 rfl (fun h1 => ?_) (fun h1 => ?_)
  · refine aw_iconst (x := 0) dX11_mean_12 13 rfl rfl ?_
    refine aw_istore_n dX11_mean_13 14 rfl rfl [(3, .int 0), (2, .int x2), (0, .ref (q_ad G 11 0)), (1, .int x1)] (by decide) rfl ?_
    refine aw_iconst (x := 0) dX11_mean_14 15 rfl rfl ?_
    refine aw_istore dX11_mean_15 17 rfl [(4, .int 0), (3, .int 0), (2, .int x2), (0, .ref (q_ad G 11 0)), (1, .int x1)] (by decide) rfl ?_
    refine aw_conv [3, 4, 1, 0] rfl (TL_X11_mean_17 l G x1  _ ?_ _ 0 0 u1)
    · intro x8 u4
      refine aw_aload_n (i := 0) dX11_mean_70 71 rfl rfl 0 rfl ?_
      refine aw_iload_n (i := 1) dX11_mean_71 72 rfl rfl 1 rfl ?_
      refine aw_callV (M2 := m_X11_countOf) (cv := q_cI) dX11_mean_72 75 rfl (k_X11_countOf l G x1  u4) wd_235 wv_X11_countOf pk_X11_countOf rfl rfl ⟨by decide, by decide⟩ ⟨Nat.zero_le _, Nat.zero_le _⟩ at_11 (ok_11 (by decide)) rfl rfl rfl (Nat.le_of_ble_eq_true rfl) (fun x9 u5 => ?_)
      show qAW l G m_X11_mean (q_mq G q_cI) 75 [(0, .ref (q_ad G 11 0)), (1, .int x1), (3, .int x8)] [.int x9] u5 _
      refine aw_jn (fun k => ∀ (x10 : Int32) (u6 : qM), qAW l G m_X11_mean (q_mq G q_cI) 98 [] [.int x10] u6 (k x10 u6)) ?_ ?_
      · intro x10 u6
        exact aw_iret dX11_mean_98 rfl
      · intro j2 hj2
        refine aw_if_ne dX11_mean_75 78 rfl 86 rfl (fun h7 => ?_) (fun h7 => ?_)
        · refine aw_aload_n (i := 0) dX11_mean_86 87 rfl rfl 0 rfl ?_
          refine aw_iload_n (i := 3) dX11_mean_87 88 rfl rfl 2 rfl ?_
          refine aw_aload_n (i := 0) dX11_mean_88 89 rfl rfl 0 rfl ?_
          refine aw_iload_n (i := 1) dX11_mean_89 90 rfl rfl 1 rfl ?_
          refine aw_callV (M2 := m_X11_countOf) (cv := q_cI) dX11_mean_90 93 rfl (k_X11_countOf l G x1  u5) wd_235 wv_X11_countOf pk_X11_countOf rfl rfl ⟨by decide, by decide⟩ ⟨Nat.zero_le _, Nat.zero_le _⟩ at_11 (ok_11 (by decide)) rfl rfl rfl (Nat.le_of_ble_eq_true rfl) (fun x11 u7 => ?_)
          show qAW l G m_X11_mean (q_mq G q_cI) 93 [(0, .ref (q_ad G 11 0)), (1, .int x1), (3, .int x8)] [.int x11, .int x8, .ref (q_ad G 11 0)] u7 _
          refine aw_ck (fun h8 => ?_)
          refine aw_idiv dX11_mean_93 94 rfl (of_decide_eq_true h8) ?_
          refine aw_iconst (x := 1) dX11_mean_94 95 rfl rfl ?_
          refine aw_callV (M2 := m_X11_ask) (cv := q_cI) dX11_mean_95 98 rfl (k_X11_ask l G (x8 / x11) 1  u7) wd_236 wv_X11_ask pk_X11_ask rfl rfl ⟨by decide, by decide⟩ ⟨Nat.zero_le _, Nat.zero_le _⟩ at_11 (ok_11 (by decide)) rfl rfl rfl (Nat.le_of_ble_eq_true rfl) (fun x12 u8 => ?_)
          show qAW l G m_X11_mean (q_mq G q_cI) 98 [(0, .ref (q_ad G 11 0)), (1, .int x1), (3, .int x8)] [.int x12] u8 _
          exact aw_conv [] rfl (hj2 x12 u8)
        · refine aw_aload_n (i := 0) dX11_mean_78 79 rfl rfl 0 rfl ?_
          refine aw_iconst (x := 4) dX11_mean_79 80 rfl rfl ?_
          refine aw_callV (M2 := m_X11_meets) (cv := q_cI) dX11_mean_80 83 rfl (k_X11_meets l G 4  u5) wd_229 wv_X11_meets pk_X11_meets rfl rfl ⟨by decide, by decide⟩ ⟨Nat.zero_le _, Nat.zero_le _⟩ at_11 (ok_11 (by decide)) rfl rfl rfl (Nat.le_of_ble_eq_true rfl) (fun x13 u9 => ?_)
          show qAW l G m_X11_mean (q_mq G q_cI) 83 [(0, .ref (q_ad G 11 0)), (1, .int x1), (3, .int x8)] [.int x13] u9 _
          refine aw_goto dX11_mean_83 98 rfl ?_
          exact aw_conv [] rfl (hj2 x13 u9)
  · refine aw_iload_n (i := 2) dX11_mean_10 11 rfl rfl 0 rfl ?_
    exact aw_iret dX11_mean_11 rfl
