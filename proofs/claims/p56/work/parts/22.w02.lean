theorem dX10_lay_0 : decode cX10_lay 0 = .ok (.aload_n 0, 1) := by decide +kernel
theorem dX10_lay_1 : decode cX10_lay 1 = .ok (.getfield 14, 3) := by decide +kernel
theorem dX10_lay_4 : decode cX10_lay 4 = .ok (.iload_n 1, 1) := by decide +kernel
theorem dX10_lay_5 : decode cX10_lay 5 = .ok (.invokevirtual 87, 3) := by decide +kernel
theorem dX10_lay_8 : decode cX10_lay 8 = .ok (.ifCond .eq 14, 3) := by decide +kernel
theorem dX10_lay_11 : decode cX10_lay 11 = .ok (.iload_n 3, 1) := by decide +kernel
theorem dX10_lay_12 : decode cX10_lay 12 = .ok (.ldc 99, 2) := by decide +kernel
theorem dX10_lay_14 : decode cX10_lay 14 = .ok (.ldc 100, 2) := by decide +kernel
theorem dX10_lay_16 : decode cX10_lay 16 = .ok (.invokestatic 101, 3) := by decide +kernel
theorem dX10_lay_19 : decode cX10_lay 19 = .ok (.ifCond .ne 5, 3) := by decide +kernel
theorem dX10_lay_22 : decode cX10_lay 22 = .ok (.iconst (-1), 1) := by decide +kernel
theorem dX10_lay_23 : decode cX10_lay 23 = .ok (.ireturn, 1) := by decide +kernel
theorem dX10_lay_24 : decode cX10_lay 24 = .ok (.aload_n 0, 1) := by decide +kernel
theorem dX10_lay_25 : decode cX10_lay 25 = .ok (.getfield 14, 3) := by decide +kernel
theorem dX10_lay_28 : decode cX10_lay 28 = .ok (.iload_n 1, 1) := by decide +kernel
theorem dX10_lay_29 : decode cX10_lay 29 = .ok (.invokevirtual 105, 3) := by decide +kernel
theorem dX10_lay_32 : decode cX10_lay 32 = .ok (.ifCond .ne 9, 3) := by decide +kernel
theorem dX10_lay_35 : decode cX10_lay 35 = .ok (.aload_n 0, 1) := by decide +kernel
theorem dX10_lay_36 : decode cX10_lay 36 = .ok (.iconst 1, 1) := by decide +kernel
theorem dX10_lay_37 : decode cX10_lay 37 = .ok (.invokevirtual 91, 3) := by decide +kernel
theorem dX10_lay_40 : decode cX10_lay 40 = .ok (.ireturn, 1) := by decide +kernel
theorem dX10_lay_41 : decode cX10_lay 41 = .ok (.aload_n 0, 1) := by decide +kernel
theorem dX10_lay_42 : decode cX10_lay 42 = .ok (.getfield 14, 3) := by decide +kernel
theorem dX10_lay_45 : decode cX10_lay 45 = .ok (.iload_n 1, 1) := by decide +kernel
theorem dX10_lay_46 : decode cX10_lay 46 = .ok (.iload_n 2, 1) := by decide +kernel
theorem dX10_lay_47 : decode cX10_lay 47 = .ok (.invokevirtual 108, 3) := by decide +kernel
theorem dX10_lay_50 : decode cX10_lay 50 = .ok (.ifCond .ne 9, 3) := by decide +kernel
theorem dX10_lay_53 : decode cX10_lay 53 = .ok (.aload_n 0, 1) := by decide +kernel
theorem dX10_lay_54 : decode cX10_lay 54 = .ok (.iconst 2, 1) := by decide +kernel
theorem dX10_lay_55 : decode cX10_lay 55 = .ok (.invokevirtual 91, 3) := by decide +kernel
theorem dX10_lay_58 : decode cX10_lay 58 = .ok (.ireturn, 1) := by decide +kernel
theorem dX10_lay_59 : decode cX10_lay 59 = .ok (.aload_n 0, 1) := by decide +kernel
theorem dX10_lay_60 : decode cX10_lay 60 = .ok (.aload_n 0, 1) := by decide +kernel
theorem dX10_lay_61 : decode cX10_lay 61 = .ok (.getfield 14, 3) := by decide +kernel
theorem dX10_lay_64 : decode cX10_lay 64 = .ok (.getfield 112, 3) := by decide +kernel
theorem dX10_lay_67 : decode cX10_lay 67 = .ok (.iload_n 1, 1) := by decide +kernel
theorem dX10_lay_68 : decode cX10_lay 68 = .ok (.aaload, 1) := by decide +kernel
theorem dX10_lay_69 : decode cX10_lay 69 = .ok (.iload_n 2, 1) := by decide +kernel
theorem dX10_lay_70 : decode cX10_lay 70 = .ok (.iaload, 1) := by decide +kernel
theorem dX10_lay_71 : decode cX10_lay 71 = .ok (.putfield 116, 3) := by decide +kernel
theorem dX10_lay_74 : decode cX10_lay 74 = .ok (.aload_n 0, 1) := by decide +kernel
theorem dX10_lay_75 : decode cX10_lay 75 = .ok (.getfield 14, 3) := by decide +kernel
theorem dX10_lay_78 : decode cX10_lay 78 = .ok (.getfield 112, 3) := by decide +kernel
theorem dX10_lay_81 : decode cX10_lay 81 = .ok (.iload_n 1, 1) := by decide +kernel
theorem dX10_lay_82 : decode cX10_lay 82 = .ok (.aaload, 1) := by decide +kernel
theorem dX10_lay_83 : decode cX10_lay 83 = .ok (.iload_n 2, 1) := by decide +kernel
theorem dX10_lay_84 : decode cX10_lay 84 = .ok (.iload_n 3, 1) := by decide +kernel
theorem dX10_lay_85 : decode cX10_lay 85 = .ok (.iastore, 1) := by decide +kernel
theorem dX10_lay_86 : decode cX10_lay 86 = .ok (.iconst 1, 1) := by decide +kernel
theorem dX10_lay_87 : decode cX10_lay 87 = .ok (.ireturn, 1) := by decide +kernel
noncomputable def f_X10_lay (x1 : Int32) (x2 : Int32) (x3 : Int32) (u0 : qM) : Option (Int32 × qM) :=
  q_bd (f_X7_isNumber 0 x1 u0) (fun (x4 : Int32) (u1 : qM) => q_jn (fun  (u2 : qM) => some ((-1), u2)) (fun j1 => if x4 = 0 then j1 u1 else q_bd (f_X10_within x3 (-100000) 100000 u1) (fun (x5 : Int32) (u3 : qM) => if x5 = 0 then j1 u3 else q_bd (f_X7_isThere 0 x1 u3) (fun (x6 : Int32) (u4 : qM) => if x6 = 0 then q_bd (f_X10_found 1 u4) (fun (x9 : Int32) (u9 : qM) => some (x9, u9)) else q_bd (f_X7_hasPlace 0 x1 x2 u4) (fun (x7 : Int32) (u5 : qM) => if x7 = 0 then q_bd (f_X10_found 2 u5) (fun (x8 : Int32) (u8 : qM) => some (x8, u8)) else q_ck (q_in x1 6) (q_ck (q_in x2 48) (q_lt (q_si u5 0 0 15 (u5.1 30 (Int32.toNatClampNeg x1) (Int32.toNatClampNeg x2))) (fun (u6 : qM) => q_ck (q_in x1 6) (q_ck (q_in x2 48) (q_lt (q_si u6 30 (Int32.toNatClampNeg x1) (Int32.toNatClampNeg x2) x3) (fun (u7 : qM) => some (1, u7))))))))))))
set_option maxRecDepth 100000 in
set_option maxHeartbeats 4000000 in
theorem k_X10_lay (l : Launch) (G : qG) (x1 : Int32) (x2 : Int32) (x3 : Int32)  (u0 : qM) : qCt l G m_X10_lay q_cI [.ref (q_ad G 0 0), .int x1, .int x2, .int x3] u0 (f_X10_lay x1 x2 x3 u0) := by
  refine q_entry pk_X10_lay (Nat.le_of_ble_eq_true rfl) ?_
  show qAW l G m_X10_lay (q_mq G q_cI) 0 [(0, .ref (q_ad G 0 0)), (1, .int x1), (2, .int x2), (3, .int x3)] [] u0 (f_X10_lay x1 x2 x3 u0)
  unfold f_X10_lay
  refine aw_aload_n (i := 0) dX10_lay_0 1 rfl rfl 0 rfl ?_
  refine gf_X10_0 dX10_lay_1 4 rfl wd_97 (ok_0 (by decide)) ?_
  refine aw_iload_n (i := 1) dX10_lay_4 5 rfl rfl 1 rfl ?_
  refine aw_callV (M2 := m_X7_isNumber) (cv := q_cI) dX10_lay_5 8 rfl (k_X7_isNumber l G 0 x1 (by decide) u0) wd_98 wv_X7_isNumber pk_X7_isNumber rfl rfl ⟨by decide, by decide⟩ ⟨Nat.zero_le _, Nat.zero_le _⟩ at_1 (ok_1 (by decide)) rfl rfl rfl (Nat.le_of_ble_eq_true rfl) (fun x4 u1 => ?_)
  show qAW l G m_X10_lay (q_mq G q_cI) 8 [(0, .ref (q_ad G 0 0)), (1, .int x1), (2, .int x2), (3, .int x3)] [.int x4] u1 _
  refine aw_jn (fun k => ∀  (u2 : qM), qAW l G m_X10_lay (q_mq G q_cI) 22 [] [] u2 (k u2)) ?_ ?_
  · intro u2
    refine aw_iconst (x := (-1)) dX10_lay_22 23 rfl rfl ?_
    exact aw_iret dX10_lay_23 rfl
  · intro j1 hj1
    refine aw_if_eq dX10_lay_8 11 rfl 22 rfl (fun h1 => ?_) (fun h1 => ?_)
    · exact aw_conv [] rfl (hj1 u1)
    · refine aw_iload_n (i := 3) dX10_lay_11 12 rfl rfl 3 rfl ?_
      refine aw_ldc (x := (-100000)) dX10_lay_12 14 rfl wd_101 ?_
      refine aw_ldc (x := 100000) dX10_lay_14 16 rfl wd_102 ?_
      refine aw_callS (M2 := m_X10_within) (cv := q_cI) dX10_lay_16 19 rfl (k_X10_within l G x3 (-100000) 100000  u1) wd_103 wv_X10_within pk_X10_within rfl ⟨by decide, by decide⟩ ⟨Nat.zero_le _, Nat.zero_le _⟩ rfl (Nat.le_of_ble_eq_true rfl) (fun x5 u3 => ?_)
      show qAW l G m_X10_lay (q_mq G q_cI) 19 [(0, .ref (q_ad G 0 0)), (1, .int x1), (2, .int x2), (3, .int x3)] [.int x5] u3 _
      refine aw_if_ne dX10_lay_19 22 rfl 24 rfl (fun h2 => ?_) (fun h2 => ?_)
      · refine aw_aload_n (i := 0) dX10_lay_24 25 rfl rfl 0 rfl ?_
        refine gf_X10_0 dX10_lay_25 28 rfl wd_97 (ok_0 (by decide)) ?_
        refine aw_iload_n (i := 1) dX10_lay_28 29 rfl rfl 1 rfl ?_
        refine aw_callV (M2 := m_X7_isThere) (cv := q_cI) dX10_lay_29 32 rfl (k_X7_isThere l G 0 x1 (by decide) u3) wd_104 wv_X7_isThere pk_X7_isThere rfl rfl ⟨by decide, by decide⟩ ⟨Nat.zero_le _, Nat.zero_le _⟩ at_1 (ok_1 (by decide)) rfl rfl rfl (Nat.le_of_ble_eq_true rfl) (fun x6 u4 => ?_)
        show qAW l G m_X10_lay (q_mq G q_cI) 32 [(0, .ref (q_ad G 0 0)), (1, .int x1), (2, .int x2), (3, .int x3)] [.int x6] u4 _
        refine aw_if_ne dX10_lay_32 35 rfl 41 rfl (fun h3 => ?_) (fun h3 => ?_)
        · refine aw_aload_n (i := 0) dX10_lay_41 42 rfl rfl 0 rfl ?_
          refine gf_X10_0 dX10_lay_42 45 rfl wd_97 (ok_0 (by decide)) ?_
          refine aw_iload_n (i := 1) dX10_lay_45 46 rfl rfl 1 rfl ?_
          refine aw_iload_n (i := 2) dX10_lay_46 47 rfl rfl 2 rfl ?_
          refine aw_callV (M2 := m_X7_hasPlace) (cv := q_cI) dX10_lay_47 50 rfl (k_X7_hasPlace l G 0 x1 x2 (by decide) u4) wd_105 wv_X7_hasPlace pk_X7_hasPlace rfl rfl ⟨by decide, by decide⟩ ⟨Nat.zero_le _, Nat.zero_le _⟩ at_1 (ok_1 (by decide)) rfl rfl rfl (Nat.le_of_ble_eq_true rfl) (fun x7 u5 => ?_)
          show qAW l G m_X10_lay (q_mq G q_cI) 50 [(0, .ref (q_ad G 0 0)), (1, .int x1), (2, .int x2), (3, .int x3)] [.int x7] u5 _
          refine aw_if_ne dX10_lay_50 53 rfl 59 rfl (fun h4 => ?_) (fun h4 => ?_)
          · refine aw_aload_n (i := 0) dX10_lay_59 60 rfl rfl 0 rfl ?_
            refine aw_aload_n (i := 0) dX10_lay_60 61 rfl rfl 0 rfl ?_
            refine gf_X10_0 dX10_lay_61 64 rfl wd_97 (ok_0 (by decide)) ?_
            refine gfN_X7_0 dX10_lay_64 67 rfl "SeaCells" (ns_0) (ok_1 (by decide)) ?_
            refine aw_iload_n (i := 1) dX10_lay_67 68 rfl rfl 1 rfl ?_
            refine aw_aald dX10_lay_68 69 rfl at_20 (by decide) (by decide) rfl rfl rfl (ok_20 (by decide)) rfl (fun h5 => ?_)
            refine aw_iload_n (i := 2) dX10_lay_69 70 rfl rfl 2 rfl ?_
            refine aw_iald dX10_lay_70 71 rfl at_30 (al_30 _) (ok_30 (q_in_lt h5)) (fun h6 => ?_)
            refine pf_X10_15 dX10_lay_71 74 rfl wd_106 (ok_0 (by decide)) ?_
            refine aw_ltm (fun u6 => ?_)
            refine aw_aload_n (i := 0) dX10_lay_74 75 rfl rfl 0 rfl ?_
            refine gf_X10_0 dX10_lay_75 78 rfl wd_97 (ok_0 (by decide)) ?_
            refine gfN_X7_0 dX10_lay_78 81 rfl "SeaCells" (ns_0) (ok_1 (by decide)) ?_
            refine aw_iload_n (i := 1) dX10_lay_81 82 rfl rfl 1 rfl ?_
            refine aw_aald dX10_lay_82 83 rfl at_20 (by decide) (by decide) rfl rfl rfl (ok_20 (by decide)) rfl (fun h7 => ?_)
            refine aw_iload_n (i := 2) dX10_lay_83 84 rfl rfl 2 rfl ?_
            refine aw_iload_n (i := 3) dX10_lay_84 85 rfl rfl 3 rfl ?_
            refine aw_iast dX10_lay_85 86 rfl at_30 (al_30 _) (ok_30 (q_in_lt h7)) (fun h8 => ?_)
            refine aw_ltm (fun u7 => ?_)
            refine aw_iconst (x := 1) dX10_lay_86 87 rfl rfl ?_
            exact aw_iret dX10_lay_87 rfl
          · refine aw_aload_n (i := 0) dX10_lay_53 54 rfl rfl 0 rfl ?_
            refine aw_iconst (x := 2) dX10_lay_54 55 rfl rfl ?_
            refine aw_callV (M2 := m_X10_found) (cv := q_cI) dX10_lay_55 58 rfl (k_X10_found l G 2  u5) wd_100 wv_X10_found pk_X10_found rfl rfl ⟨by decide, by decide⟩ ⟨Nat.zero_le _, Nat.zero_le _⟩ at_0 (ok_0 (by decide)) rfl rfl rfl (Nat.le_of_ble_eq_true rfl) (fun x8 u8 => ?_)
            show qAW l G m_X10_lay (q_mq G q_cI) 58 [(0, .ref (q_ad G 0 0)), (1, .int x1), (2, .int x2), (3, .int x3)] [.int x8] u8 _
            exact aw_iret dX10_lay_58 rfl
        · refine aw_aload_n (i := 0) dX10_lay_35 36 rfl rfl 0 rfl ?_
          refine aw_iconst (x := 1) dX10_lay_36 37 rfl rfl ?_
          refine aw_callV (M2 := m_X10_found) (cv := q_cI) dX10_lay_37 40 rfl (k_X10_found l G 1  u4) wd_100 wv_X10_found pk_X10_found rfl rfl ⟨by decide, by decide⟩ ⟨Nat.zero_le _, Nat.zero_le _⟩ at_0 (ok_0 (by decide)) rfl rfl rfl (Nat.le_of_ble_eq_true rfl) (fun x9 u9 => ?_)
          show qAW l G m_X10_lay (q_mq G q_cI) 40 [(0, .ref (q_ad G 0 0)), (1, .int x1), (2, .int x2), (3, .int x3)] [.int x9] u9 _
          exact aw_iret dX10_lay_40 rfl
      · exact aw_conv [] rfl (hj1 u3)
theorem dX10_isBoard_0 : decode cX10_isBoard 0 = .ok (.iload_n 0, 1) := by decide +kernel
theorem dX10_isBoard_1 : decode cX10_isBoard 1 = .ok (.ifCond .lt 13, 3) := by decide +kernel
theorem dX10_isBoard_4 : decode cX10_isBoard 4 = .ok (.iload_n 0, 1) := by decide +kernel
theorem dX10_isBoard_5 : decode cX10_isBoard 5 = .ok (.bipush 6, 2) := by decide +kernel
theorem dX10_isBoard_7 : decode cX10_isBoard 7 = .ok (.if_icmp .ge 7, 3) := by decide +kernel
theorem dX10_isBoard_10 : decode cX10_isBoard 10 = .ok (.iconst 1, 1) := by decide +kernel
theorem dX10_isBoard_11 : decode cX10_isBoard 11 = .ok (.goto 4, 3) := by decide +kernel
theorem dX10_isBoard_14 : decode cX10_isBoard 14 = .ok (.iconst 0, 1) := by decide +kernel
theorem dX10_isBoard_15 : decode cX10_isBoard 15 = .ok (.ireturn, 1) := by decide +kernel
noncomputable def f_X10_isBoard (x1 : Int32) (u0 : qM) : Option (Int32 × qM) :=
  q_jn (fun (x2 : Int32) (u1 : qM) => q_ck (q_b x2) (some (x2, u1))) (fun j1 => q_jn (fun  (u2 : qM) => j1 0 u2) (fun j2 => if x1 < 0 then j2 u0 else if 6 ≤ x1 then j2 u0 else j1 1 u0))
set_option maxRecDepth 100000 in
set_option maxHeartbeats 4000000 in
theorem k_X10_isBoard (l : Launch) (G : qG) (x1 : Int32)  (u0 : qM) : qCt l G m_X10_isBoard q_cI [.int x1] u0 (f_X10_isBoard x1 u0) := by
  refine q_entry pk_X10_isBoard (Nat.le_of_ble_eq_true rfl) ?_
  show qAW l G m_X10_isBoard (q_mq G q_cI) 0 [(0, .int x1)] [] u0 (f_X10_isBoard x1 u0)
  unfold f_X10_isBoard
  refine aw_iload_n (i := 0) dX10_isBoard_0 1 rfl rfl 0 rfl ?_
  refine aw_jn (fun k => ∀ (x2 : Int32) (u1 : qM), qAW l G m_X10_isBoard (q_mq G q_cI) 15 [] [.int x2] u1 (k x2 u1)) ?_ ?_
  · intro x2 u1
    refine aw_ck (fun h2 => ?_)
    exact aw_zret dX10_isBoard_15 rfl h2
  · intro j1 hj1
    refine aw_jn (fun k => ∀  (u2 : qM), qAW l G m_X10_isBoard (q_mq G q_cI) 14 [] [] u2 (k u2)) ?_ ?_
    · intro u2
      refine aw_iconst (x := 0) dX10_isBoard_14 15 rfl rfl ?_
      exact hj1 0 u2
    · intro j2 hj2
      refine aw_if_lt dX10_isBoard_1 4 rfl 14 rfl (fun h1 => ?_) (fun h1 => ?_)
      · exact aw_conv [] rfl (hj2 u0)
      · refine aw_iload_n (i := 0) dX10_isBoard_4 5 rfl rfl 0 rfl ?_
        refine aw_bipush (x := 6) dX10_isBoard_5 7 rfl rfl ?_
        refine aw_icmp_ge dX10_isBoard_7 10 rfl 14 rfl (fun h3 => ?_) (fun h3 => ?_)
        · exact aw_conv [] rfl (hj2 u0)
        · refine aw_iconst (x := 1) dX10_isBoard_10 11 rfl rfl ?_
          refine aw_goto dX10_isBoard_11 15 rfl ?_
          exact aw_conv [] rfl (hj1 1 u0)
theorem dX10_hasGround_0 : decode cX10_hasGround 0 = .ok (.aload_n 0, 1) := by decide +kernel
theorem dX10_hasGround_1 : decode cX10_hasGround 1 = .ok (.getfield 30, 3) := by decide +kernel
theorem dX10_hasGround_4 : decode cX10_hasGround 4 = .ok (.iload_n 1, 1) := by decide +kernel
theorem dX10_hasGround_5 : decode cX10_hasGround 5 = .ok (.aaload, 1) := by decide +kernel
theorem dX10_hasGround_6 : decode cX10_hasGround 6 = .ok (.getfield 309, 3) := by decide +kernel
theorem dX10_hasGround_9 : decode cX10_hasGround 9 = .ok (.getfield 313, 3) := by decide +kernel
theorem dX10_hasGround_12 : decode cX10_hasGround 12 = .ok (.istore_n 2, 1) := by decide +kernel
theorem dX10_hasGround_13 : decode cX10_hasGround 13 = .ok (.iload_n 2, 1) := by decide +kernel
theorem dX10_hasGround_14 : decode cX10_hasGround 14 = .ok (.invokestatic 157, 3) := by decide +kernel
theorem dX10_hasGround_17 : decode cX10_hasGround 17 = .ok (.ifCond .eq 19, 3) := by decide +kernel
theorem dX10_hasGround_20 : decode cX10_hasGround 20 = .ok (.aload_n 0, 1) := by decide +kernel
theorem dX10_hasGround_21 : decode cX10_hasGround 21 = .ok (.getfield 30, 3) := by decide +kernel
theorem dX10_hasGround_24 : decode cX10_hasGround 24 = .ok (.iload_n 2, 1) := by decide +kernel
theorem dX10_hasGround_25 : decode cX10_hasGround 25 = .ok (.aaload, 1) := by decide +kernel
theorem dX10_hasGround_26 : decode cX10_hasGround 26 = .ok (.getfield 305, 3) := by decide +kernel
theorem dX10_hasGround_29 : decode cX10_hasGround 29 = .ok (.ifCond .eq 7, 3) := by decide +kernel
theorem dX10_hasGround_32 : decode cX10_hasGround 32 = .ok (.iconst 1, 1) := by decide +kernel
theorem dX10_hasGround_33 : decode cX10_hasGround 33 = .ok (.goto 4, 3) := by decide +kernel
theorem dX10_hasGround_36 : decode cX10_hasGround 36 = .ok (.iconst 0, 1) := by decide +kernel
theorem dX10_hasGround_37 : decode cX10_hasGround 37 = .ok (.ireturn, 1) := by decide +kernel
noncomputable def f_X10_hasGround (x1 : Int32) (u0 : qM) : Option (Int32 × qM) :=
  q_ck (q_in x1 6) (q_lt (u0.1 5 (Int32.toNatClampNeg x1) 2) (fun (x2 : Int32) => q_bd (f_X10_isBoard x2 u0) (fun (x3 : Int32) (u1 : qM) => q_jn (fun (x4 : Int32) (u2 : qM) => q_ck (q_b x4) (some (x4, u2))) (fun j1 => q_jn (fun  (u3 : qM) => j1 0 u3) (fun j2 => if x3 = 0 then j2 u1 else q_ck (q_in x2 6) (if (u1.1 2 (Int32.toNatClampNeg x2) 10) = 0 then j2 u1 else j1 1 u1))))))
set_option maxRecDepth 100000 in
set_option maxHeartbeats 4000000 in
theorem k_X10_hasGround (l : Launch) (G : qG) (x1 : Int32)  (u0 : qM) : qCt l G m_X10_hasGround q_cI [.ref (q_ad G 0 0), .int x1] u0 (f_X10_hasGround x1 u0) := by
  refine q_entry pk_X10_hasGround (Nat.le_of_ble_eq_true rfl) ?_
  show qAW l G m_X10_hasGround (q_mq G q_cI) 0 [(0, .ref (q_ad G 0 0)), (1, .int x1)] [] u0 (f_X10_hasGround x1 u0)
  unfold f_X10_hasGround
  refine aw_aload_n (i := 0) dX10_hasGround_0 1 rfl rfl 0 rfl ?_
  refine gf_X10_4 dX10_hasGround_1 4 rfl wd_107 (ok_0 (by decide)) ?_
  refine aw_iload_n (i := 1) dX10_hasGround_4 5 rfl rfl 1 rfl ?_
  refine aw_aald dX10_hasGround_5 6 rfl at_21 (by decide) (by decide) rfl rfl (al_21 _) (ok_21 (by decide)) rfl (fun h1 => ?_)
  refine gfN_X0_7 dX10_hasGround_6 9 rfl "SeaCells" (ns_42) (ok_2 (Nat.lt_of_lt_of_le (q_in_lt h1) (by decide))) ?_
  refine gfN_X4_2 dX10_hasGround_9 12 rfl "SeaCells" (ns_22) (ok_5 (Nat.lt_of_lt_of_le (q_in_lt h1) (by decide))) ?_
  refine aw_lti (fun x2 => ?_)
  refine aw_istore_n dX10_hasGround_12 13 rfl rfl [(2, .int x2), (0, .ref (q_ad G 0 0)), (1, .int x1)] (by decide) rfl ?_
  refine aw_iload_n (i := 2) dX10_hasGround_13 14 rfl rfl 0 rfl ?_
  refine aw_callS (M2 := m_X10_isBoard) (cv := q_cI) dX10_hasGround_14 17 rfl (k_X10_isBoard l G x2  u0) wd_108 wv_X10_isBoard pk_X10_isBoard rfl ⟨by decide, by decide⟩ ⟨Nat.zero_le _, Nat.zero_le _⟩ rfl (Nat.le_of_ble_eq_true rfl) (fun x3 u1 => ?_)
  show qAW l G m_X10_hasGround (q_mq G q_cI) 17 [(2, .int x2), (0, .ref (q_ad G 0 0)), (1, .int x1)] [.int x3] u1 _
  refine aw_jn (fun k => ∀ (x4 : Int32) (u2 : qM), qAW l G m_X10_hasGround (q_mq G q_cI) 37 [] [.int x4] u2 (k x4 u2)) ?_ ?_
  · intro x4 u2
    refine aw_ck (fun h3 => ?_)
    exact aw_zret dX10_hasGround_37 rfl h3
  · intro j1 hj1
    refine aw_jn (fun k => ∀  (u3 : qM), qAW l G m_X10_hasGround (q_mq G q_cI) 36 [] [] u3 (k u3)) ?_ ?_
    · intro u3
      refine aw_iconst (x := 0) dX10_hasGround_36 37 rfl rfl ?_
      exact hj1 0 u3
    · intro j2 hj2
      refine aw_if_eq dX10_hasGround_17 20 rfl 36 rfl (fun h2 => ?_) (fun h2 => ?_)
      · exact aw_conv [] rfl (hj2 u1)
      · refine aw_aload_n (i := 0) dX10_hasGround_20 21 rfl rfl 1 rfl ?_
        refine gf_X10_4 dX10_hasGround_21 24 rfl wd_107 (ok_0 (by decide)) ?_
        refine aw_iload_n (i := 2) dX10_hasGround_24 25 rfl rfl 0 rfl ?_
        refine aw_aald dX10_hasGround_25 26 rfl at_21 (by decide) (by decide) rfl rfl (al_21 _) (ok_21 (by decide)) rfl (fun h4 => ?_)
        refine gfN_X0_10 dX10_hasGround_26 29 rfl "SeaCells" (ns_43) (ok_2 (Nat.lt_of_lt_of_le (q_in_lt h4) (by decide))) ?_
        refine aw_if_eq dX10_hasGround_29 32 rfl 36 rfl (fun h5 => ?_) (fun h5 => ?_)
        · exact aw_conv [] rfl (hj2 u1)
        · refine aw_iconst (x := 1) dX10_hasGround_32 33 rfl rfl ?_
          refine aw_goto dX10_hasGround_33 37 rfl ?_
          exact aw_conv [] rfl (hj1 1 u1)
theorem dX10_removeBoard_0 : decode cX10_removeBoard 0 = .ok (.aload_n 0, 1) := by decide +kernel
theorem dX10_removeBoard_1 : decode cX10_removeBoard 1 = .ok (.getfield 30, 3) := by decide +kernel
theorem dX10_removeBoard_4 : decode cX10_removeBoard 4 = .ok (.iload_n 1, 1) := by decide +kernel
theorem dX10_removeBoard_5 : decode cX10_removeBoard 5 = .ok (.aaload, 1) := by decide +kernel
theorem dX10_removeBoard_6 : decode cX10_removeBoard 6 = .ok (.iconst 0, 1) := by decide +kernel
theorem dX10_removeBoard_7 : decode cX10_removeBoard 7 = .ok (.putfield 305, 3) := by decide +kernel
theorem dX10_removeBoard_10 : decode cX10_removeBoard 10 = .ok (.iconst 0, 1) := by decide +kernel
theorem dX10_removeBoard_11 : decode cX10_removeBoard 11 = .ok (.istore_n 2, 1) := by decide +kernel
theorem dX10_removeBoard_12 : decode cX10_removeBoard 12 = .ok (.iload_n 2, 1) := by decide +kernel
theorem dX10_removeBoard_13 : decode cX10_removeBoard 13 = .ok (.bipush 8, 2) := by decide +kernel
theorem dX10_removeBoard_15 : decode cX10_removeBoard 15 = .ok (.if_icmp .ge 33, 3) := by decide +kernel
theorem dX10_removeBoard_18 : decode cX10_removeBoard 18 = .ok (.aload_n 0, 1) := by decide +kernel
theorem dX10_removeBoard_19 : decode cX10_removeBoard 19 = .ok (.getfield 55, 3) := by decide +kernel
theorem dX10_removeBoard_22 : decode cX10_removeBoard 22 = .ok (.iload_n 2, 1) := by decide +kernel
theorem dX10_removeBoard_23 : decode cX10_removeBoard 23 = .ok (.aaload, 1) := by decide +kernel
theorem dX10_removeBoard_24 : decode cX10_removeBoard 24 = .ok (.getfield 285, 3) := by decide +kernel
theorem dX10_removeBoard_27 : decode cX10_removeBoard 27 = .ok (.iload_n 1, 1) := by decide +kernel
theorem dX10_removeBoard_28 : decode cX10_removeBoard 28 = .ok (.if_icmp .ne 14, 3) := by decide +kernel
theorem dX10_removeBoard_31 : decode cX10_removeBoard 31 = .ok (.aload_n 0, 1) := by decide +kernel
theorem dX10_removeBoard_32 : decode cX10_removeBoard 32 = .ok (.getfield 55, 3) := by decide +kernel
theorem dX10_removeBoard_35 : decode cX10_removeBoard 35 = .ok (.iload_n 2, 1) := by decide +kernel
theorem dX10_removeBoard_36 : decode cX10_removeBoard 36 = .ok (.aaload, 1) := by decide +kernel
theorem dX10_removeBoard_37 : decode cX10_removeBoard 37 = .ok (.bipush (-9), 2) := by decide +kernel
theorem dX10_removeBoard_39 : decode cX10_removeBoard 39 = .ok (.putfield 285, 3) := by decide +kernel
theorem dX10_removeBoard_42 : decode cX10_removeBoard 42 = .ok (.iinc 2 1, 3) := by decide +kernel
theorem dX10_removeBoard_45 : decode cX10_removeBoard 45 = .ok (.goto (-33), 3) := by decide +kernel
theorem dX10_removeBoard_48 : decode cX10_removeBoard 48 = .ok (.iconst 0, 1) := by decide +kernel
theorem dX10_removeBoard_49 : decode cX10_removeBoard 49 = .ok (.istore_n 2, 1) := by decide +kernel
theorem dX10_removeBoard_50 : decode cX10_removeBoard 50 = .ok (.iload_n 2, 1) := by decide +kernel
theorem dX10_removeBoard_51 : decode cX10_removeBoard 51 = .ok (.bipush 8, 2) := by decide +kernel
theorem dX10_removeBoard_53 : decode cX10_removeBoard 53 = .ok (.if_icmp .ge 33, 3) := by decide +kernel
theorem dX10_removeBoard_56 : decode cX10_removeBoard 56 = .ok (.aload_n 0, 1) := by decide +kernel
theorem dX10_removeBoard_57 : decode cX10_removeBoard 57 = .ok (.getfield 61, 3) := by decide +kernel
theorem dX10_removeBoard_60 : decode cX10_removeBoard 60 = .ok (.iload_n 2, 1) := by decide +kernel
theorem dX10_removeBoard_61 : decode cX10_removeBoard 61 = .ok (.aaload, 1) := by decide +kernel
theorem dX10_removeBoard_62 : decode cX10_removeBoard 62 = .ok (.getfield 293, 3) := by decide +kernel
theorem dX10_removeBoard_65 : decode cX10_removeBoard 65 = .ok (.iload_n 1, 1) := by decide +kernel
theorem dX10_removeBoard_66 : decode cX10_removeBoard 66 = .ok (.if_icmp .ne 14, 3) := by decide +kernel
theorem dX10_removeBoard_69 : decode cX10_removeBoard 69 = .ok (.aload_n 0, 1) := by decide +kernel
theorem dX10_removeBoard_70 : decode cX10_removeBoard 70 = .ok (.getfield 61, 3) := by decide +kernel
theorem dX10_removeBoard_73 : decode cX10_removeBoard 73 = .ok (.iload_n 2, 1) := by decide +kernel
theorem dX10_removeBoard_74 : decode cX10_removeBoard 74 = .ok (.aaload, 1) := by decide +kernel
theorem dX10_removeBoard_75 : decode cX10_removeBoard 75 = .ok (.bipush (-9), 2) := by decide +kernel
theorem dX10_removeBoard_77 : decode cX10_removeBoard 77 = .ok (.putfield 293, 3) := by decide +kernel
theorem dX10_removeBoard_80 : decode cX10_removeBoard 80 = .ok (.iinc 2 1, 3) := by decide +kernel
theorem dX10_removeBoard_83 : decode cX10_removeBoard 83 = .ok (.goto (-33), 3) := by decide +kernel
theorem dX10_removeBoard_86 : decode cX10_removeBoard 86 = .ok (.return_, 1) := by decide +kernel
noncomputable def L_X10_removeBoard_12 (x1 : Int32) : Nat → Int32 → qM → (qM → Option (Unit × qM)) → Option (Unit × qM)
  | 0, _, _, _ => none
  | n + 1, x2, u2, e1 => if 8 ≤ x2 then e1 u2 else q_ck (q_in x2 8) (q_jn (fun  (u3 : qM) => q_lt (x2 + 1) (fun (x3 : Int32) => L_X10_removeBoard_12 x1 n x3 u3 e1)) (fun j1 => if (u2.1 8 (Int32.toNatClampNeg x2) 0) = x1 then q_ck (q_in x2 8) (q_lt (q_si u2 8 (Int32.toNatClampNeg x2) 0 (-9)) (fun (u4 : qM) => j1 u4)) else j1 u2))
noncomputable def L_X10_removeBoard_50 (x1 : Int32) : Nat → Int32 → qM → (qM → Option (Unit × qM)) → Option (Unit × qM)
  | 0, _, _, _ => none
  | n + 1, x4, u6, e1 => if 8 ≤ x4 then e1 u6 else q_ck (q_in x4 8) (q_jn (fun  (u7 : qM) => q_lt (x4 + 1) (fun (x5 : Int32) => L_X10_removeBoard_50 x1 n x5 u7 e1)) (fun j2 => if (u6.1 9 (Int32.toNatClampNeg x4) 2) = x1 then q_ck (q_in x4 8) (q_lt (q_si u6 9 (Int32.toNatClampNeg x4) 2 (-9)) (fun (u8 : qM) => j2 u8)) else j2 u6))
noncomputable def f_X10_removeBoard (x1 : Int32) (u0 : qM) : Option (Unit × qM) :=
  q_ck (q_in x1 6) (q_lt (q_si u0 2 (Int32.toNatClampNeg x1) 10 0) (fun (u1 : qM) => L_X10_removeBoard_12 x1 q_fu 0 u1 (fun u5 => L_X10_removeBoard_50 x1 q_fu 0 u5 (fun u9 => some ((), u9)))))
set_option maxRecDepth 100000 in
set_option maxHeartbeats 4000000 in
theorem TL_X10_removeBoard_12 (l : Launch) (G : qG) (x1 : Int32)  (e1 : qM → Option (Unit × qM)) (he1 : ∀  (v : qM), qAW l G m_X10_removeBoard (q_mq G q_cU) 48 [(0, .ref (q_ad G 0 0)), (1, .int x1)] [] v (e1 v)) : ∀ (n : Nat) (x2 : Int32) (u2 : qM), qAW l G m_X10_removeBoard (q_mq G q_cU) 12 [(0, .ref (q_ad G 0 0)), (1, .int x1), (2, .int x2)] [] u2 (L_X10_removeBoard_12 x1 n x2 u2 e1) := by
  intro n
  induction n with
  | zero => intros; exact aw_none
  | succ n ih =>
    intro x2 u2
    unfold L_X10_removeBoard_12
    refine aw_iload_n (i := 2) dX10_removeBoard_12 13 rfl rfl 2 rfl ?_
    refine aw_bipush (x := 8) dX10_removeBoard_13 15 rfl rfl ?_
    refine aw_icmp_ge dX10_removeBoard_15 18 rfl 48 rfl (fun h2 => ?_) (fun h2 => ?_)
    · exact aw_conv [0, 1] rfl (he1 u2)
    · refine aw_aload_n (i := 0) dX10_removeBoard_18 19 rfl rfl 0 rfl ?_
      refine gf_X10_8 dX10_removeBoard_19 22 rfl wd_109 (ok_0 (by decide)) ?_
      refine aw_iload_n (i := 2) dX10_removeBoard_22 23 rfl rfl 2 rfl ?_
      refine aw_aald dX10_removeBoard_23 24 rfl at_22 (by decide) (by decide) rfl rfl (al_22 _) (ok_22 (by decide)) rfl (fun h3 => ?_)
      refine gfN_X1_0 dX10_removeBoard_24 27 rfl "SeaCells" (ns_55) (ok_8 (q_in_lt h3)) ?_
      refine aw_iload_n (i := 1) dX10_removeBoard_27 28 rfl rfl 1 rfl ?_
      refine aw_jn (fun k => ∀  (u3 : qM), qAW l G m_X10_removeBoard (q_mq G q_cU) 42 [(0, .ref (q_ad G 0 0)), (1, .int x1), (2, .int x2)] [] u3 (k u3)) ?_ ?_
      · intro u3
        refine aw_iincx (i := 2) dX10_removeBoard_42 45 rfl 2 rfl 1 rfl (fun x3 => [(2, .int x3), (0, .ref (q_ad G 0 0)), (1, .int x1)]) (by decide) (fun _ => rfl) (fun x3 => ?_)
        refine aw_goto dX10_removeBoard_45 12 rfl ?_
        exact aw_conv [1, 2, 0] rfl (ih x3 u3)
      · intro j1 hj1
        refine aw_icmp_ne dX10_removeBoard_28 31 rfl 42 rfl (fun h4 => ?_) (fun h4 => ?_)
        · exact hj1 u2
        · refine aw_aload_n (i := 0) dX10_removeBoard_31 32 rfl rfl 0 rfl ?_
          refine gf_X10_8 dX10_removeBoard_32 35 rfl wd_109 (ok_0 (by decide)) ?_
          refine aw_iload_n (i := 2) dX10_removeBoard_35 36 rfl rfl 2 rfl ?_
          refine aw_aald dX10_removeBoard_36 37 rfl at_22 (by decide) (by decide) rfl rfl (al_22 _) (ok_22 (by decide)) rfl (fun h5 => ?_)
          refine aw_bipush (x := (-9)) dX10_removeBoard_37 39 rfl rfl ?_
          refine pfN_X1_0 dX10_removeBoard_39 42 rfl "SeaCells" (ns_55) (ok_8 (q_in_lt h5)) ?_
          refine aw_ltm (fun u4 => ?_)
          exact hj1 u4
set_option maxRecDepth 100000 in
set_option maxHeartbeats 4000000 in
theorem TL_X10_removeBoard_50 (l : Launch) (G : qG) (x1 : Int32)  (e1 : qM → Option (Unit × qM)) (he1 : ∀  (v : qM), qAW l G m_X10_removeBoard (q_mq G q_cU) 86 [] [] v (e1 v)) : ∀ (n : Nat) (x4 : Int32) (u6 : qM), qAW l G m_X10_removeBoard (q_mq G q_cU) 50 [(0, .ref (q_ad G 0 0)), (1, .int x1), (2, .int x4)] [] u6 (L_X10_removeBoard_50 x1 n x4 u6 e1) := by
  intro n
  induction n with
  | zero => intros; exact aw_none
  | succ n ih =>
    intro x4 u6
    unfold L_X10_removeBoard_50
    refine aw_iload_n (i := 2) dX10_removeBoard_50 51 rfl rfl 2 rfl ?_
    refine aw_bipush (x := 8) dX10_removeBoard_51 53 rfl rfl ?_
    refine aw_icmp_ge dX10_removeBoard_53 56 rfl 86 rfl (fun h6 => ?_) (fun h6 => ?_)
    · exact aw_conv [] rfl (he1 u6)
    · refine aw_aload_n (i := 0) dX10_removeBoard_56 57 rfl rfl 0 rfl ?_
      refine gf_X10_9 dX10_removeBoard_57 60 rfl wd_110 (ok_0 (by decide)) ?_
      refine aw_iload_n (i := 2) dX10_removeBoard_60 61 rfl rfl 2 rfl ?_
      refine aw_aald dX10_removeBoard_61 62 rfl at_23 (by decide) (by decide) rfl rfl (al_23 _) (ok_23 (by decide)) rfl (fun h7 => ?_)
      refine gfN_X2_2 dX10_removeBoard_62 65 rfl "SeaCells" (ns_57) (ok_9 (q_in_lt h7)) ?_
      refine aw_iload_n (i := 1) dX10_removeBoard_65 66 rfl rfl 1 rfl ?_
      refine aw_jn (fun k => ∀  (u7 : qM), qAW l G m_X10_removeBoard (q_mq G q_cU) 80 [(0, .ref (q_ad G 0 0)), (1, .int x1), (2, .int x4)] [] u7 (k u7)) ?_ ?_
      · intro u7
        refine aw_iincx (i := 2) dX10_removeBoard_80 83 rfl 2 rfl 1 rfl (fun x5 => [(2, .int x5), (0, .ref (q_ad G 0 0)), (1, .int x1)]) (by decide) (fun _ => rfl) (fun x5 => ?_)
        refine aw_goto dX10_removeBoard_83 50 rfl ?_
        exact aw_conv [1, 2, 0] rfl (ih x5 u7)
      · intro j2 hj2
        refine aw_icmp_ne dX10_removeBoard_66 69 rfl 80 rfl (fun h8 => ?_) (fun h8 => ?_)
        · exact hj2 u6
        · refine aw_aload_n (i := 0) dX10_removeBoard_69 70 rfl rfl 0 rfl ?_
          refine gf_X10_9 dX10_removeBoard_70 73 rfl wd_110 (ok_0 (by decide)) ?_
          refine aw_iload_n (i := 2) dX10_removeBoard_73 74 rfl rfl 2 rfl ?_
          refine aw_aald dX10_removeBoard_74 75 rfl at_23 (by decide) (by decide) rfl rfl (al_23 _) (ok_23 (by decide)) rfl (fun h9 => ?_)
          refine aw_bipush (x := (-9)) dX10_removeBoard_75 77 rfl rfl ?_
          refine pfN_X2_2 dX10_removeBoard_77 80 rfl "SeaCells" (ns_57) (ok_9 (q_in_lt h9)) ?_
          refine aw_ltm (fun u8 => ?_)
          exact hj2 u8
set_option maxRecDepth 100000 in
set_option maxHeartbeats 4000000 in
theorem k_X10_removeBoard (l : Launch) (G : qG) (x1 : Int32)  (u0 : qM) : qCt l G m_X10_removeBoard q_cU [.ref (q_ad G 0 0), .int x1] u0 (f_X10_removeBoard x1 u0) := by
  refine q_entry pk_X10_removeBoard (Nat.le_of_ble_eq_true rfl) ?_
  show qAW l G m_X10_removeBoard (q_mq G q_cU) 0 [(0, .ref (q_ad G 0 0)), (1, .int x1)] [] u0 (f_X10_removeBoard x1 u0)
  unfold f_X10_removeBoard
  refine aw_aload_n (i := 0) dX10_removeBoard_0 1 rfl rfl 0 rfl ?_
  refine gf_X10_4 dX10_removeBoard_1 4 rfl wd_107 (ok_0 (by decide)) ?_
  refine aw_iload_n (i := 1) dX10_removeBoard_4 5 rfl rfl 1 rfl ?_
  refine aw_aald dX10_removeBoard_5 6 rfl at_21 (by decide) (by decide) rfl rfl (al_21 _) (ok_21 (by decide)) rfl (fun h1 => ?_)
  refine aw_iconst (x := 0) dX10_removeBoard_6 7 rfl rfl ?_
  refine pfN_X0_10 dX10_removeBoard_7 10 rfl "SeaCells" (ns_43) (ok_2 (Nat.lt_of_lt_of_le (q_in_lt h1) (by decide))) (by decide) ?_
  refine aw_ltm (fun u1 => ?_)
  refine aw_iconst (x := 0) dX10_removeBoard_10 11 rfl rfl ?_
  refine aw_istore_n dX10_removeBoard_11 12 rfl rfl [(2, .int 0), (0, .ref (q_ad G 0 0)), (1, .int x1)] (by decide) rfl ?_
  refine aw_conv [1, 2, 0] rfl (TL_X10_removeBoard_12 l G x1  _ ?_ _ 0 u1)
  · intro u5
    refine aw_iconst (x := 0) dX10_removeBoard_48 49 rfl rfl ?_
    refine aw_istore_n dX10_removeBoard_49 50 rfl rfl [(2, .int 0), (0, .ref (q_ad G 0 0)), (1, .int x1)] (by decide) rfl ?_
    refine aw_conv [1, 2, 0] rfl (TL_X10_removeBoard_50 l G x1  _ ?_ _ 0 u5)
    · intro u9
      exact aw_vret dX10_removeBoard_86 rfl
theorem dX10_clear_0 : decode cX10_clear 0 = .ok (.aload_n 0, 1) := by decide +kernel
theorem dX10_clear_1 : decode cX10_clear 1 = .ok (.iload_n 1, 1) := by decide +kernel
theorem dX10_clear_2 : decode cX10_clear 2 = .ok (.invokevirtual 318, 3) := by decide +kernel
theorem dX10_clear_5 : decode cX10_clear 5 = .ok (.iconst 0, 1) := by decide +kernel
theorem dX10_clear_6 : decode cX10_clear 6 = .ok (.istore_n 2, 1) := by decide +kernel
theorem dX10_clear_7 : decode cX10_clear 7 = .ok (.iload_n 2, 1) := by decide +kernel
theorem dX10_clear_8 : decode cX10_clear 8 = .ok (.bipush 6, 2) := by decide +kernel
theorem dX10_clear_10 : decode cX10_clear 10 = .ok (.if_icmp .ge 61, 3) := by decide +kernel
theorem dX10_clear_13 : decode cX10_clear 13 = .ok (.iconst 0, 1) := by decide +kernel
theorem dX10_clear_14 : decode cX10_clear 14 = .ok (.istore_n 3, 1) := by decide +kernel
theorem dX10_clear_15 : decode cX10_clear 15 = .ok (.iload_n 3, 1) := by decide +kernel
theorem dX10_clear_16 : decode cX10_clear 16 = .ok (.bipush 6, 2) := by decide +kernel
theorem dX10_clear_18 : decode cX10_clear 18 = .ok (.if_icmp .ge 47, 3) := by decide +kernel
theorem dX10_clear_21 : decode cX10_clear 21 = .ok (.aload_n 0, 1) := by decide +kernel
theorem dX10_clear_22 : decode cX10_clear 22 = .ok (.getfield 30, 3) := by decide +kernel
theorem dX10_clear_25 : decode cX10_clear 25 = .ok (.iload_n 3, 1) := by decide +kernel
theorem dX10_clear_26 : decode cX10_clear 26 = .ok (.aaload, 1) := by decide +kernel
theorem dX10_clear_27 : decode cX10_clear 27 = .ok (.getfield 305, 3) := by decide +kernel
theorem dX10_clear_30 : decode cX10_clear 30 = .ok (.ifCond .eq 29, 3) := by decide +kernel
theorem dX10_clear_33 : decode cX10_clear 33 = .ok (.aload_n 0, 1) := by decide +kernel
theorem dX10_clear_34 : decode cX10_clear 34 = .ok (.getfield 30, 3) := by decide +kernel
theorem dX10_clear_37 : decode cX10_clear 37 = .ok (.iload_n 3, 1) := by decide +kernel
theorem dX10_clear_38 : decode cX10_clear 38 = .ok (.aaload, 1) := by decide +kernel
theorem dX10_clear_39 : decode cX10_clear 39 = .ok (.getfield 276, 3) := by decide +kernel
theorem dX10_clear_42 : decode cX10_clear 42 = .ok (.iconst 2, 1) := by decide +kernel
theorem dX10_clear_43 : decode cX10_clear 43 = .ok (.if_icmp .ne 16, 3) := by decide +kernel
theorem dX10_clear_46 : decode cX10_clear 46 = .ok (.aload_n 0, 1) := by decide +kernel
theorem dX10_clear_47 : decode cX10_clear 47 = .ok (.iload_n 3, 1) := by decide +kernel
theorem dX10_clear_48 : decode cX10_clear 48 = .ok (.invokevirtual 321, 3) := by decide +kernel
theorem dX10_clear_51 : decode cX10_clear 51 = .ok (.ifCond .ne 8, 3) := by decide +kernel
theorem dX10_clear_54 : decode cX10_clear 54 = .ok (.aload_n 0, 1) := by decide +kernel
theorem dX10_clear_55 : decode cX10_clear 55 = .ok (.iload_n 3, 1) := by decide +kernel
theorem dX10_clear_56 : decode cX10_clear 56 = .ok (.invokevirtual 318, 3) := by decide +kernel
theorem dX10_clear_59 : decode cX10_clear 59 = .ok (.iinc 3 1, 3) := by decide +kernel
theorem dX10_clear_62 : decode cX10_clear 62 = .ok (.goto (-47), 3) := by decide +kernel
theorem dX10_clear_65 : decode cX10_clear 65 = .ok (.iinc 2 1, 3) := by decide +kernel
theorem dX10_clear_68 : decode cX10_clear 68 = .ok (.goto (-61), 3) := by decide +kernel
theorem dX10_clear_71 : decode cX10_clear 71 = .ok (.return_, 1) := by decide +kernel
noncomputable def L_X10_clear_15 (x2 : Int32) : Nat → Int32 → qM → (qM → Option (Unit × qM)) → Option (Unit × qM)
  | 0, _, _, _ => none
  | n + 1, x3, u3, e1 => if 6 ≤ x3 then e1 u3 else q_ck (q_in x3 6) (q_jn (fun  (u4 : qM) => q_lt (x3 + 1) (fun (x4 : Int32) => L_X10_clear_15 x2 n x4 u4 e1)) (fun j1 => if (u3.1 2 (Int32.toNatClampNeg x3) 10) = 0 then j1 u3 else q_ck (q_in x3 6) (if (u3.1 2 (Int32.toNatClampNeg x3) 11) = 2 then q_bd (f_X10_hasGround x3 u3) (fun (x5 : Int32) (u5 : qM) => if x5 = 0 then q_bd (f_X10_removeBoard x3 u5) (fun (_z : Unit) (u6 : qM) => j1 u6) else j1 u5) else j1 u3)))
noncomputable def L_X10_clear_7  : Nat → Int32 → qM → (qM → Option (Unit × qM)) → Option (Unit × qM)
  | 0, _, _, _ => none
  | n + 1, x2, u2, e1 => if 6 ≤ x2 then e1 u2 else L_X10_clear_15 x2 q_fu 0 u2 (fun u7 => q_lt (x2 + 1) (fun (x6 : Int32) => L_X10_clear_7 n x6 u7 e1))
noncomputable def f_X10_clear (x1 : Int32) (u0 : qM) : Option (Unit × qM) :=
  q_bd (f_X10_removeBoard x1 u0) (fun (_z : Unit) (u1 : qM) => L_X10_clear_7 q_fu 0 u1 (fun u8 => some ((), u8)))
set_option maxRecDepth 100000 in
set_option maxHeartbeats 4000000 in
theorem TL_X10_clear_15 (l : Launch) (G : qG) (x2 : Int32)  (e1 : qM → Option (Unit × qM)) (he1 : ∀  (v : qM), qAW l G m_X10_clear (q_mq G q_cU) 65 [(0, .ref (q_ad G 0 0)), (2, .int x2)] [] v (e1 v)) : ∀ (n : Nat) (x3 : Int32) (u3 : qM), qAW l G m_X10_clear (q_mq G q_cU) 15 [(0, .ref (q_ad G 0 0)), (2, .int x2), (3, .int x3)] [] u3 (L_X10_clear_15 x2 n x3 u3 e1) := by
  intro n
  induction n with
  | zero => intros; exact aw_none
  | succ n ih =>
    intro x3 u3
    unfold L_X10_clear_15
    refine aw_iload_n (i := 3) dX10_clear_15 16 rfl rfl 2 rfl ?_
    refine aw_bipush (x := 6) dX10_clear_16 18 rfl rfl ?_
    refine aw_icmp_ge dX10_clear_18 21 rfl 65 rfl (fun h2 => ?_) (fun h2 => ?_)
    · exact aw_conv [0, 1] rfl (he1 u3)
    · refine aw_aload_n (i := 0) dX10_clear_21 22 rfl rfl 0 rfl ?_
      refine gf_X10_4 dX10_clear_22 25 rfl wd_107 (ok_0 (by decide)) ?_
      refine aw_iload_n (i := 3) dX10_clear_25 26 rfl rfl 2 rfl ?_
      refine aw_aald dX10_clear_26 27 rfl at_21 (by decide) (by decide) rfl rfl (al_21 _) (ok_21 (by decide)) rfl (fun h3 => ?_)
      refine gfN_X0_10 dX10_clear_27 30 rfl "SeaCells" (ns_43) (ok_2 (Nat.lt_of_lt_of_le (q_in_lt h3) (by decide))) ?_
      refine aw_jn (fun k => ∀  (u4 : qM), qAW l G m_X10_clear (q_mq G q_cU) 59 [(0, .ref (q_ad G 0 0)), (2, .int x2), (3, .int x3)] [] u4 (k u4)) ?_ ?_
      · intro u4
        refine aw_iincx (i := 3) dX10_clear_59 62 rfl 2 rfl 1 rfl (fun x4 => [(3, .int x4), (0, .ref (q_ad G 0 0)), (2, .int x2)]) (by decide) (fun _ => rfl) (fun x4 => ?_)
        refine aw_goto dX10_clear_62 15 rfl ?_
        exact aw_conv [1, 2, 0] rfl (ih x4 u4)
      · intro j1 hj1
        refine aw_if_eq dX10_clear_30 33 rfl 59 rfl (fun h4 => ?_) (fun h4 => ?_)
        · exact hj1 u3
        · refine aw_aload_n (i := 0) dX10_clear_33 34 rfl rfl 0 rfl ?_
          refine gf_X10_4 dX10_clear_34 37 rfl wd_107 (ok_0 (by decide)) ?_
          refine aw_iload_n (i := 3) dX10_clear_37 38 rfl rfl 2 rfl ?_
          refine aw_aald dX10_clear_38 39 rfl at_21 (by decide) (by decide) rfl rfl (al_21 _) (ok_21 (by decide)) rfl (fun h5 => ?_)
          refine gfN_X0_11 dX10_clear_39 42 rfl "SeaCells" (ns_44) (ok_2 (Nat.lt_of_lt_of_le (q_in_lt h5) (by decide))) ?_
          refine aw_iconst (x := 2) dX10_clear_42 43 rfl rfl ?_
          refine aw_icmp_ne dX10_clear_43 46 rfl 59 rfl (fun h6 => ?_) (fun h6 => ?_)
          · exact hj1 u3
          · refine aw_aload_n (i := 0) dX10_clear_46 47 rfl rfl 0 rfl ?_
            refine aw_iload_n (i := 3) dX10_clear_47 48 rfl rfl 2 rfl ?_
            refine aw_callV (M2 := m_X10_hasGround) (cv := q_cI) dX10_clear_48 51 rfl (k_X10_hasGround l G x3  u3) wd_112 wv_X10_hasGround pk_X10_hasGround rfl rfl ⟨by decide, by decide⟩ ⟨Nat.zero_le _, Nat.zero_le _⟩ at_0 (ok_0 (by decide)) rfl rfl rfl (Nat.le_of_ble_eq_true rfl) (fun x5 u5 => ?_)
            show qAW l G m_X10_clear (q_mq G q_cU) 51 [(0, .ref (q_ad G 0 0)), (2, .int x2), (3, .int x3)] [.int x5] u5 _
            refine aw_if_ne dX10_clear_51 54 rfl 59 rfl (fun h7 => ?_) (fun h7 => ?_)
            · exact hj1 u5
            · refine aw_aload_n (i := 0) dX10_clear_54 55 rfl rfl 0 rfl ?_
              refine aw_iload_n (i := 3) dX10_clear_55 56 rfl rfl 2 rfl ?_
              refine aw_callV (M2 := m_X10_removeBoard) (cv := q_cU) dX10_clear_56 59 rfl (k_X10_removeBoard l G x3  u5) wd_111 wv_X10_removeBoard pk_X10_removeBoard rfl rfl ⟨by decide, by decide⟩ ⟨Nat.zero_le _, Nat.zero_le _⟩ at_0 (ok_0 (by decide)) rfl rfl rfl (Nat.le_of_ble_eq_true rfl) (fun _z u6 => ?_)
              show qAW l G m_X10_clear (q_mq G q_cU) 59 [(0, .ref (q_ad G 0 0)), (2, .int x2), (3, .int x3)] [] u6 _
              exact hj1 u6
set_option maxRecDepth 100000 in
set_option maxHeartbeats 4000000 in
theorem TL_X10_clear_7 (l : Launch) (G : qG)   (e1 : qM → Option (Unit × qM)) (he1 : ∀  (v : qM), qAW l G m_X10_clear (q_mq G q_cU) 71 [] [] v (e1 v)) : ∀ (n : Nat) (x2 : Int32) (u2 : qM), qAW l G m_X10_clear (q_mq G q_cU) 7 [(0, .ref (q_ad G 0 0)), (2, .int x2)] [] u2 (L_X10_clear_7 n x2 u2 e1) := by
  intro n
  induction n with
  | zero => intros; exact aw_none
  | succ n ih =>
    intro x2 u2
    unfold L_X10_clear_7
    refine aw_iload_n (i := 2) dX10_clear_7 8 rfl rfl 1 rfl ?_
    refine aw_bipush (x := 6) dX10_clear_8 10 rfl rfl ?_
    refine aw_icmp_ge dX10_clear_10 13 rfl 71 rfl (fun h1 => ?_) (fun h1 => ?_)
    · exact aw_conv [] rfl (he1 u2)
    · refine aw_iconst (x := 0) dX10_clear_13 14 rfl rfl ?_
      refine aw_istore_n dX10_clear_14 15 rfl rfl [(3, .int 0), (0, .ref (q_ad G 0 0)), (2, .int x2)] (by decide) rfl ?_
      refine aw_conv [1, 2, 0] rfl (TL_X10_clear_15 l G x2  _ ?_ _ 0 u2)
      · intro u7
        refine aw_iincx (i := 2) dX10_clear_65 68 rfl 1 rfl 1 rfl (fun x6 => [(2, .int x6), (0, .ref (q_ad G 0 0))]) (by decide) (fun _ => rfl) (fun x6 => ?_)
        refine aw_goto dX10_clear_68 7 rfl ?_
        exact aw_conv [1, 0] rfl (ih x6 u7)
set_option maxRecDepth 100000 in
set_option maxHeartbeats 4000000 in
theorem k_X10_clear (l : Launch) (G : qG) (x1 : Int32)  (u0 : qM) : qCt l G m_X10_clear q_cU [.ref (q_ad G 0 0), .int x1] u0 (f_X10_clear x1 u0) := by
  refine q_entry pk_X10_clear (Nat.le_of_ble_eq_true rfl) ?_
  show qAW l G m_X10_clear (q_mq G q_cU) 0 [(0, .ref (q_ad G 0 0)), (1, .int x1)] [] u0 (f_X10_clear x1 u0)
  unfold f_X10_clear
  refine aw_aload_n (i := 0) dX10_clear_0 1 rfl rfl 0 rfl ?_
  refine aw_iload_n (i := 1) dX10_clear_1 2 rfl rfl 1 rfl ?_
  refine aw_callV (M2 := m_X10_removeBoard) (cv := q_cU) dX10_clear_2 5 rfl (k_X10_removeBoard l G x1  u0) wd_111 wv_X10_removeBoard pk_X10_removeBoard rfl rfl ⟨by decide, by decide⟩ ⟨Nat.zero_le _, Nat.zero_le _⟩ at_0 (ok_0 (by decide)) rfl rfl rfl (Nat.le_of_ble_eq_true rfl) (fun _z u1 => ?_)
  show qAW l G m_X10_clear (q_mq G q_cU) 5 [(0, .ref (q_ad G 0 0)), (1, .int x1)] [] u1 _
  refine aw_iconst (x := 0) dX10_clear_5 6 rfl rfl ?_
  refine aw_istore_n dX10_clear_6 7 rfl rfl [(2, .int 0), (0, .ref (q_ad G 0 0)), (1, .int x1)] (by decide) rfl ?_
  refine aw_conv [1, 0] rfl (TL_X10_clear_7 l G   _ ?_ _ 0 u1)
  · intro u8
    exact aw_vret dX10_clear_71 rfl
theorem dX10_board_0 : decode cX10_board 0 = .ok (.iload_n 1, 1) := by decide +kernel
theorem dX10_board_1 : decode cX10_board 1 = .ok (.invokestatic 157, 3) := by decide +kernel
theorem dX10_board_4 : decode cX10_board 4 = .ok (.ifCond .eq 17, 3) := by decide +kernel
theorem dX10_board_7 : decode cX10_board 7 = .ok (.iload_n 2, 1) := by decide +kernel
theorem dX10_board_8 : decode cX10_board 8 = .ok (.ifCond .eq 15, 3) := by decide +kernel
theorem dX10_board_11 : decode cX10_board 11 = .ok (.iload_n 2, 1) := by decide +kernel
theorem dX10_board_12 : decode cX10_board 12 = .ok (.iconst 1, 1) := by decide +kernel
theorem dX10_board_13 : decode cX10_board 13 = .ok (.if_icmp .eq 10, 3) := by decide +kernel
theorem dX10_board_16 : decode cX10_board 16 = .ok (.iload_n 2, 1) := by decide +kernel
theorem dX10_board_17 : decode cX10_board 17 = .ok (.iconst 3, 1) := by decide +kernel
theorem dX10_board_18 : decode cX10_board 18 = .ok (.if_icmp .eq 5, 3) := by decide +kernel
theorem dX10_board_21 : decode cX10_board 21 = .ok (.iconst (-1), 1) := by decide +kernel
theorem dX10_board_22 : decode cX10_board 22 = .ok (.ireturn, 1) := by decide +kernel
theorem dX10_board_23 : decode cX10_board 23 = .ok (.iload_n 3, 1) := by decide +kernel
theorem dX10_board_24 : decode cX10_board 24 = .ok (.iconst 2, 1) := by decide +kernel
theorem dX10_board_25 : decode cX10_board 25 = .ok (.bipush 8, 2) := by decide +kernel
theorem dX10_board_27 : decode cX10_board 27 = .ok (.invokestatic 101, 3) := by decide +kernel
theorem dX10_board_30 : decode cX10_board 30 = .ok (.ifCond .eq 14, 3) := by decide +kernel
theorem dX10_board_33 : decode cX10_board 33 = .ok (.iload 4, 2) := by decide +kernel
theorem dX10_board_35 : decode cX10_board 35 = .ok (.iconst 1, 1) := by decide +kernel
theorem dX10_board_36 : decode cX10_board 36 = .ok (.bipush 6, 2) := by decide +kernel
theorem dX10_board_38 : decode cX10_board 38 = .ok (.invokestatic 101, 3) := by decide +kernel
theorem dX10_board_41 : decode cX10_board 41 = .ok (.ifCond .ne 5, 3) := by decide +kernel
theorem dX10_board_44 : decode cX10_board 44 = .ok (.iconst (-1), 1) := by decide +kernel
theorem dX10_board_45 : decode cX10_board 45 = .ok (.ireturn, 1) := by decide +kernel
theorem dX10_board_46 : decode cX10_board 46 = .ok (.aload_n 0, 1) := by decide +kernel
theorem dX10_board_47 : decode cX10_board 47 = .ok (.iload_n 1, 1) := by decide +kernel
theorem dX10_board_48 : decode cX10_board 48 = .ok (.invokevirtual 160, 3) := by decide +kernel
theorem dX10_board_51 : decode cX10_board 51 = .ok (.aload_n 0, 1) := by decide +kernel
theorem dX10_board_52 : decode cX10_board 52 = .ok (.getfield 30, 3) := by decide +kernel
theorem dX10_board_55 : decode cX10_board 55 = .ok (.iload_n 1, 1) := by decide +kernel
theorem dX10_board_56 : decode cX10_board 56 = .ok (.aaload, 1) := by decide +kernel
theorem dX10_board_57 : decode cX10_board 57 = .ok (.iload_n 2, 1) := by decide +kernel
theorem dX10_board_58 : decode cX10_board 58 = .ok (.iload_n 3, 1) := by decide +kernel
theorem dX10_board_59 : decode cX10_board 59 = .ok (.iload 4, 2) := by decide +kernel
theorem dX10_board_61 : decode cX10_board 61 = .ok (.invokevirtual 163, 3) := by decide +kernel
theorem dX10_board_64 : decode cX10_board 64 = .ok (.aload_n 0, 1) := by decide +kernel
theorem dX10_board_65 : decode cX10_board 65 = .ok (.getfield 30, 3) := by decide +kernel
theorem dX10_board_68 : decode cX10_board 68 = .ok (.iload_n 1, 1) := by decide +kernel
theorem dX10_board_69 : decode cX10_board 69 = .ok (.aaload, 1) := by decide +kernel
theorem dX10_board_70 : decode cX10_board 70 = .ok (.invokevirtual 166, 3) := by decide +kernel
theorem dX10_board_73 : decode cX10_board 73 = .ok (.ireturn, 1) := by decide +kernel
noncomputable def f_X10_board (x1 : Int32) (x2 : Int32) (x3 : Int32) (x4 : Int32) (u0 : qM) : Option (Int32 × qM) :=
  q_bd (f_X10_isBoard x1 u0) (fun (x5 : Int32) (u1 : qM) => q_jn (fun  (u2 : qM) => some ((-1), u2)) (fun j1 => if x5 = 0 then j1 u1 else q_jn (fun  (u3 : qM) => q_bd (f_X10_within x3 2 8 u3) (fun (x6 : Int32) (u4 : qM) => q_jn (fun  (u5 : qM) => some ((-1), u5)) (fun j3 => if x6 = 0 then j3 u4 else q_bd (f_X10_within x4 1 6 u4) (fun (x7 : Int32) (u6 : qM) => if x7 = 0 then j3 u6 else q_bd (f_X10_clear x1 u6) (fun (_z : Unit) (u7 : qM) => q_ck (q_in x1 6) (q_bd (f_X0_reset (Int32.toNatClampNeg x1) x2 x3 x4 u7) (fun (_z : Unit) (u8 : qM) => q_ck (q_in x1 6) (q_bd (f_X0_cells (Int32.toNatClampNeg x1) u8) (fun (x8 : Int32) (u9 : qM) => some (x8, u9)))))))))) (fun j2 => if x2 = 0 then j2 u1 else if x2 = 1 then j2 u1 else if x2 = 3 then j2 u1 else j1 u1)))
set_option maxRecDepth 100000 in
set_option maxHeartbeats 4000000 in
theorem k_X10_board (l : Launch) (G : qG) (x1 : Int32) (x2 : Int32) (x3 : Int32) (x4 : Int32)  (u0 : qM) : qCt l G m_X10_board q_cI [.ref (q_ad G 0 0), .int x1, .int x2, .int x3, .int x4] u0 (f_X10_board x1 x2 x3 x4 u0) := by
  refine q_entry pk_X10_board (Nat.le_of_ble_eq_true rfl) ?_
  show qAW l G m_X10_board (q_mq G q_cI) 0 [(0, .ref (q_ad G 0 0)), (1, .int x1), (2, .int x2), (3, .int x3), (4, .int x4)] [] u0 (f_X10_board x1 x2 x3 x4 u0)
  unfold f_X10_board
  refine aw_iload_n (i := 1) dX10_board_0 1 rfl rfl 1 rfl ?_
  refine aw_callS (M2 := m_X10_isBoard) (cv := q_cI) dX10_board_1 4 rfl (k_X10_isBoard l G x1  u0) wd_108 wv_X10_isBoard pk_X10_isBoard rfl ⟨by decide, by decide⟩ ⟨Nat.zero_le _, Nat.zero_le _⟩ rfl (Nat.le_of_ble_eq_true rfl) (fun x5 u1 => ?_)
  show qAW l G m_X10_board (q_mq G q_cI) 4 [(0, .ref (q_ad G 0 0)), (1, .int x1), (2, .int x2), (3, .int x3), (4, .int x4)] [.int x5] u1 _
  refine aw_jn (fun k => ∀  (u2 : qM), qAW l G m_X10_board (q_mq G q_cI) 21 [] [] u2 (k u2)) ?_ ?_
  · intro u2
    refine aw_iconst (x := (-1)) dX10_board_21 22 rfl rfl ?_
    exact aw_iret dX10_board_22 rfl
  · intro j1 hj1
    refine aw_if_eq dX10_board_4 7 rfl 21 rfl (fun h1 => ?_) (fun h1 => ?_)
    · exact aw_conv [] rfl (hj1 u1)
    · refine aw_iload_n (i := 2) dX10_board_7 8 rfl rfl 2 rfl ?_
      refine aw_jn (fun k => ∀  (u3 : qM), qAW l G m_X10_board (q_mq G q_cI) 23 [(0, .ref (q_ad G 0 0)), (1, .int x1), (2, .int x2), (3, .int x3), (4, .int x4)] [] u3 (k u3)) ?_ ?_
      · intro u3
        refine aw_iload_n (i := 3) dX10_board_23 24 rfl rfl 3 rfl ?_
        refine aw_iconst (x := 2) dX10_board_24 25 rfl rfl ?_
        refine aw_bipush (x := 8) dX10_board_25 27 rfl rfl ?_
        refine aw_callS (M2 := m_X10_within) (cv := q_cI) dX10_board_27 30 rfl (k_X10_within l G x3 2 8  u3) wd_103 wv_X10_within pk_X10_within rfl ⟨by decide, by decide⟩ ⟨Nat.zero_le _, Nat.zero_le _⟩ rfl (Nat.le_of_ble_eq_true rfl) (fun x6 u4 => ?_)
        show qAW l G m_X10_board (q_mq G q_cI) 30 [(0, .ref (q_ad G 0 0)), (1, .int x1), (2, .int x2), (3, .int x3), (4, .int x4)] [.int x6] u4 _
        refine aw_jn (fun k => ∀  (u5 : qM), qAW l G m_X10_board (q_mq G q_cI) 44 [] [] u5 (k u5)) ?_ ?_
        · intro u5
          refine aw_iconst (x := (-1)) dX10_board_44 45 rfl rfl ?_
          exact aw_iret dX10_board_45 rfl
        · intro j3 hj3
          refine aw_if_eq dX10_board_30 33 rfl 44 rfl (fun h3 => ?_) (fun h3 => ?_)
          · exact aw_conv [] rfl (hj3 u4)
          · refine aw_iload (i := 4) dX10_board_33 35 rfl 4 rfl ?_
            refine aw_iconst (x := 1) dX10_board_35 36 rfl rfl ?_
            refine aw_bipush (x := 6) dX10_board_36 38 rfl rfl ?_
            refine aw_callS (M2 := m_X10_within) (cv := q_cI) dX10_board_38 41 rfl (k_X10_within l G x4 1 6  u4) wd_103 wv_X10_within pk_X10_within rfl ⟨by decide, by decide⟩ ⟨Nat.zero_le _, Nat.zero_le _⟩ rfl (Nat.le_of_ble_eq_true rfl) (fun x7 u6 => ?_)
            show qAW l G m_X10_board (q_mq G q_cI) 41 [(0, .ref (q_ad G 0 0)), (1, .int x1), (2, .int x2), (3, .int x3), (4, .int x4)] [.int x7] u6 _
            refine aw_if_ne dX10_board_41 44 rfl 46 rfl (fun h4 => ?_) (fun h4 => ?_)
            · refine aw_aload_n (i := 0) dX10_board_46 47 rfl rfl 0 rfl ?_
              refine aw_iload_n (i := 1) dX10_board_47 48 rfl rfl 1 rfl ?_
              refine aw_callV (M2 := m_X10_clear) (cv := q_cU) dX10_board_48 51 rfl (k_X10_clear l G x1  u6) wd_113 wv_X10_clear pk_X10_clear rfl rfl ⟨by decide, by decide⟩ ⟨Nat.zero_le _, Nat.zero_le _⟩ at_0 (ok_0 (by decide)) rfl rfl rfl (Nat.le_of_ble_eq_true rfl) (fun _z u7 => ?_)
              show qAW l G m_X10_board (q_mq G q_cI) 51 [(0, .ref (q_ad G 0 0)), (1, .int x1), (2, .int x2), (3, .int x3), (4, .int x4)] [] u7 _
              refine aw_aload_n (i := 0) dX10_board_51 52 rfl rfl 0 rfl ?_
              refine gf_X10_4 dX10_board_52 55 rfl wd_107 (ok_0 (by decide)) ?_
              refine aw_iload_n (i := 1) dX10_board_55 56 rfl rfl 1 rfl ?_
              refine aw_aald dX10_board_56 57 rfl at_21 (by decide) (by decide) rfl rfl (al_21 _) (ok_21 (by decide)) rfl (fun h5 => ?_)
              refine aw_iload_n (i := 2) dX10_board_57 58 rfl rfl 2 rfl ?_
              refine aw_iload_n (i := 3) dX10_board_58 59 rfl rfl 3 rfl ?_
              refine aw_iload (i := 4) dX10_board_59 61 rfl 4 rfl ?_
              refine aw_callV (M2 := m_X0_reset) (cv := q_cU) dX10_board_61 64 rfl (k_X0_reset l G (Int32.toNatClampNeg x1) x2 x3 x4 (Nat.lt_of_lt_of_le (q_in_lt h5) (by decide)) u7) wd_114 wv_X0_reset pk_X0_reset rfl rfl ⟨by decide, by decide⟩ ⟨Nat.zero_le _, Nat.zero_le _⟩ at_2 (ok_2 (Nat.lt_of_lt_of_le (q_in_lt h5) (by decide))) rfl rfl rfl (Nat.le_of_ble_eq_true rfl) (fun _z u8 => ?_)
              show qAW l G m_X10_board (q_mq G q_cI) 64 [(0, .ref (q_ad G 0 0)), (1, .int x1), (2, .int x2), (3, .int x3), (4, .int x4)] [] u8 _
              refine aw_aload_n (i := 0) dX10_board_64 65 rfl rfl 0 rfl ?_
              refine gf_X10_4 dX10_board_65 68 rfl wd_107 (ok_0 (by decide)) ?_
              refine aw_iload_n (i := 1) dX10_board_68 69 rfl rfl 1 rfl ?_
              refine aw_aald dX10_board_69 70 rfl at_21 (by decide) (by decide) rfl rfl (al_21 _) (ok_21 (by decide)) rfl (fun h6 => ?_)
              refine aw_callV (M2 := m_X0_cells) (cv := q_cI) dX10_board_70 73 rfl (k_X0_cells l G (Int32.toNatClampNeg x1) (Nat.lt_of_lt_of_le (q_in_lt h6) (by decide)) u8) wd_115 wv_X0_cells pk_X0_cells rfl rfl ⟨by decide, by decide⟩ ⟨Nat.zero_le _, Nat.zero_le _⟩ at_2 (ok_2 (Nat.lt_of_lt_of_le (q_in_lt h6) (by decide))) rfl rfl rfl (Nat.le_of_ble_eq_true rfl) (fun x8 u9 => ?_)
              show qAW l G m_X10_board (q_mq G q_cI) 73 [(0, .ref (q_ad G 0 0)), (1, .int x1), (2, .int x2), (3, .int x3), (4, .int x4)] [.int x8] u9 _
              exact aw_iret dX10_board_73 rfl
            · exact aw_conv [] rfl (hj3 u6)
      · intro j2 hj2
        refine aw_if_eq dX10_board_8 11 rfl 23 rfl (fun h2 => ?_) (fun h2 => ?_)
        · exact hj2 u1
        · refine aw_iload_n (i := 2) dX10_board_11 12 rfl rfl 2 rfl ?_
          refine aw_iconst (x := 1) dX10_board_12 13 rfl rfl ?_
          refine aw_icmp_eq dX10_board_13 16 rfl 23 rfl (fun h7 => ?_) (fun h7 => ?_)
          · exact hj2 u1
          · refine aw_iload_n (i := 2) dX10_board_16 17 rfl rfl 2 rfl ?_
            refine aw_iconst (x := 3) dX10_board_17 18 rfl rfl ?_
            refine aw_icmp_eq dX10_board_18 21 rfl 23 rfl (fun h8 => ?_) (fun h8 => ?_)
            · exact hj2 u1
            · exact aw_conv [] rfl (hj1 u1)
theorem dX10_boardRefused_0 : decode cX10_boardRefused 0 = .ok (.iload_n 1, 1) := by decide +kernel
theorem dX10_boardRefused_1 : decode cX10_boardRefused 1 = .ok (.ifCond .eq 10, 3) := by decide +kernel
theorem dX10_boardRefused_4 : decode cX10_boardRefused 4 = .ok (.iload_n 2, 1) := by decide +kernel
theorem dX10_boardRefused_5 : decode cX10_boardRefused 5 = .ok (.invokestatic 157, 3) := by decide +kernel
theorem dX10_boardRefused_8 : decode cX10_boardRefused 8 = .ok (.ifCond .ne 5, 3) := by decide +kernel
theorem dX10_boardRefused_11 : decode cX10_boardRefused 11 = .ok (.iconst (-1), 1) := by decide +kernel
theorem dX10_boardRefused_12 : decode cX10_boardRefused 12 = .ok (.ireturn, 1) := by decide +kernel
theorem dX10_boardRefused_13 : decode cX10_boardRefused 13 = .ok (.aload_n 0, 1) := by decide +kernel
theorem dX10_boardRefused_14 : decode cX10_boardRefused 14 = .ok (.getfield 30, 3) := by decide +kernel
theorem dX10_boardRefused_17 : decode cX10_boardRefused 17 = .ok (.iload_n 2, 1) := by decide +kernel
theorem dX10_boardRefused_18 : decode cX10_boardRefused 18 = .ok (.aaload, 1) := by decide +kernel
theorem dX10_boardRefused_19 : decode cX10_boardRefused 19 = .ok (.getfield 305, 3) := by decide +kernel
theorem dX10_boardRefused_22 : decode cX10_boardRefused 22 = .ok (.ifCond .eq 7, 3) := by decide +kernel
theorem dX10_boardRefused_25 : decode cX10_boardRefused 25 = .ok (.iconst 0, 1) := by decide +kernel
theorem dX10_boardRefused_26 : decode cX10_boardRefused 26 = .ok (.goto 8, 3) := by decide +kernel
theorem dX10_boardRefused_29 : decode cX10_boardRefused 29 = .ok (.aload_n 0, 1) := by decide +kernel
theorem dX10_boardRefused_30 : decode cX10_boardRefused 30 = .ok (.iconst 1, 1) := by decide +kernel
theorem dX10_boardRefused_31 : decode cX10_boardRefused 31 = .ok (.invokevirtual 91, 3) := by decide +kernel
theorem dX10_boardRefused_34 : decode cX10_boardRefused 34 = .ok (.ireturn, 1) := by decide +kernel
noncomputable def f_X10_boardRefused (x1 : Int32) (x2 : Int32) (u0 : qM) : Option (Int32 × qM) :=
  q_jn (fun  (u1 : qM) => some ((-1), u1)) (fun j1 => if x1 = 0 then j1 u0 else q_bd (f_X10_isBoard x2 u0) (fun (x3 : Int32) (u2 : qM) => if x3 = 0 then j1 u2 else q_ck (q_in x2 6) (q_jn (fun (x4 : Int32) (u3 : qM) => some (x4, u3)) (fun j2 => if (u2.1 2 (Int32.toNatClampNeg x2) 10) = 0 then q_bd (f_X10_found 1 u2) (fun (x5 : Int32) (u4 : qM) => j2 x5 u4) else j2 0 u2))))
set_option maxRecDepth 100000 in
set_option maxHeartbeats 4000000 in
theorem k_X10_boardRefused (l : Launch) (G : qG) (x1 : Int32) (x2 : Int32)  (u0 : qM) : qCt l G m_X10_boardRefused q_cI [.ref (q_ad G 0 0), .int x1, .int x2] u0 (f_X10_boardRefused x1 x2 u0) := by
  refine q_entry pk_X10_boardRefused (Nat.le_of_ble_eq_true rfl) ?_
  show qAW l G m_X10_boardRefused (q_mq G q_cI) 0 [(0, .ref (q_ad G 0 0)), (1, .int x1), (2, .int x2)] [] u0 (f_X10_boardRefused x1 x2 u0)
  unfold f_X10_boardRefused
  refine aw_iload_n (i := 1) dX10_boardRefused_0 1 rfl rfl 1 rfl ?_
  refine aw_jn (fun k => ∀  (u1 : qM), qAW l G m_X10_boardRefused (q_mq G q_cI) 11 [] [] u1 (k u1)) ?_ ?_
  · intro u1
    refine aw_iconst (x := (-1)) dX10_boardRefused_11 12 rfl rfl ?_
    exact aw_iret dX10_boardRefused_12 rfl
  · intro j1 hj1
    refine aw_if_eq dX10_boardRefused_1 4 rfl 11 rfl (fun h1 => ?_) (fun h1 => ?_)
    · exact aw_conv [] rfl (hj1 u0)
    · refine aw_iload_n (i := 2) dX10_boardRefused_4 5 rfl rfl 2 rfl ?_
      refine aw_callS (M2 := m_X10_isBoard) (cv := q_cI) dX10_boardRefused_5 8 rfl (k_X10_isBoard l G x2  u0) wd_108 wv_X10_isBoard pk_X10_isBoard rfl ⟨by decide, by decide⟩ ⟨Nat.zero_le _, Nat.zero_le _⟩ rfl (Nat.le_of_ble_eq_true rfl) (fun x3 u2 => ?_)
      show qAW l G m_X10_boardRefused (q_mq G q_cI) 8 [(0, .ref (q_ad G 0 0)), (1, .int x1), (2, .int x2)] [.int x3] u2 _
      refine aw_if_ne dX10_boardRefused_8 11 rfl 13 rfl (fun h2 => ?_) (fun h2 => ?_)
      · refine aw_aload_n (i := 0) dX10_boardRefused_13 14 rfl rfl 0 rfl ?_
        refine gf_X10_4 dX10_boardRefused_14 17 rfl wd_107 (ok_0 (by decide)) ?_
        refine aw_iload_n (i := 2) dX10_boardRefused_17 18 rfl rfl 2 rfl ?_
        refine aw_aald dX10_boardRefused_18 19 rfl at_21 (by decide) (by decide) rfl rfl (al_21 _) (ok_21 (by decide)) rfl (fun h3 => ?_)
        refine gfN_X0_10 dX10_boardRefused_19 22 rfl "SeaCells" (ns_43) (ok_2 (Nat.lt_of_lt_of_le (q_in_lt h3) (by decide))) ?_
        refine aw_jn (fun k => ∀ (x4 : Int32) (u3 : qM), qAW l G m_X10_boardRefused (q_mq G q_cI) 34 [] [.int x4] u3 (k x4 u3)) ?_ ?_
        · intro x4 u3
          exact aw_iret dX10_boardRefused_34 rfl
        · intro j2 hj2
          refine aw_if_eq dX10_boardRefused_22 25 rfl 29 rfl (fun h4 => ?_) (fun h4 => ?_)
          · refine aw_aload_n (i := 0) dX10_boardRefused_29 30 rfl rfl 0 rfl ?_
            refine aw_iconst (x := 1) dX10_boardRefused_30 31 rfl rfl ?_
            refine aw_callV (M2 := m_X10_found) (cv := q_cI) dX10_boardRefused_31 34 rfl (k_X10_found l G 1  u2) wd_100 wv_X10_found pk_X10_found rfl rfl ⟨by decide, by decide⟩ ⟨Nat.zero_le _, Nat.zero_le _⟩ at_0 (ok_0 (by decide)) rfl rfl rfl (Nat.le_of_ble_eq_true rfl) (fun x5 u4 => ?_)
            show qAW l G m_X10_boardRefused (q_mq G q_cI) 34 [(0, .ref (q_ad G 0 0)), (1, .int x1), (2, .int x2)] [.int x5] u4 _
            exact aw_conv [] rfl (hj2 x5 u4)
          · refine aw_iconst (x := 0) dX10_boardRefused_25 26 rfl rfl ?_
            refine aw_goto dX10_boardRefused_26 34 rfl ?_
            exact aw_conv [] rfl (hj2 0 u2)
      · exact aw_conv [] rfl (hj1 u2)
theorem dX10_cellRefused_0 : decode cX10_cellRefused 0 = .ok (.aload_n 0, 1) := by decide +kernel
theorem dX10_cellRefused_1 : decode cX10_cellRefused 1 = .ok (.iload_n 1, 1) := by decide +kernel
theorem dX10_cellRefused_2 : decode cX10_cellRefused 2 = .ok (.iload_n 2, 1) := by decide +kernel
theorem dX10_cellRefused_3 : decode cX10_cellRefused 3 = .ok (.invokevirtual 170, 3) := by decide +kernel
theorem dX10_cellRefused_6 : decode cX10_cellRefused 6 = .ok (.istore 4, 2) := by decide +kernel
theorem dX10_cellRefused_8 : decode cX10_cellRefused 8 = .ok (.iload 4, 2) := by decide +kernel
theorem dX10_cellRefused_10 : decode cX10_cellRefused 10 = .ok (.ifCond .eq 6, 3) := by decide +kernel
theorem dX10_cellRefused_13 : decode cX10_cellRefused 13 = .ok (.iload 4, 2) := by decide +kernel
theorem dX10_cellRefused_15 : decode cX10_cellRefused 15 = .ok (.ireturn, 1) := by decide +kernel
theorem dX10_cellRefused_16 : decode cX10_cellRefused 16 = .ok (.aload_n 0, 1) := by decide +kernel
theorem dX10_cellRefused_17 : decode cX10_cellRefused 17 = .ok (.getfield 30, 3) := by decide +kernel
theorem dX10_cellRefused_20 : decode cX10_cellRefused 20 = .ok (.iload_n 2, 1) := by decide +kernel
theorem dX10_cellRefused_21 : decode cX10_cellRefused 21 = .ok (.aaload, 1) := by decide +kernel
theorem dX10_cellRefused_22 : decode cX10_cellRefused 22 = .ok (.iload_n 3, 1) := by decide +kernel
theorem dX10_cellRefused_23 : decode cX10_cellRefused 23 = .ok (.invokevirtual 228, 3) := by decide +kernel
theorem dX10_cellRefused_26 : decode cX10_cellRefused 26 = .ok (.ifCond .eq 7, 3) := by decide +kernel
theorem dX10_cellRefused_29 : decode cX10_cellRefused 29 = .ok (.iconst 0, 1) := by decide +kernel
theorem dX10_cellRefused_30 : decode cX10_cellRefused 30 = .ok (.goto 8, 3) := by decide +kernel
theorem dX10_cellRefused_33 : decode cX10_cellRefused 33 = .ok (.aload_n 0, 1) := by decide +kernel
theorem dX10_cellRefused_34 : decode cX10_cellRefused 34 = .ok (.iconst 2, 1) := by decide +kernel
theorem dX10_cellRefused_35 : decode cX10_cellRefused 35 = .ok (.invokevirtual 91, 3) := by decide +kernel
theorem dX10_cellRefused_38 : decode cX10_cellRefused 38 = .ok (.ireturn, 1) := by decide +kernel
noncomputable def f_X10_cellRefused (x1 : Int32) (x2 : Int32) (x3 : Int32) (u0 : qM) : Option (Int32 × qM) :=
  q_bd (f_X10_boardRefused x1 x2 u0) (fun (x4 : Int32) (u1 : qM) => if x4 = 0 then q_ck (q_in x2 6) (q_bd (f_X0_hasCell (Int32.toNatClampNeg x2) x3 u1) (fun (x5 : Int32) (u2 : qM) => q_jn (fun (x6 : Int32) (u3 : qM) => some (x6, u3)) (fun j1 => if x5 = 0 then q_bd (f_X10_found 2 u2) (fun (x7 : Int32) (u4 : qM) => j1 x7 u4) else j1 0 u2))) else some (x4, u1))
set_option maxRecDepth 100000 in
set_option maxHeartbeats 4000000 in
theorem k_X10_cellRefused (l : Launch) (G : qG) (x1 : Int32) (x2 : Int32) (x3 : Int32)  (u0 : qM) : qCt l G m_X10_cellRefused q_cI [.ref (q_ad G 0 0), .int x1, .int x2, .int x3] u0 (f_X10_cellRefused x1 x2 x3 u0) := by
  refine q_entry pk_X10_cellRefused (Nat.le_of_ble_eq_true rfl) ?_
  show qAW l G m_X10_cellRefused (q_mq G q_cI) 0 [(0, .ref (q_ad G 0 0)), (1, .int x1), (2, .int x2), (3, .int x3)] [] u0 (f_X10_cellRefused x1 x2 x3 u0)
  unfold f_X10_cellRefused
  refine aw_aload_n (i := 0) dX10_cellRefused_0 1 rfl rfl 0 rfl ?_
  refine aw_iload_n (i := 1) dX10_cellRefused_1 2 rfl rfl 1 rfl ?_
  refine aw_iload_n (i := 2) dX10_cellRefused_2 3 rfl rfl 2 rfl ?_
  refine aw_callV (M2 := m_X10_boardRefused) (cv := q_cI) dX10_cellRefused_3 6 rfl (k_X10_boardRefused l G x1 x2  u0) wd_116 wv_X10_boardRefused pk_X10_boardRefused rfl rfl ⟨by decide, by decide⟩ ⟨Nat.zero_le _, Nat.zero_le _⟩ at_0 (ok_0 (by decide)) rfl rfl rfl (Nat.le_of_ble_eq_true rfl) (fun x4 u1 => ?_)
  show qAW l G m_X10_cellRefused (q_mq G q_cI) 6 [(0, .ref (q_ad G 0 0)), (1, .int x1), (2, .int x2), (3, .int x3)] [.int x4] u1 _
  refine aw_istore dX10_cellRefused_6 8 rfl [(4, .int x4), (0, .ref (q_ad G 0 0)), (1, .int x1), (2, .int x2), (3, .int x3)] (by decide) rfl ?_
  refine aw_iload (i := 4) dX10_cellRefused_8 10 rfl 0 rfl ?_
  refine aw_if_eq dX10_cellRefused_10 13 rfl 16 rfl (fun h1 => ?_) (fun h1 => ?_)
  · refine aw_aload_n (i := 0) dX10_cellRefused_16 17 rfl rfl 1 rfl ?_
    refine gf_X10_4 dX10_cellRefused_17 20 rfl wd_107 (ok_0 (by decide)) ?_
    refine aw_iload_n (i := 2) dX10_cellRefused_20 21 rfl rfl 3 rfl ?_
    refine aw_aald dX10_cellRefused_21 22 rfl at_21 (by decide) (by decide) rfl rfl (al_21 _) (ok_21 (by decide)) rfl (fun h2 => ?_)
    refine aw_iload_n (i := 3) dX10_cellRefused_22 23 rfl rfl 4 rfl ?_
    refine aw_callV (M2 := m_X0_hasCell) (cv := q_cI) dX10_cellRefused_23 26 rfl (k_X0_hasCell l G (Int32.toNatClampNeg x2) x3 (Nat.lt_of_lt_of_le (q_in_lt h2) (by decide)) u1) wd_117 wv_X0_hasCell pk_X0_hasCell rfl rfl ⟨by decide, by decide⟩ ⟨Nat.zero_le _, Nat.zero_le _⟩ at_2 (ok_2 (Nat.lt_of_lt_of_le (q_in_lt h2) (by decide))) rfl rfl rfl (Nat.le_of_ble_eq_true rfl) (fun x5 u2 => ?_)
    show qAW l G m_X10_cellRefused (q_mq G q_cI) 26 [(4, .int x4), (0, .ref (q_ad G 0 0)), (1, .int x1), (2, .int x2), (3, .int x3)] [.int x5] u2 _
    refine aw_jn (fun k => ∀ (x6 : Int32) (u3 : qM), qAW l G m_X10_cellRefused (q_mq G q_cI) 38 [] [.int x6] u3 (k x6 u3)) ?_ ?_
    · intro x6 u3
      exact aw_iret dX10_cellRefused_38 rfl
    · intro j1 hj1
      refine aw_if_eq dX10_cellRefused_26 29 rfl 33 rfl (fun h3 => ?_) (fun h3 => ?_)
      · refine aw_aload_n (i := 0) dX10_cellRefused_33 34 rfl rfl 1 rfl ?_
        refine aw_iconst (x := 2) dX10_cellRefused_34 35 rfl rfl ?_
        refine aw_callV (M2 := m_X10_found) (cv := q_cI) dX10_cellRefused_35 38 rfl (k_X10_found l G 2  u2) wd_100 wv_X10_found pk_X10_found rfl rfl ⟨by decide, by decide⟩ ⟨Nat.zero_le _, Nat.zero_le _⟩ at_0 (ok_0 (by decide)) rfl rfl rfl (Nat.le_of_ble_eq_true rfl) (fun x7 u4 => ?_)
        show qAW l G m_X10_cellRefused (q_mq G q_cI) 38 [(4, .int x4), (0, .ref (q_ad G 0 0)), (1, .int x1), (2, .int x2), (3, .int x3)] [.int x7] u4 _
        exact aw_conv [] rfl (hj1 x7 u4)
      · refine aw_iconst (x := 0) dX10_cellRefused_29 30 rfl rfl ?_
        refine aw_goto dX10_cellRefused_30 38 rfl ?_
        exact aw_conv [] rfl (hj1 0 u2)
  · refine aw_iload (i := 4) dX10_cellRefused_13 15 rfl 0 rfl ?_
    exact aw_iret dX10_cellRefused_15 rfl
theorem dX10_bottom_0 : decode cX10_bottom 0 = .ok (.aload_n 0, 1) := by decide +kernel
theorem dX10_bottom_1 : decode cX10_bottom 1 = .ok (.iload_n 3, 1) := by decide +kernel
theorem dX10_bottom_2 : decode cX10_bottom 2 = .ok (.sipush (-1000), 3) := by decide +kernel
theorem dX10_bottom_5 : decode cX10_bottom 5 = .ok (.sipush 1000, 3) := by decide +kernel
theorem dX10_bottom_8 : decode cX10_bottom 8 = .ok (.invokestatic 101, 3) := by decide +kernel
theorem dX10_bottom_11 : decode cX10_bottom 11 = .ok (.iload_n 1, 1) := by decide +kernel
theorem dX10_bottom_12 : decode cX10_bottom 12 = .ok (.iload_n 2, 1) := by decide +kernel
theorem dX10_bottom_13 : decode cX10_bottom 13 = .ok (.invokevirtual 174, 3) := by decide +kernel
theorem dX10_bottom_16 : decode cX10_bottom 16 = .ok (.istore 4, 2) := by decide +kernel
theorem dX10_bottom_18 : decode cX10_bottom 18 = .ok (.iload 4, 2) := by decide +kernel
theorem dX10_bottom_20 : decode cX10_bottom 20 = .ok (.ifCond .eq 6, 3) := by decide +kernel
theorem dX10_bottom_23 : decode cX10_bottom 23 = .ok (.iload 4, 2) := by decide +kernel
theorem dX10_bottom_25 : decode cX10_bottom 25 = .ok (.ireturn, 1) := by decide +kernel
theorem dX10_bottom_26 : decode cX10_bottom 26 = .ok (.aload_n 0, 1) := by decide +kernel
theorem dX10_bottom_27 : decode cX10_bottom 27 = .ok (.aload_n 0, 1) := by decide +kernel
theorem dX10_bottom_28 : decode cX10_bottom 28 = .ok (.getfield 30, 3) := by decide +kernel
theorem dX10_bottom_31 : decode cX10_bottom 31 = .ok (.iload_n 1, 1) := by decide +kernel
theorem dX10_bottom_32 : decode cX10_bottom 32 = .ok (.aaload, 1) := by decide +kernel
theorem dX10_bottom_33 : decode cX10_bottom 33 = .ok (.getfield 178, 3) := by decide +kernel
theorem dX10_bottom_36 : decode cX10_bottom 36 = .ok (.iload_n 2, 1) := by decide +kernel
theorem dX10_bottom_37 : decode cX10_bottom 37 = .ok (.iaload, 1) := by decide +kernel
theorem dX10_bottom_38 : decode cX10_bottom 38 = .ok (.putfield 116, 3) := by decide +kernel
theorem dX10_bottom_41 : decode cX10_bottom 41 = .ok (.aload_n 0, 1) := by decide +kernel
theorem dX10_bottom_42 : decode cX10_bottom 42 = .ok (.getfield 30, 3) := by decide +kernel
theorem dX10_bottom_45 : decode cX10_bottom 45 = .ok (.iload_n 1, 1) := by decide +kernel
theorem dX10_bottom_46 : decode cX10_bottom 46 = .ok (.aaload, 1) := by decide +kernel
theorem dX10_bottom_47 : decode cX10_bottom 47 = .ok (.getfield 178, 3) := by decide +kernel
theorem dX10_bottom_50 : decode cX10_bottom 50 = .ok (.iload_n 2, 1) := by decide +kernel
theorem dX10_bottom_51 : decode cX10_bottom 51 = .ok (.iload_n 3, 1) := by decide +kernel
theorem dX10_bottom_52 : decode cX10_bottom 52 = .ok (.iastore, 1) := by decide +kernel
theorem dX10_bottom_53 : decode cX10_bottom 53 = .ok (.iconst 1, 1) := by decide +kernel
theorem dX10_bottom_54 : decode cX10_bottom 54 = .ok (.ireturn, 1) := by decide +kernel
noncomputable def f_X10_bottom (x1 : Int32) (x2 : Int32) (x3 : Int32) (u0 : qM) : Option (Int32 × qM) :=
  q_bd (f_X10_within x3 (-1000) 1000 u0) (fun (x4 : Int32) (u1 : qM) => q_bd (f_X10_cellRefused x4 x1 x2 u1) (fun (x5 : Int32) (u2 : qM) => if x5 = 0 then q_ck (q_in x1 6) (q_ck (q_in x2 48) (q_lt (q_si u2 0 0 15 (u2.1 37 (Int32.toNatClampNeg x1) (Int32.toNatClampNeg x2))) (fun (u3 : qM) => q_ck (q_in x1 6) (q_ck (q_in x2 48) (q_lt (q_si u3 37 (Int32.toNatClampNeg x1) (Int32.toNatClampNeg x2) x3) (fun (u4 : qM) => some (1, u4))))))) else some (x5, u2)))
set_option maxRecDepth 100000 in
set_option maxHeartbeats 4000000 in
theorem k_X10_bottom (l : Launch) (G : qG) (x1 : Int32) (x2 : Int32) (x3 : Int32)  (u0 : qM) : qCt l G m_X10_bottom q_cI [.ref (q_ad G 0 0), .int x1, .int x2, .int x3] u0 (f_X10_bottom x1 x2 x3 u0) := by
  refine q_entry pk_X10_bottom (Nat.le_of_ble_eq_true rfl) ?_
  show qAW l G m_X10_bottom (q_mq G q_cI) 0 [(0, .ref (q_ad G 0 0)), (1, .int x1), (2, .int x2), (3, .int x3)] [] u0 (f_X10_bottom x1 x2 x3 u0)
  unfold f_X10_bottom
  refine aw_aload_n (i := 0) dX10_bottom_0 1 rfl rfl 0 rfl ?_
  refine aw_iload_n (i := 3) dX10_bottom_1 2 rfl rfl 3 rfl ?_
  refine aw_sipush (x := (-1000)) dX10_bottom_2 5 rfl rfl ?_
  refine aw_sipush (x := 1000) dX10_bottom_5 8 rfl rfl ?_
  refine aw_callS (M2 := m_X10_within) (cv := q_cI) dX10_bottom_8 11 rfl (k_X10_within l G x3 (-1000) 1000  u0) wd_103 wv_X10_within pk_X10_within rfl ⟨by decide, by decide⟩ ⟨Nat.zero_le _, Nat.zero_le _⟩ rfl (Nat.le_of_ble_eq_true rfl) (fun x4 u1 => ?_)
  show qAW l G m_X10_bottom (q_mq G q_cI) 11 [(0, .ref (q_ad G 0 0)), (1, .int x1), (2, .int x2), (3, .int x3)] [.int x4, .ref (q_ad G 0 0)] u1 _
  refine aw_iload_n (i := 1) dX10_bottom_11 12 rfl rfl 1 rfl ?_
  refine aw_iload_n (i := 2) dX10_bottom_12 13 rfl rfl 2 rfl ?_
  refine aw_callV (M2 := m_X10_cellRefused) (cv := q_cI) dX10_bottom_13 16 rfl (k_X10_cellRefused l G x4 x1 x2  u1) wd_118 wv_X10_cellRefused pk_X10_cellRefused rfl rfl ⟨by decide, by decide⟩ ⟨Nat.zero_le _, Nat.zero_le _⟩ at_0 (ok_0 (by decide)) rfl rfl rfl (Nat.le_of_ble_eq_true rfl) (fun x5 u2 => ?_)
  show qAW l G m_X10_bottom (q_mq G q_cI) 16 [(0, .ref (q_ad G 0 0)), (1, .int x1), (2, .int x2), (3, .int x3)] [.int x5] u2 _
  refine aw_istore dX10_bottom_16 18 rfl [(4, .int x5), (0, .ref (q_ad G 0 0)), (1, .int x1), (2, .int x2), (3, .int x3)] (by decide) rfl ?_
  refine aw_iload (i := 4) dX10_bottom_18 20 rfl 0 rfl ?_
  refine aw_if_eq dX10_bottom_20 23 rfl 26 rfl (fun h1 => ?_) (fun h1 => ?_)
  · refine aw_aload_n (i := 0) dX10_bottom_26 27 rfl rfl 1 rfl ?_
    refine aw_aload_n (i := 0) dX10_bottom_27 28 rfl rfl 1 rfl ?_
    refine gf_X10_4 dX10_bottom_28 31 rfl wd_107 (ok_0 (by decide)) ?_
    refine aw_iload_n (i := 1) dX10_bottom_31 32 rfl rfl 2 rfl ?_
    refine aw_aald dX10_bottom_32 33 rfl at_21 (by decide) (by decide) rfl rfl (al_21 _) (ok_21 (by decide)) rfl (fun h2 => ?_)
    refine gfN_X0_0 dX10_bottom_33 36 rfl "SeaCells" (ns_28) (ok_2 (Nat.lt_of_lt_of_le (q_in_lt h2) (by decide))) ?_
    refine aw_iload_n (i := 2) dX10_bottom_36 37 rfl rfl 3 rfl ?_
    refine aw_iald dX10_bottom_37 38 rfl at_37 (al_37 _) (ok_37 (Nat.lt_of_lt_of_le (q_in_lt h2) (by decide))) (fun h3 => ?_)
    refine pf_X10_15 dX10_bottom_38 41 rfl wd_106 (ok_0 (by decide)) ?_
    refine aw_ltm (fun u3 => ?_)
    refine aw_aload_n (i := 0) dX10_bottom_41 42 rfl rfl 1 rfl ?_
    refine gf_X10_4 dX10_bottom_42 45 rfl wd_107 (ok_0 (by decide)) ?_
    refine aw_iload_n (i := 1) dX10_bottom_45 46 rfl rfl 2 rfl ?_
    refine aw_aald dX10_bottom_46 47 rfl at_21 (by decide) (by decide) rfl rfl (al_21 _) (ok_21 (by decide)) rfl (fun h4 => ?_)
    refine gfN_X0_0 dX10_bottom_47 50 rfl "SeaCells" (ns_28) (ok_2 (Nat.lt_of_lt_of_le (q_in_lt h4) (by decide))) ?_
    refine aw_iload_n (i := 2) dX10_bottom_50 51 rfl rfl 3 rfl ?_
    refine aw_iload_n (i := 3) dX10_bottom_51 52 rfl rfl 4 rfl ?_
    refine aw_iast dX10_bottom_52 53 rfl at_37 (al_37 _) (ok_37 (Nat.lt_of_lt_of_le (q_in_lt h4) (by decide))) (fun h5 => ?_)
    refine aw_ltm (fun u4 => ?_)
    refine aw_iconst (x := 1) dX10_bottom_53 54 rfl rfl ?_
    exact aw_iret dX10_bottom_54 rfl
  · refine aw_iload (i := 4) dX10_bottom_23 25 rfl 0 rfl ?_
    exact aw_iret dX10_bottom_25 rfl
theorem dX10_water_0 : decode cX10_water 0 = .ok (.aload_n 0, 1) := by decide +kernel
theorem dX10_water_1 : decode cX10_water 1 = .ok (.iload_n 3, 1) := by decide +kernel
theorem dX10_water_2 : decode cX10_water 2 = .ok (.iconst 0, 1) := by decide +kernel
theorem dX10_water_3 : decode cX10_water 3 = .ok (.ldc 100, 2) := by decide +kernel
theorem dX10_water_5 : decode cX10_water 5 = .ok (.invokestatic 101, 3) := by decide +kernel
theorem dX10_water_8 : decode cX10_water 8 = .ok (.iload_n 1, 1) := by decide +kernel
theorem dX10_water_9 : decode cX10_water 9 = .ok (.iload_n 2, 1) := by decide +kernel
theorem dX10_water_10 : decode cX10_water 10 = .ok (.invokevirtual 174, 3) := by decide +kernel
theorem dX10_water_13 : decode cX10_water 13 = .ok (.istore 4, 2) := by decide +kernel
theorem dX10_water_15 : decode cX10_water 15 = .ok (.iload 4, 2) := by decide +kernel
theorem dX10_water_17 : decode cX10_water 17 = .ok (.ifCond .eq 6, 3) := by decide +kernel
theorem dX10_water_20 : decode cX10_water 20 = .ok (.iload 4, 2) := by decide +kernel
theorem dX10_water_22 : decode cX10_water 22 = .ok (.ireturn, 1) := by decide +kernel
theorem dX10_water_23 : decode cX10_water 23 = .ok (.aload_n 0, 1) := by decide +kernel
theorem dX10_water_24 : decode cX10_water 24 = .ok (.getfield 30, 3) := by decide +kernel
theorem dX10_water_27 : decode cX10_water 27 = .ok (.iload_n 1, 1) := by decide +kernel
theorem dX10_water_28 : decode cX10_water 28 = .ok (.aaload, 1) := by decide +kernel
theorem dX10_water_29 : decode cX10_water 29 = .ok (.getfield 181, 3) := by decide +kernel
theorem dX10_water_32 : decode cX10_water 32 = .ok (.iload_n 2, 1) := by decide +kernel
theorem dX10_water_33 : decode cX10_water 33 = .ok (.iaload, 1) := by decide +kernel
theorem dX10_water_34 : decode cX10_water 34 = .ok (.istore 5, 2) := by decide +kernel
theorem dX10_water_36 : decode cX10_water 36 = .ok (.aload_n 0, 1) := by decide +kernel
theorem dX10_water_37 : decode cX10_water 37 = .ok (.getfield 30, 3) := by decide +kernel
theorem dX10_water_40 : decode cX10_water 40 = .ok (.iload_n 1, 1) := by decide +kernel
theorem dX10_water_41 : decode cX10_water 41 = .ok (.aaload, 1) := by decide +kernel
theorem dX10_water_42 : decode cX10_water 42 = .ok (.getfield 181, 3) := by decide +kernel
theorem dX10_water_45 : decode cX10_water 45 = .ok (.iload_n 2, 1) := by decide +kernel
theorem dX10_water_46 : decode cX10_water 46 = .ok (.iload_n 3, 1) := by decide +kernel
theorem dX10_water_47 : decode cX10_water 47 = .ok (.iastore, 1) := by decide +kernel
theorem dX10_water_48 : decode cX10_water 48 = .ok (.iload 5, 2) := by decide +kernel
theorem dX10_water_50 : decode cX10_water 50 = .ok (.ireturn, 1) := by decide +kernel
noncomputable def f_X10_water (x1 : Int32) (x2 : Int32) (x3 : Int32) (u0 : qM) : Option (Int32 × qM) :=
  q_bd (f_X10_within x3 0 100000 u0) (fun (x4 : Int32) (u1 : qM) => q_bd (f_X10_cellRefused x4 x1 x2 u1) (fun (x5 : Int32) (u2 : qM) => if x5 = 0 then q_ck (q_in x1 6) (q_ck (q_in x2 48) (q_lt (u2.1 38 (Int32.toNatClampNeg x1) (Int32.toNatClampNeg x2)) (fun (x6 : Int32) => q_ck (q_in x1 6) (q_ck (q_in x2 48) (q_lt (q_si u2 38 (Int32.toNatClampNeg x1) (Int32.toNatClampNeg x2) x3) (fun (u3 : qM) => some (x6, u3))))))) else some (x5, u2)))
set_option maxRecDepth 100000 in
set_option maxHeartbeats 4000000 in
theorem k_X10_water (l : Launch) (G : qG) (x1 : Int32) (x2 : Int32) (x3 : Int32)  (u0 : qM) : qCt l G m_X10_water q_cI [.ref (q_ad G 0 0), .int x1, .int x2, .int x3] u0 (f_X10_water x1 x2 x3 u0) := by
  refine q_entry pk_X10_water (Nat.le_of_ble_eq_true rfl) ?_
  show qAW l G m_X10_water (q_mq G q_cI) 0 [(0, .ref (q_ad G 0 0)), (1, .int x1), (2, .int x2), (3, .int x3)] [] u0 (f_X10_water x1 x2 x3 u0)
  unfold f_X10_water
  refine aw_aload_n (i := 0) dX10_water_0 1 rfl rfl 0 rfl ?_
  refine aw_iload_n (i := 3) dX10_water_1 2 rfl rfl 3 rfl ?_
  refine aw_iconst (x := 0) dX10_water_2 3 rfl rfl ?_
  refine aw_ldc (x := 100000) dX10_water_3 5 rfl wd_102 ?_
  refine aw_callS (M2 := m_X10_within) (cv := q_cI) dX10_water_5 8 rfl (k_X10_within l G x3 0 100000  u0) wd_103 wv_X10_within pk_X10_within rfl ⟨by decide, by decide⟩ ⟨Nat.zero_le _, Nat.zero_le _⟩ rfl (Nat.le_of_ble_eq_true rfl) (fun x4 u1 => ?_)
  show qAW l G m_X10_water (q_mq G q_cI) 8 [(0, .ref (q_ad G 0 0)), (1, .int x1), (2, .int x2), (3, .int x3)] [.int x4, .ref (q_ad G 0 0)] u1 _
  refine aw_iload_n (i := 1) dX10_water_8 9 rfl rfl 1 rfl ?_
  refine aw_iload_n (i := 2) dX10_water_9 10 rfl rfl 2 rfl ?_
  refine aw_callV (M2 := m_X10_cellRefused) (cv := q_cI) dX10_water_10 13 rfl (k_X10_cellRefused l G x4 x1 x2  u1) wd_118 wv_X10_cellRefused pk_X10_cellRefused rfl rfl ⟨by decide, by decide⟩ ⟨Nat.zero_le _, Nat.zero_le _⟩ at_0 (ok_0 (by decide)) rfl rfl rfl (Nat.le_of_ble_eq_true rfl) (fun x5 u2 => ?_)
  show qAW l G m_X10_water (q_mq G q_cI) 13 [(0, .ref (q_ad G 0 0)), (1, .int x1), (2, .int x2), (3, .int x3)] [.int x5] u2 _
  refine aw_istore dX10_water_13 15 rfl [(4, .int x5), (0, .ref (q_ad G 0 0)), (1, .int x1), (2, .int x2), (3, .int x3)] (by decide) rfl ?_
  refine aw_iload (i := 4) dX10_water_15 17 rfl 0 rfl ?_
  refine aw_if_eq dX10_water_17 20 rfl 23 rfl (fun h1 => ?_) (fun h1 => ?_)
  · refine aw_aload_n (i := 0) dX10_water_23 24 rfl rfl 1 rfl ?_
    refine gf_X10_4 dX10_water_24 27 rfl wd_107 (ok_0 (by decide)) ?_
    refine aw_iload_n (i := 1) dX10_water_27 28 rfl rfl 2 rfl ?_
    refine aw_aald dX10_water_28 29 rfl at_21 (by decide) (by decide) rfl rfl (al_21 _) (ok_21 (by decide)) rfl (fun h2 => ?_)
    refine gfN_X0_1 dX10_water_29 32 rfl "SeaCells" (ns_30) (ok_2 (Nat.lt_of_lt_of_le (q_in_lt h2) (by decide))) ?_
    refine aw_iload_n (i := 2) dX10_water_32 33 rfl rfl 3 rfl ?_
    refine aw_iald dX10_water_33 34 rfl at_38 (al_38 _) (ok_38 (Nat.lt_of_lt_of_le (q_in_lt h2) (by decide))) (fun h3 => ?_)
    refine aw_lti (fun x6 => ?_)
    refine aw_istore dX10_water_34 36 rfl [(5, .int x6), (4, .int x5), (0, .ref (q_ad G 0 0)), (1, .int x1), (2, .int x2), (3, .int x3)] (by decide) rfl ?_
    refine aw_aload_n (i := 0) dX10_water_36 37 rfl rfl 2 rfl ?_
    refine gf_X10_4 dX10_water_37 40 rfl wd_107 (ok_0 (by decide)) ?_
    refine aw_iload_n (i := 1) dX10_water_40 41 rfl rfl 3 rfl ?_
    refine aw_aald dX10_water_41 42 rfl at_21 (by decide) (by decide) rfl rfl (al_21 _) (ok_21 (by decide)) rfl (fun h4 => ?_)
    refine gfN_X0_1 dX10_water_42 45 rfl "SeaCells" (ns_30) (ok_2 (Nat.lt_of_lt_of_le (q_in_lt h4) (by decide))) ?_
    refine aw_iload_n (i := 2) dX10_water_45 46 rfl rfl 4 rfl ?_
    refine aw_iload_n (i := 3) dX10_water_46 47 rfl rfl 5 rfl ?_
    refine aw_iast dX10_water_47 48 rfl at_38 (al_38 _) (ok_38 (Nat.lt_of_lt_of_le (q_in_lt h4) (by decide))) (fun h5 => ?_)
    refine aw_ltm (fun u3 => ?_)
    refine aw_iload (i := 5) dX10_water_48 50 rfl 0 rfl ?_
    exact aw_iret dX10_water_50 rfl
  · refine aw_iload (i := 4) dX10_water_20 22 rfl 0 rfl ?_
    exact aw_iret dX10_water_22 rfl
theorem dX10_spill_0 : decode cX10_spill 0 = .ok (.aload_n 0, 1) := by decide +kernel
theorem dX10_spill_1 : decode cX10_spill 1 = .ok (.iload_n 3, 1) := by decide +kernel
theorem dX10_spill_2 : decode cX10_spill 2 = .ok (.iconst 0, 1) := by decide +kernel
theorem dX10_spill_3 : decode cX10_spill 3 = .ok (.iconst 2, 1) := by decide +kernel
theorem dX10_spill_4 : decode cX10_spill 4 = .ok (.invokestatic 101, 3) := by decide +kernel
theorem dX10_spill_7 : decode cX10_spill 7 = .ok (.ifCond .eq 18, 3) := by decide +kernel
theorem dX10_spill_10 : decode cX10_spill 10 = .ok (.iload 4, 2) := by decide +kernel
theorem dX10_spill_12 : decode cX10_spill 12 = .ok (.iconst 0, 1) := by decide +kernel
theorem dX10_spill_13 : decode cX10_spill 13 = .ok (.ldc 100, 2) := by decide +kernel
theorem dX10_spill_15 : decode cX10_spill 15 = .ok (.invokestatic 101, 3) := by decide +kernel
theorem dX10_spill_18 : decode cX10_spill 18 = .ok (.ifCond .eq 7, 3) := by decide +kernel
theorem dX10_spill_21 : decode cX10_spill 21 = .ok (.iconst 1, 1) := by decide +kernel
theorem dX10_spill_22 : decode cX10_spill 22 = .ok (.goto 4, 3) := by decide +kernel
theorem dX10_spill_25 : decode cX10_spill 25 = .ok (.iconst 0, 1) := by decide +kernel
theorem dX10_spill_26 : decode cX10_spill 26 = .ok (.iload_n 1, 1) := by decide +kernel
theorem dX10_spill_27 : decode cX10_spill 27 = .ok (.iload_n 2, 1) := by decide +kernel
theorem dX10_spill_28 : decode cX10_spill 28 = .ok (.invokevirtual 174, 3) := by decide +kernel
theorem dX10_spill_31 : decode cX10_spill 31 = .ok (.istore 5, 2) := by decide +kernel
theorem dX10_spill_33 : decode cX10_spill 33 = .ok (.iload 5, 2) := by decide +kernel
theorem dX10_spill_35 : decode cX10_spill 35 = .ok (.ifCond .eq 6, 3) := by decide +kernel
theorem dX10_spill_38 : decode cX10_spill 38 = .ok (.iload 5, 2) := by decide +kernel
theorem dX10_spill_40 : decode cX10_spill 40 = .ok (.ireturn, 1) := by decide +kernel
theorem dX10_spill_41 : decode cX10_spill 41 = .ok (.iload_n 3, 1) := by decide +kernel
theorem dX10_spill_42 : decode cX10_spill 42 = .ok (.bipush 48, 2) := by decide +kernel
theorem dX10_spill_44 : decode cX10_spill 44 = .ok (.imul, 1) := by decide +kernel
theorem dX10_spill_45 : decode cX10_spill 45 = .ok (.iload_n 2, 1) := by decide +kernel
theorem dX10_spill_46 : decode cX10_spill 46 = .ok (.iadd, 1) := by decide +kernel
theorem dX10_spill_47 : decode cX10_spill 47 = .ok (.istore 6, 2) := by decide +kernel
theorem dX10_spill_49 : decode cX10_spill 49 = .ok (.aload_n 0, 1) := by decide +kernel
theorem dX10_spill_50 : decode cX10_spill 50 = .ok (.getfield 30, 3) := by decide +kernel
theorem dX10_spill_53 : decode cX10_spill 53 = .ok (.iload_n 1, 1) := by decide +kernel
theorem dX10_spill_54 : decode cX10_spill 54 = .ok (.aaload, 1) := by decide +kernel
theorem dX10_spill_55 : decode cX10_spill 55 = .ok (.getfield 184, 3) := by decide +kernel
theorem dX10_spill_58 : decode cX10_spill 58 = .ok (.iload 6, 2) := by decide +kernel
theorem dX10_spill_60 : decode cX10_spill 60 = .ok (.iaload, 1) := by decide +kernel
theorem dX10_spill_61 : decode cX10_spill 61 = .ok (.istore 7, 2) := by decide +kernel
theorem dX10_spill_63 : decode cX10_spill 63 = .ok (.aload_n 0, 1) := by decide +kernel
theorem dX10_spill_64 : decode cX10_spill 64 = .ok (.getfield 30, 3) := by decide +kernel
theorem dX10_spill_67 : decode cX10_spill 67 = .ok (.iload_n 1, 1) := by decide +kernel
theorem dX10_spill_68 : decode cX10_spill 68 = .ok (.aaload, 1) := by decide +kernel
theorem dX10_spill_69 : decode cX10_spill 69 = .ok (.getfield 184, 3) := by decide +kernel
theorem dX10_spill_72 : decode cX10_spill 72 = .ok (.iload 6, 2) := by decide +kernel
theorem dX10_spill_74 : decode cX10_spill 74 = .ok (.iload 4, 2) := by decide +kernel
theorem dX10_spill_76 : decode cX10_spill 76 = .ok (.iastore, 1) := by decide +kernel
theorem dX10_spill_77 : decode cX10_spill 77 = .ok (.iload 7, 2) := by decide +kernel
theorem dX10_spill_79 : decode cX10_spill 79 = .ok (.ireturn, 1) := by decide +kernel
noncomputable def f_X10_spill (x1 : Int32) (x2 : Int32) (x3 : Int32) (x4 : Int32) (u0 : qM) : Option (Int32 × qM) :=
  q_bd (f_X10_within x3 0 2 u0) (fun (x5 : Int32) (u1 : qM) => q_jn (fun (x6 : Int32) (u2 : qM) => q_bd (f_X10_cellRefused x6 x1 x2 u2) (fun (x7 : Int32) (u3 : qM) => if x7 = 0 then q_lt ((x3 * 48) + x2) (fun (x8 : Int32) => q_ck (q_in x1 6) (q_ck (q_in x8 144) (q_lt (u3.1 39 (Int32.toNatClampNeg x1) (Int32.toNatClampNeg x8)) (fun (x9 : Int32) => q_ck (q_in x1 6) (q_ck (q_in x8 144) (q_lt (q_si u3 39 (Int32.toNatClampNeg x1) (Int32.toNatClampNeg x8) x4) (fun (u4 : qM) => some (x9, u4)))))))) else some (x7, u3))) (fun j1 => q_jn (fun  (u5 : qM) => j1 0 u5) (fun j2 => if x5 = 0 then j2 u1 else q_bd (f_X10_within x4 0 100000 u1) (fun (x10 : Int32) (u6 : qM) => if x10 = 0 then j2 u6 else j1 1 u6))))
set_option maxRecDepth 100000 in
set_option maxHeartbeats 4000000 in
theorem k_X10_spill (l : Launch) (G : qG) (x1 : Int32) (x2 : Int32) (x3 : Int32) (x4 : Int32)  (u0 : qM) : qCt l G m_X10_spill q_cI [.ref (q_ad G 0 0), .int x1, .int x2, .int x3, .int x4] u0 (f_X10_spill x1 x2 x3 x4 u0) := by
  refine q_entry pk_X10_spill (Nat.le_of_ble_eq_true rfl) ?_
  show qAW l G m_X10_spill (q_mq G q_cI) 0 [(0, .ref (q_ad G 0 0)), (1, .int x1), (2, .int x2), (3, .int x3), (4, .int x4)] [] u0 (f_X10_spill x1 x2 x3 x4 u0)
  unfold f_X10_spill
  refine aw_aload_n (i := 0) dX10_spill_0 1 rfl rfl 0 rfl ?_
  refine aw_iload_n (i := 3) dX10_spill_1 2 rfl rfl 3 rfl ?_
  refine aw_iconst (x := 0) dX10_spill_2 3 rfl rfl ?_
  refine aw_iconst (x := 2) dX10_spill_3 4 rfl rfl ?_
  refine aw_callS (M2 := m_X10_within) (cv := q_cI) dX10_spill_4 7 rfl (k_X10_within l G x3 0 2  u0) wd_103 wv_X10_within pk_X10_within rfl ⟨by decide, by decide⟩ ⟨Nat.zero_le _, Nat.zero_le _⟩ rfl (Nat.le_of_ble_eq_true rfl) (fun x5 u1 => ?_)
  show qAW l G m_X10_spill (q_mq G q_cI) 7 [(0, .ref (q_ad G 0 0)), (1, .int x1), (2, .int x2), (3, .int x3), (4, .int x4)] [.int x5, .ref (q_ad G 0 0)] u1 _
  refine aw_jn (fun k => ∀ (x6 : Int32) (u2 : qM), qAW l G m_X10_spill (q_mq G q_cI) 26 [(0, .ref (q_ad G 0 0)), (1, .int x1), (2, .int x2), (3, .int x3), (4, .int x4)] [.int x6, .ref (q_ad G 0 0)] u2 (k x6 u2)) ?_ ?_
  · intro x6 u2
    refine aw_iload_n (i := 1) dX10_spill_26 27 rfl rfl 1 rfl ?_
    refine aw_iload_n (i := 2) dX10_spill_27 28 rfl rfl 2 rfl ?_
    refine aw_callV (M2 := m_X10_cellRefused) (cv := q_cI) dX10_spill_28 31 rfl (k_X10_cellRefused l G x6 x1 x2  u2) wd_118 wv_X10_cellRefused pk_X10_cellRefused rfl rfl ⟨by decide, by decide⟩ ⟨Nat.zero_le _, Nat.zero_le _⟩ at_0 (ok_0 (by decide)) rfl rfl rfl (Nat.le_of_ble_eq_true rfl) (fun x7 u3 => ?_)
    show qAW l G m_X10_spill (q_mq G q_cI) 31 [(0, .ref (q_ad G 0 0)), (1, .int x1), (2, .int x2), (3, .int x3), (4, .int x4)] [.int x7] u3 _
    refine aw_istore dX10_spill_31 33 rfl [(5, .int x7), (0, .ref (q_ad G 0 0)), (1, .int x1), (2, .int x2), (3, .int x3), (4, .int x4)] (by decide) rfl ?_
    refine aw_iload (i := 5) dX10_spill_33 35 rfl 0 rfl ?_
    refine aw_if_eq dX10_spill_35 38 rfl 41 rfl (fun h2 => ?_) (fun h2 => ?_)
    · refine aw_iload_n (i := 3) dX10_spill_41 42 rfl rfl 4 rfl ?_
      refine aw_bipush (x := 48) dX10_spill_42 44 rfl rfl ?_
      refine aw_imul dX10_spill_44 45 rfl ?_
      refine aw_iload_n (i := 2) dX10_spill_45 46 rfl rfl 3 rfl ?_
      refine aw_iadd dX10_spill_46 47 rfl ?_
      refine aw_lti (fun x8 => ?_)
      refine aw_istore dX10_spill_47 49 rfl [(6, .int x8), (5, .int x7), (0, .ref (q_ad G 0 0)), (1, .int x1), (2, .int x2), (3, .int x3), (4, .int x4)] (by decide) rfl ?_
      refine aw_aload_n (i := 0) dX10_spill_49 50 rfl rfl 2 rfl ?_
      refine gf_X10_4 dX10_spill_50 53 rfl wd_107 (ok_0 (by decide)) ?_
      refine aw_iload_n (i := 1) dX10_spill_53 54 rfl rfl 3 rfl ?_
      refine aw_aald dX10_spill_54 55 rfl at_21 (by decide) (by decide) rfl rfl (al_21 _) (ok_21 (by decide)) rfl (fun h3 => ?_)
      refine gfN_X0_2 dX10_spill_55 58 rfl "SeaCells" (ns_32) (ok_2 (Nat.lt_of_lt_of_le (q_in_lt h3) (by decide))) ?_
      refine aw_iload (i := 6) dX10_spill_58 60 rfl 0 rfl ?_
      refine aw_iald dX10_spill_60 61 rfl at_39 (al_39 _) (ok_39 (Nat.lt_of_lt_of_le (q_in_lt h3) (by decide))) (fun h4 => ?_)
      refine aw_lti (fun x9 => ?_)
      refine aw_istore dX10_spill_61 63 rfl [(7, .int x9), (6, .int x8), (5, .int x7), (0, .ref (q_ad G 0 0)), (1, .int x1), (2, .int x2), (3, .int x3), (4, .int x4)] (by decide) rfl ?_
      refine aw_aload_n (i := 0) dX10_spill_63 64 rfl rfl 3 rfl ?_
      refine gf_X10_4 dX10_spill_64 67 rfl wd_107 (ok_0 (by decide)) ?_
      refine aw_iload_n (i := 1) dX10_spill_67 68 rfl rfl 4 rfl ?_
      refine aw_aald dX10_spill_68 69 rfl at_21 (by decide) (by decide) rfl rfl (al_21 _) (ok_21 (by decide)) rfl (fun h5 => ?_)
      refine gfN_X0_2 dX10_spill_69 72 rfl "SeaCells" (ns_32) (ok_2 (Nat.lt_of_lt_of_le (q_in_lt h5) (by decide))) ?_
      refine aw_iload (i := 6) dX10_spill_72 74 rfl 1 rfl ?_
      refine aw_iload (i := 4) dX10_spill_74 76 rfl 7 rfl ?_
      refine aw_iast dX10_spill_76 77 rfl at_39 (al_39 _) (ok_39 (Nat.lt_of_lt_of_le (q_in_lt h5) (by decide))) (fun h6 => ?_)
      refine aw_ltm (fun u4 => ?_)
      refine aw_iload (i := 7) dX10_spill_77 79 rfl 0 rfl ?_
      exact aw_iret dX10_spill_79 rfl
    · refine aw_iload (i := 5) dX10_spill_38 40 rfl 0 rfl ?_
      exact aw_iret dX10_spill_40 rfl
  · intro j1 hj1
    refine aw_jn (fun k => ∀  (u5 : qM), qAW l G m_X10_spill (q_mq G q_cI) 25 [(0, .ref (q_ad G 0 0)), (1, .int x1), (2, .int x2), (3, .int x3), (4, .int x4)] [.ref (q_ad G 0 0)] u5 (k u5)) ?_ ?_
    · intro u5
      refine aw_iconst (x := 0) dX10_spill_25 26 rfl rfl ?_
      exact hj1 0 u5
    · intro j2 hj2
      refine aw_if_eq dX10_spill_7 10 rfl 25 rfl (fun h1 => ?_) (fun h1 => ?_)
      · exact hj2 u1
      · refine aw_iload (i := 4) dX10_spill_10 12 rfl 4 rfl ?_
        refine aw_iconst (x := 0) dX10_spill_12 13 rfl rfl ?_
        refine aw_ldc (x := 100000) dX10_spill_13 15 rfl wd_102 ?_
        refine aw_callS (M2 := m_X10_within) (cv := q_cI) dX10_spill_15 18 rfl (k_X10_within l G x4 0 100000  u1) wd_103 wv_X10_within pk_X10_within rfl ⟨by decide, by decide⟩ ⟨Nat.zero_le _, Nat.zero_le _⟩ rfl (Nat.le_of_ble_eq_true rfl) (fun x10 u6 => ?_)
        show qAW l G m_X10_spill (q_mq G q_cI) 18 [(0, .ref (q_ad G 0 0)), (1, .int x1), (2, .int x2), (3, .int x3), (4, .int x4)] [.int x10, .ref (q_ad G 0 0)] u6 _
        refine aw_if_eq dX10_spill_18 21 rfl 25 rfl (fun h7 => ?_) (fun h7 => ?_)
        · exact hj2 u6
        · refine aw_iconst (x := 1) dX10_spill_21 22 rfl rfl ?_
          refine aw_goto dX10_spill_22 26 rfl ?_
          exact hj1 1 u6
theorem dX10_cell_0 : decode cX10_cell 0 = .ok (.aload_n 0, 1) := by decide +kernel
theorem dX10_cell_1 : decode cX10_cell 1 = .ok (.iload_n 3, 1) := by decide +kernel
theorem dX10_cell_2 : decode cX10_cell 2 = .ok (.iconst 0, 1) := by decide +kernel
theorem dX10_cell_3 : decode cX10_cell 3 = .ok (.iconst 5, 1) := by decide +kernel
theorem dX10_cell_4 : decode cX10_cell 4 = .ok (.invokestatic 101, 3) := by decide +kernel
theorem dX10_cell_7 : decode cX10_cell 7 = .ok (.iload_n 1, 1) := by decide +kernel
theorem dX10_cell_8 : decode cX10_cell 8 = .ok (.iload_n 2, 1) := by decide +kernel
theorem dX10_cell_9 : decode cX10_cell 9 = .ok (.invokevirtual 174, 3) := by decide +kernel
theorem dX10_cell_12 : decode cX10_cell 12 = .ok (.istore 4, 2) := by decide +kernel
theorem dX10_cell_14 : decode cX10_cell 14 = .ok (.iload 4, 2) := by decide +kernel
theorem dX10_cell_16 : decode cX10_cell 16 = .ok (.ifCond .eq 6, 3) := by decide +kernel
theorem dX10_cell_19 : decode cX10_cell 19 = .ok (.iload 4, 2) := by decide +kernel
theorem dX10_cell_21 : decode cX10_cell 21 = .ok (.ireturn, 1) := by decide +kernel
theorem dX10_cell_22 : decode cX10_cell 22 = .ok (.aload_n 0, 1) := by decide +kernel
theorem dX10_cell_23 : decode cX10_cell 23 = .ok (.getfield 30, 3) := by decide +kernel
theorem dX10_cell_26 : decode cX10_cell 26 = .ok (.iload_n 1, 1) := by decide +kernel
theorem dX10_cell_27 : decode cX10_cell 27 = .ok (.aaload, 1) := by decide +kernel
theorem dX10_cell_28 : decode cX10_cell 28 = .ok (.astore 5, 2) := by decide +kernel
theorem dX10_cell_30 : decode cX10_cell 30 = .ok (.iload_n 3, 1) := by decide +kernel
theorem dX10_cell_31 : decode cX10_cell 31 = .ok (.ifCond .ne 17, 3) := by decide +kernel
theorem dX10_cell_34 : decode cX10_cell 34 = .ok (.aload_n 0, 1) := by decide +kernel
theorem dX10_cell_35 : decode cX10_cell 35 = .ok (.aload 5, 2) := by decide +kernel
theorem dX10_cell_37 : decode cX10_cell 37 = .ok (.getfield 178, 3) := by decide +kernel
theorem dX10_cell_40 : decode cX10_cell 40 = .ok (.iload_n 2, 1) := by decide +kernel
theorem dX10_cell_41 : decode cX10_cell 41 = .ok (.iaload, 1) := by decide +kernel
theorem dX10_cell_42 : decode cX10_cell 42 = .ok (.putfield 116, 3) := by decide +kernel
theorem dX10_cell_45 : decode cX10_cell 45 = .ok (.goto 58, 3) := by decide +kernel
theorem dX10_cell_48 : decode cX10_cell 48 = .ok (.iload_n 3, 1) := by decide +kernel
theorem dX10_cell_49 : decode cX10_cell 49 = .ok (.iconst 1, 1) := by decide +kernel
theorem dX10_cell_50 : decode cX10_cell 50 = .ok (.if_icmp .ne 17, 3) := by decide +kernel
theorem dX10_cell_53 : decode cX10_cell 53 = .ok (.aload_n 0, 1) := by decide +kernel
theorem dX10_cell_54 : decode cX10_cell 54 = .ok (.aload 5, 2) := by decide +kernel
theorem dX10_cell_56 : decode cX10_cell 56 = .ok (.getfield 181, 3) := by decide +kernel
theorem dX10_cell_59 : decode cX10_cell 59 = .ok (.iload_n 2, 1) := by decide +kernel
theorem dX10_cell_60 : decode cX10_cell 60 = .ok (.iaload, 1) := by decide +kernel
theorem dX10_cell_61 : decode cX10_cell 61 = .ok (.putfield 116, 3) := by decide +kernel
theorem dX10_cell_64 : decode cX10_cell 64 = .ok (.goto 39, 3) := by decide +kernel
theorem dX10_cell_67 : decode cX10_cell 67 = .ok (.iload_n 3, 1) := by decide +kernel
theorem dX10_cell_68 : decode cX10_cell 68 = .ok (.iconst 2, 1) := by decide +kernel
theorem dX10_cell_69 : decode cX10_cell 69 = .ok (.if_icmp .ne 16, 3) := by decide +kernel
theorem dX10_cell_72 : decode cX10_cell 72 = .ok (.aload_n 0, 1) := by decide +kernel
theorem dX10_cell_73 : decode cX10_cell 73 = .ok (.aload 5, 2) := by decide +kernel
theorem dX10_cell_75 : decode cX10_cell 75 = .ok (.iload_n 2, 1) := by decide +kernel
theorem dX10_cell_76 : decode cX10_cell 76 = .ok (.invokevirtual 187, 3) := by decide +kernel
theorem dX10_cell_79 : decode cX10_cell 79 = .ok (.putfield 116, 3) := by decide +kernel
theorem dX10_cell_82 : decode cX10_cell 82 = .ok (.goto 21, 3) := by decide +kernel
theorem dX10_cell_85 : decode cX10_cell 85 = .ok (.aload_n 0, 1) := by decide +kernel
theorem dX10_cell_86 : decode cX10_cell 86 = .ok (.aload 5, 2) := by decide +kernel
theorem dX10_cell_88 : decode cX10_cell 88 = .ok (.getfield 184, 3) := by decide +kernel
theorem dX10_cell_91 : decode cX10_cell 91 = .ok (.iload_n 3, 1) := by decide +kernel
theorem dX10_cell_92 : decode cX10_cell 92 = .ok (.iconst 3, 1) := by decide +kernel
theorem dX10_cell_93 : decode cX10_cell 93 = .ok (.isub, 1) := by decide +kernel
theorem dX10_cell_94 : decode cX10_cell 94 = .ok (.bipush 48, 2) := by decide +kernel
theorem dX10_cell_96 : decode cX10_cell 96 = .ok (.imul, 1) := by decide +kernel
theorem dX10_cell_97 : decode cX10_cell 97 = .ok (.iload_n 2, 1) := by decide +kernel
theorem dX10_cell_98 : decode cX10_cell 98 = .ok (.iadd, 1) := by decide +kernel
theorem dX10_cell_99 : decode cX10_cell 99 = .ok (.iaload, 1) := by decide +kernel
theorem dX10_cell_100 : decode cX10_cell 100 = .ok (.putfield 116, 3) := by decide +kernel
theorem dX10_cell_103 : decode cX10_cell 103 = .ok (.iconst 1, 1) := by decide +kernel
theorem dX10_cell_104 : decode cX10_cell 104 = .ok (.ireturn, 1) := by decide +kernel
noncomputable def f_X10_cell (x1 : Int32) (x2 : Int32) (x3 : Int32) (u0 : qM) : Option (Int32 × qM) :=
  q_bd (f_X10_within x3 0 5 u0) (fun (x4 : Int32) (u1 : qM) => q_bd (f_X10_cellRefused x4 x1 x2 u1) (fun (x5 : Int32) (u2 : qM) => if x5 = 0 then q_ck (q_in x1 6) (q_jn (fun  (u3 : qM) => some (1, u3)) (fun j1 => if x3 = 0 then q_ck (q_in x2 48) (q_lt (q_si u2 0 0 15 (u2.1 37 (Int32.toNatClampNeg x1) (Int32.toNatClampNeg x2))) (fun (u8 : qM) => j1 u8)) else if x3 = 1 then q_ck (q_in x2 48) (q_lt (q_si u2 0 0 15 (u2.1 38 (Int32.toNatClampNeg x1) (Int32.toNatClampNeg x2))) (fun (u7 : qM) => j1 u7)) else if x3 = 2 then q_bd (f_X0_level (Int32.toNatClampNeg x1) x2 u2) (fun (x6 : Int32) (u5 : qM) => q_lt (q_si u5 0 0 15 x6) (fun (u6 : qM) => j1 u6)) else q_ck (q_in (((x3 - 3) * 48) + x2) 144) (q_lt (q_si u2 0 0 15 (u2.1 39 (Int32.toNatClampNeg x1) (Int32.toNatClampNeg (((x3 - 3) * 48) + x2)))) (fun (u4 : qM) => j1 u4)))) else some (x5, u2)))
set_option maxRecDepth 100000 in
set_option maxHeartbeats 4000000 in
theorem k_X10_cell (l : Launch) (G : qG) (x1 : Int32) (x2 : Int32) (x3 : Int32)  (u0 : qM) : qCt l G m_X10_cell q_cI [.ref (q_ad G 0 0), .int x1, .int x2, .int x3] u0 (f_X10_cell x1 x2 x3 u0) := by
  refine q_entry pk_X10_cell (Nat.le_of_ble_eq_true rfl) ?_
  show qAW l G m_X10_cell (q_mq G q_cI) 0 [(0, .ref (q_ad G 0 0)), (1, .int x1), (2, .int x2), (3, .int x3)] [] u0 (f_X10_cell x1 x2 x3 u0)
  unfold f_X10_cell
  refine aw_aload_n (i := 0) dX10_cell_0 1 rfl rfl 0 rfl ?_
  refine aw_iload_n (i := 3) dX10_cell_1 2 rfl rfl 3 rfl ?_
  refine aw_iconst (x := 0) dX10_cell_2 3 rfl rfl ?_
  refine aw_iconst (x := 5) dX10_cell_3 4 rfl rfl ?_
  refine aw_callS (M2 := m_X10_within) (cv := q_cI) dX10_cell_4 7 rfl (k_X10_within l G x3 0 5  u0) wd_103 wv_X10_within pk_X10_within rfl ⟨by decide, by decide⟩ ⟨Nat.zero_le _, Nat.zero_le _⟩ rfl (Nat.le_of_ble_eq_true rfl) (fun x4 u1 => ?_)
  show qAW l G m_X10_cell (q_mq G q_cI) 7 [(0, .ref (q_ad G 0 0)), (1, .int x1), (2, .int x2), (3, .int x3)] [.int x4, .ref (q_ad G 0 0)] u1 _
  refine aw_iload_n (i := 1) dX10_cell_7 8 rfl rfl 1 rfl ?_
  refine aw_iload_n (i := 2) dX10_cell_8 9 rfl rfl 2 rfl ?_
  refine aw_callV (M2 := m_X10_cellRefused) (cv := q_cI) dX10_cell_9 12 rfl (k_X10_cellRefused l G x4 x1 x2  u1) wd_118 wv_X10_cellRefused pk_X10_cellRefused rfl rfl ⟨by decide, by decide⟩ ⟨Nat.zero_le _, Nat.zero_le _⟩ at_0 (ok_0 (by decide)) rfl rfl rfl (Nat.le_of_ble_eq_true rfl) (fun x5 u2 => ?_)
  show qAW l G m_X10_cell (q_mq G q_cI) 12 [(0, .ref (q_ad G 0 0)), (1, .int x1), (2, .int x2), (3, .int x3)] [.int x5] u2 _
  refine aw_istore dX10_cell_12 14 rfl [(4, .int x5), (0, .ref (q_ad G 0 0)), (1, .int x1), (2, .int x2), (3, .int x3)] (by decide) rfl ?_
  refine aw_iload (i := 4) dX10_cell_14 16 rfl 0 rfl ?_
  refine aw_if_eq dX10_cell_16 19 rfl 22 rfl (fun h1 => ?_) (fun h1 => ?_)
  · refine aw_aload_n (i := 0) dX10_cell_22 23 rfl rfl 1 rfl ?_
    refine gf_X10_4 dX10_cell_23 26 rfl wd_107 (ok_0 (by decide)) ?_
    refine aw_iload_n (i := 1) dX10_cell_26 27 rfl rfl 2 rfl ?_
    refine aw_aald dX10_cell_27 28 rfl at_21 (by decide) (by decide) rfl rfl (al_21 _) (ok_21 (by decide)) rfl (fun h2 => ?_)
    refine aw_astore dX10_cell_28 30 rfl [(5, .ref (q_ad G 2 (Int32.toNatClampNeg x1))), (4, .int x5), (0, .ref (q_ad G 0 0)), (1, .int x1), (2, .int x2), (3, .int x3)] (by decide) rfl ?_
    refine aw_iload_n (i := 3) dX10_cell_30 31 rfl rfl 5 rfl ?_
    refine aw_jn (fun k => ∀  (u3 : qM), qAW l G m_X10_cell (q_mq G q_cI) 103 [] [] u3 (k u3)) ?_ ?_
    · intro u3
      refine aw_iconst (x := 1) dX10_cell_103 104 rfl rfl ?_
      exact aw_iret dX10_cell_104 rfl
    · intro j1 hj1
      refine aw_if_ne dX10_cell_31 34 rfl 48 rfl (fun h3 => ?_) (fun h3 => ?_)
      · refine aw_iload_n (i := 3) dX10_cell_48 49 rfl rfl 5 rfl ?_
        refine aw_iconst (x := 1) dX10_cell_49 50 rfl rfl ?_
        refine aw_icmp_ne dX10_cell_50 53 rfl 67 rfl (fun h4 => ?_) (fun h4 => ?_)
        · refine aw_iload_n (i := 3) dX10_cell_67 68 rfl rfl 5 rfl ?_
          refine aw_iconst (x := 2) dX10_cell_68 69 rfl rfl ?_
          refine aw_icmp_ne dX10_cell_69 72 rfl 85 rfl (fun h5 => ?_) (fun h5 => ?_)
          · refine aw_aload_n (i := 0) dX10_cell_85 86 rfl rfl 2 rfl ?_
            refine aw_aload (i := 5) dX10_cell_86 88 rfl 0 rfl ?_
            refine gfN_X0_2 dX10_cell_88 91 rfl "SeaCells" (ns_32) (ok_2 (Nat.lt_of_lt_of_le (q_in_lt h2) (by decide))) ?_
            refine aw_iload_n (i := 3) dX10_cell_91 92 rfl rfl 5 rfl ?_
            refine aw_iconst (x := 3) dX10_cell_92 93 rfl rfl ?_
            refine aw_isub dX10_cell_93 94 rfl ?_
            refine aw_bipush (x := 48) dX10_cell_94 96 rfl rfl ?_
            refine aw_imul dX10_cell_96 97 rfl ?_
            refine aw_iload_n (i := 2) dX10_cell_97 98 rfl rfl 4 rfl ?_
            refine aw_iadd dX10_cell_98 99 rfl ?_
            refine aw_iald dX10_cell_99 100 rfl at_39 (al_39 _) (ok_39 (Nat.lt_of_lt_of_le (q_in_lt h2) (by decide))) (fun h6 => ?_)
            refine pf_X10_15 dX10_cell_100 103 rfl wd_106 (ok_0 (by decide)) ?_
            refine aw_ltm (fun u4 => ?_)
            exact aw_conv [] rfl (hj1 u4)
          · refine aw_aload_n (i := 0) dX10_cell_72 73 rfl rfl 2 rfl ?_
            refine aw_aload (i := 5) dX10_cell_73 75 rfl 0 rfl ?_
            refine aw_iload_n (i := 2) dX10_cell_75 76 rfl rfl 4 rfl ?_
            refine aw_callV (M2 := m_X0_level) (cv := q_cI) dX10_cell_76 79 rfl (k_X0_level l G (Int32.toNatClampNeg x1) x2 (Nat.lt_of_lt_of_le (q_in_lt h2) (by decide)) u2) wd_119 wv_X0_level pk_X0_level rfl rfl ⟨by decide, by decide⟩ ⟨Nat.zero_le _, Nat.zero_le _⟩ at_2 (ok_2 (Nat.lt_of_lt_of_le (q_in_lt h2) (by decide))) rfl rfl rfl (Nat.le_of_ble_eq_true rfl) (fun x6 u5 => ?_)
            show qAW l G m_X10_cell (q_mq G q_cI) 79 [(5, .ref (q_ad G 2 (Int32.toNatClampNeg x1))), (4, .int x5), (0, .ref (q_ad G 0 0)), (1, .int x1), (2, .int x2), (3, .int x3)] [.int x6, .ref (q_ad G 0 0)] u5 _
            refine pf_X10_15 dX10_cell_79 82 rfl wd_106 (ok_0 (by decide)) ?_
            refine aw_ltm (fun u6 => ?_)
            refine aw_goto dX10_cell_82 103 rfl ?_
            exact aw_conv [] rfl (hj1 u6)
        · refine aw_aload_n (i := 0) dX10_cell_53 54 rfl rfl 2 rfl ?_
          refine aw_aload (i := 5) dX10_cell_54 56 rfl 0 rfl ?_
          refine gfN_X0_1 dX10_cell_56 59 rfl "SeaCells" (ns_30) (ok_2 (Nat.lt_of_lt_of_le (q_in_lt h2) (by decide))) ?_
          refine aw_iload_n (i := 2) dX10_cell_59 60 rfl rfl 4 rfl ?_
          refine aw_iald dX10_cell_60 61 rfl at_38 (al_38 _) (ok_38 (Nat.lt_of_lt_of_le (q_in_lt h2) (by decide))) (fun h7 => ?_)
          refine pf_X10_15 dX10_cell_61 64 rfl wd_106 (ok_0 (by decide)) ?_
          refine aw_ltm (fun u7 => ?_)
          refine aw_goto dX10_cell_64 103 rfl ?_
          exact aw_conv [] rfl (hj1 u7)
      · refine aw_aload_n (i := 0) dX10_cell_34 35 rfl rfl 2 rfl ?_
        refine aw_aload (i := 5) dX10_cell_35 37 rfl 0 rfl ?_
        refine gfN_X0_0 dX10_cell_37 40 rfl "SeaCells" (ns_28) (ok_2 (Nat.lt_of_lt_of_le (q_in_lt h2) (by decide))) ?_
        refine aw_iload_n (i := 2) dX10_cell_40 41 rfl rfl 4 rfl ?_
        refine aw_iald dX10_cell_41 42 rfl at_37 (al_37 _) (ok_37 (Nat.lt_of_lt_of_le (q_in_lt h2) (by decide))) (fun h8 => ?_)
        refine pf_X10_15 dX10_cell_42 45 rfl wd_106 (ok_0 (by decide)) ?_
        refine aw_ltm (fun u8 => ?_)
        refine aw_goto dX10_cell_45 103 rfl ?_
        exact aw_conv [] rfl (hj1 u8)
  · refine aw_iload (i := 4) dX10_cell_19 21 rfl 0 rfl ?_
    exact aw_iret dX10_cell_21 rfl
theorem dX10_sideRefused_0 : decode cX10_sideRefused 0 = .ok (.aload_n 0, 1) := by decide +kernel
theorem dX10_sideRefused_1 : decode cX10_sideRefused 1 = .ok (.iconst 1, 1) := by decide +kernel
theorem dX10_sideRefused_2 : decode cX10_sideRefused 2 = .ok (.iload_n 1, 1) := by decide +kernel
theorem dX10_sideRefused_3 : decode cX10_sideRefused 3 = .ok (.invokevirtual 170, 3) := by decide +kernel
theorem dX10_sideRefused_6 : decode cX10_sideRefused 6 = .ok (.istore_n 3, 1) := by decide +kernel
theorem dX10_sideRefused_7 : decode cX10_sideRefused 7 = .ok (.iload_n 3, 1) := by decide +kernel
theorem dX10_sideRefused_8 : decode cX10_sideRefused 8 = .ok (.ifCond .eq 5, 3) := by decide +kernel
theorem dX10_sideRefused_11 : decode cX10_sideRefused 11 = .ok (.iload_n 3, 1) := by decide +kernel
theorem dX10_sideRefused_12 : decode cX10_sideRefused 12 = .ok (.ireturn, 1) := by decide +kernel
theorem dX10_sideRefused_13 : decode cX10_sideRefused 13 = .ok (.aload_n 0, 1) := by decide +kernel
theorem dX10_sideRefused_14 : decode cX10_sideRefused 14 = .ok (.getfield 30, 3) := by decide +kernel
theorem dX10_sideRefused_17 : decode cX10_sideRefused 17 = .ok (.iload_n 1, 1) := by decide +kernel
theorem dX10_sideRefused_18 : decode cX10_sideRefused 18 = .ok (.aaload, 1) := by decide +kernel
theorem dX10_sideRefused_19 : decode cX10_sideRefused 19 = .ok (.iload_n 2, 1) := by decide +kernel
theorem dX10_sideRefused_20 : decode cX10_sideRefused 20 = .ok (.invokevirtual 472, 3) := by decide +kernel
theorem dX10_sideRefused_23 : decode cX10_sideRefused 23 = .ok (.ifCond .eq 7, 3) := by decide +kernel
theorem dX10_sideRefused_26 : decode cX10_sideRefused 26 = .ok (.iconst 0, 1) := by decide +kernel
theorem dX10_sideRefused_27 : decode cX10_sideRefused 27 = .ok (.goto 8, 3) := by decide +kernel
theorem dX10_sideRefused_30 : decode cX10_sideRefused 30 = .ok (.aload_n 0, 1) := by decide +kernel
theorem dX10_sideRefused_31 : decode cX10_sideRefused 31 = .ok (.iconst 2, 1) := by decide +kernel
theorem dX10_sideRefused_32 : decode cX10_sideRefused 32 = .ok (.invokevirtual 91, 3) := by decide +kernel
theorem dX10_sideRefused_35 : decode cX10_sideRefused 35 = .ok (.ireturn, 1) := by decide +kernel
noncomputable def f_X10_sideRefused (x1 : Int32) (x2 : Int32) (u0 : qM) : Option (Int32 × qM) :=
  q_bd (f_X10_boardRefused 1 x1 u0) (fun (x3 : Int32) (u1 : qM) => if x3 = 0 then q_ck (q_in x1 6) (q_bd (f_X0_hasSide (Int32.toNatClampNeg x1) x2 u1) (fun (x4 : Int32) (u2 : qM) => q_jn (fun (x5 : Int32) (u3 : qM) => some (x5, u3)) (fun j1 => if x4 = 0 then q_bd (f_X10_found 2 u2) (fun (x6 : Int32) (u4 : qM) => j1 x6 u4) else j1 0 u2))) else some (x3, u1))
set_option maxRecDepth 100000 in
set_option maxHeartbeats 4000000 in
theorem k_X10_sideRefused (l : Launch) (G : qG) (x1 : Int32) (x2 : Int32)  (u0 : qM) : qCt l G m_X10_sideRefused q_cI [.ref (q_ad G 0 0), .int x1, .int x2] u0 (f_X10_sideRefused x1 x2 u0) := by
  refine q_entry pk_X10_sideRefused (Nat.le_of_ble_eq_true rfl) ?_
  show qAW l G m_X10_sideRefused (q_mq G q_cI) 0 [(0, .ref (q_ad G 0 0)), (1, .int x1), (2, .int x2)] [] u0 (f_X10_sideRefused x1 x2 u0)
  unfold f_X10_sideRefused
  refine aw_aload_n (i := 0) dX10_sideRefused_0 1 rfl rfl 0 rfl ?_
  refine aw_iconst (x := 1) dX10_sideRefused_1 2 rfl rfl ?_
  refine aw_iload_n (i := 1) dX10_sideRefused_2 3 rfl rfl 1 rfl ?_
  refine aw_callV (M2 := m_X10_boardRefused) (cv := q_cI) dX10_sideRefused_3 6 rfl (k_X10_boardRefused l G 1 x1  u0) wd_116 wv_X10_boardRefused pk_X10_boardRefused rfl rfl ⟨by decide, by decide⟩ ⟨Nat.zero_le _, Nat.zero_le _⟩ at_0 (ok_0 (by decide)) rfl rfl rfl (Nat.le_of_ble_eq_true rfl) (fun x3 u1 => ?_)
  show qAW l G m_X10_sideRefused (q_mq G q_cI) 6 [(0, .ref (q_ad G 0 0)), (1, .int x1), (2, .int x2)] [.int x3] u1 _
  refine aw_istore_n dX10_sideRefused_6 7 rfl rfl [(3, .int x3), (0, .ref (q_ad G 0 0)), (1, .int x1), (2, .int x2)] (by decide) rfl ?_
  refine aw_iload_n (i := 3) dX10_sideRefused_7 8 rfl rfl 0 rfl ?_
  refine aw_if_eq dX10_sideRefused_8 11 rfl 13 rfl (fun h1 => ?_) (fun h1 => ?_)
  · refine aw_aload_n (i := 0) dX10_sideRefused_13 14 rfl rfl 1 rfl ?_
    refine gf_X10_4 dX10_sideRefused_14 17 rfl wd_107 (ok_0 (by decide)) ?_
    refine aw_iload_n (i := 1) dX10_sideRefused_17 18 rfl rfl 2 rfl ?_
    refine aw_aald dX10_sideRefused_18 19 rfl at_21 (by decide) (by decide) rfl rfl (al_21 _) (ok_21 (by decide)) rfl (fun h2 => ?_)
    refine aw_iload_n (i := 2) dX10_sideRefused_19 20 rfl rfl 3 rfl ?_
    refine aw_callV (M2 := m_X0_hasSide) (cv := q_cI) dX10_sideRefused_20 23 rfl (k_X0_hasSide l G (Int32.toNatClampNeg x1) x2 (Nat.lt_of_lt_of_le (q_in_lt h2) (by decide)) u1) wd_120 wv_X0_hasSide pk_X0_hasSide rfl rfl ⟨by decide, by decide⟩ ⟨Nat.zero_le _, Nat.zero_le _⟩ at_2 (ok_2 (Nat.lt_of_lt_of_le (q_in_lt h2) (by decide))) rfl rfl rfl (Nat.le_of_ble_eq_true rfl) (fun x4 u2 => ?_)
    show qAW l G m_X10_sideRefused (q_mq G q_cI) 23 [(3, .int x3), (0, .ref (q_ad G 0 0)), (1, .int x1), (2, .int x2)] [.int x4] u2 _
    refine aw_jn (fun k => ∀ (x5 : Int32) (u3 : qM), qAW l G m_X10_sideRefused (q_mq G q_cI) 35 [] [.int x5] u3 (k x5 u3)) ?_ ?_
    · intro x5 u3
      exact aw_iret dX10_sideRefused_35 rfl
    · intro j1 hj1
      refine aw_if_eq dX10_sideRefused_23 26 rfl 30 rfl (fun h3 => ?_) (fun h3 => ?_)
      · refine aw_aload_n (i := 0) dX10_sideRefused_30 31 rfl rfl 1 rfl ?_
        refine aw_iconst (x := 2) dX10_sideRefused_31 32 rfl rfl ?_
        refine aw_callV (M2 := m_X10_found) (cv := q_cI) dX10_sideRefused_32 35 rfl (k_X10_found l G 2  u2) wd_100 wv_X10_found pk_X10_found rfl rfl ⟨by decide, by decide⟩ ⟨Nat.zero_le _, Nat.zero_le _⟩ at_0 (ok_0 (by decide)) rfl rfl rfl (Nat.le_of_ble_eq_true rfl) (fun x6 u4 => ?_)
        show qAW l G m_X10_sideRefused (q_mq G q_cI) 35 [(3, .int x3), (0, .ref (q_ad G 0 0)), (1, .int x1), (2, .int x2)] [.int x6] u4 _
        exact aw_conv [] rfl (hj1 x6 u4)
      · refine aw_iconst (x := 0) dX10_sideRefused_26 27 rfl rfl ?_
        refine aw_goto dX10_sideRefused_27 35 rfl ?_
        exact aw_conv [] rfl (hj1 0 u2)
  · refine aw_iload_n (i := 3) dX10_sideRefused_11 12 rfl rfl 0 rfl ?_
    exact aw_iret dX10_sideRefused_12 rfl
theorem dX10_flow_0 : decode cX10_flow 0 = .ok (.aload_n 0, 1) := by decide +kernel
theorem dX10_flow_1 : decode cX10_flow 1 = .ok (.iload_n 1, 1) := by decide +kernel
theorem dX10_flow_2 : decode cX10_flow 2 = .ok (.iload_n 2, 1) := by decide +kernel
theorem dX10_flow_3 : decode cX10_flow 3 = .ok (.invokevirtual 190, 3) := by decide +kernel
theorem dX10_flow_6 : decode cX10_flow 6 = .ok (.istore_n 3, 1) := by decide +kernel
theorem dX10_flow_7 : decode cX10_flow 7 = .ok (.iload_n 3, 1) := by decide +kernel
theorem dX10_flow_8 : decode cX10_flow 8 = .ok (.ifCond .eq 5, 3) := by decide +kernel
theorem dX10_flow_11 : decode cX10_flow 11 = .ok (.iload_n 3, 1) := by decide +kernel
theorem dX10_flow_12 : decode cX10_flow 12 = .ok (.ireturn, 1) := by decide +kernel
theorem dX10_flow_13 : decode cX10_flow 13 = .ok (.aload_n 0, 1) := by decide +kernel
theorem dX10_flow_14 : decode cX10_flow 14 = .ok (.aload_n 0, 1) := by decide +kernel
theorem dX10_flow_15 : decode cX10_flow 15 = .ok (.getfield 30, 3) := by decide +kernel
theorem dX10_flow_18 : decode cX10_flow 18 = .ok (.iload_n 1, 1) := by decide +kernel
theorem dX10_flow_19 : decode cX10_flow 19 = .ok (.aaload, 1) := by decide +kernel
theorem dX10_flow_20 : decode cX10_flow 20 = .ok (.getfield 194, 3) := by decide +kernel
theorem dX10_flow_23 : decode cX10_flow 23 = .ok (.iload_n 2, 1) := by decide +kernel
theorem dX10_flow_24 : decode cX10_flow 24 = .ok (.iaload, 1) := by decide +kernel
theorem dX10_flow_25 : decode cX10_flow 25 = .ok (.putfield 116, 3) := by decide +kernel
theorem dX10_flow_28 : decode cX10_flow 28 = .ok (.iconst 1, 1) := by decide +kernel
theorem dX10_flow_29 : decode cX10_flow 29 = .ok (.ireturn, 1) := by decide +kernel
noncomputable def f_X10_flow (x1 : Int32) (x2 : Int32) (u0 : qM) : Option (Int32 × qM) :=
  q_bd (f_X10_sideRefused x1 x2 u0) (fun (x3 : Int32) (u1 : qM) => if x3 = 0 then q_ck (q_in x1 6) (q_ck (q_in x2 96) (q_lt (q_si u1 0 0 15 (u1.1 40 (Int32.toNatClampNeg x1) (Int32.toNatClampNeg x2))) (fun (u2 : qM) => some (1, u2)))) else some (x3, u1))
set_option maxRecDepth 100000 in
set_option maxHeartbeats 4000000 in
theorem k_X10_flow (l : Launch) (G : qG) (x1 : Int32) (x2 : Int32)  (u0 : qM) : qCt l G m_X10_flow q_cI [.ref (q_ad G 0 0), .int x1, .int x2] u0 (f_X10_flow x1 x2 u0) := by
  refine q_entry pk_X10_flow (Nat.le_of_ble_eq_true rfl) ?_
  show qAW l G m_X10_flow (q_mq G q_cI) 0 [(0, .ref (q_ad G 0 0)), (1, .int x1), (2, .int x2)] [] u0 (f_X10_flow x1 x2 u0)
  unfold f_X10_flow
  refine aw_aload_n (i := 0) dX10_flow_0 1 rfl rfl 0 rfl ?_
  refine aw_iload_n (i := 1) dX10_flow_1 2 rfl rfl 1 rfl ?_
  refine aw_iload_n (i := 2) dX10_flow_2 3 rfl rfl 2 rfl ?_
  refine aw_callV (M2 := m_X10_sideRefused) (cv := q_cI) dX10_flow_3 6 rfl (k_X10_sideRefused l G x1 x2  u0) wd_121 wv_X10_sideRefused pk_X10_sideRefused rfl rfl ⟨by decide, by decide⟩ ⟨Nat.zero_le _, Nat.zero_le _⟩ at_0 (ok_0 (by decide)) rfl rfl rfl (Nat.le_of_ble_eq_true rfl) (fun x3 u1 => ?_)
  show qAW l G m_X10_flow (q_mq G q_cI) 6 [(0, .ref (q_ad G 0 0)), (1, .int x1), (2, .int x2)] [.int x3] u1 _
  refine aw_istore_n dX10_flow_6 7 rfl rfl [(3, .int x3), (0, .ref (q_ad G 0 0)), (1, .int x1), (2, .int x2)] (by decide) rfl ?_
  refine aw_iload_n (i := 3) dX10_flow_7 8 rfl rfl 0 rfl ?_
  refine aw_if_eq dX10_flow_8 11 rfl 13 rfl (fun h1 => ?_) (fun h1 => ?_)
  · refine aw_aload_n (i := 0) dX10_flow_13 14 rfl rfl 1 rfl ?_
    refine aw_aload_n (i := 0) dX10_flow_14 15 rfl rfl 1 rfl ?_
    refine gf_X10_4 dX10_flow_15 18 rfl wd_107 (ok_0 (by decide)) ?_
    refine aw_iload_n (i := 1) dX10_flow_18 19 rfl rfl 2 rfl ?_
    refine aw_aald dX10_flow_19 20 rfl at_21 (by decide) (by decide) rfl rfl (al_21 _) (ok_21 (by decide)) rfl (fun h2 => ?_)
    refine gfN_X0_3 dX10_flow_20 23 rfl "SeaCells" (ns_35) (ok_2 (Nat.lt_of_lt_of_le (q_in_lt h2) (by decide))) ?_
    refine aw_iload_n (i := 2) dX10_flow_23 24 rfl rfl 3 rfl ?_
    refine aw_iald dX10_flow_24 25 rfl at_40 (al_40 _) (ok_40 (Nat.lt_of_lt_of_le (q_in_lt h2) (by decide))) (fun h3 => ?_)
    refine pf_X10_15 dX10_flow_25 28 rfl wd_106 (ok_0 (by decide)) ?_
    refine aw_ltm (fun u2 => ?_)
    refine aw_iconst (x := 1) dX10_flow_28 29 rfl rfl ?_
    exact aw_iret dX10_flow_29 rfl
  · refine aw_iload_n (i := 3) dX10_flow_11 12 rfl rfl 0 rfl ?_
    exact aw_iret dX10_flow_12 rfl
theorem dX10_gate_0 : decode cX10_gate 0 = .ok (.aload_n 0, 1) := by decide +kernel
theorem dX10_gate_1 : decode cX10_gate 1 = .ok (.iload_n 1, 1) := by decide +kernel
theorem dX10_gate_2 : decode cX10_gate 2 = .ok (.iload_n 2, 1) := by decide +kernel
theorem dX10_gate_3 : decode cX10_gate 3 = .ok (.invokevirtual 190, 3) := by decide +kernel
theorem dX10_gate_6 : decode cX10_gate 6 = .ok (.istore 4, 2) := by decide +kernel
theorem dX10_gate_8 : decode cX10_gate 8 = .ok (.iload 4, 2) := by decide +kernel
theorem dX10_gate_10 : decode cX10_gate 10 = .ok (.ifCond .eq 6, 3) := by decide +kernel
theorem dX10_gate_13 : decode cX10_gate 13 = .ok (.iload 4, 2) := by decide +kernel
theorem dX10_gate_15 : decode cX10_gate 15 = .ok (.ireturn, 1) := by decide +kernel
theorem dX10_gate_16 : decode cX10_gate 16 = .ok (.aload_n 0, 1) := by decide +kernel
theorem dX10_gate_17 : decode cX10_gate 17 = .ok (.getfield 30, 3) := by decide +kernel
theorem dX10_gate_20 : decode cX10_gate 20 = .ok (.iload_n 1, 1) := by decide +kernel
theorem dX10_gate_21 : decode cX10_gate 21 = .ok (.aaload, 1) := by decide +kernel
theorem dX10_gate_22 : decode cX10_gate 22 = .ok (.getfield 197, 3) := by decide +kernel
theorem dX10_gate_25 : decode cX10_gate 25 = .ok (.iload_n 2, 1) := by decide +kernel
theorem dX10_gate_26 : decode cX10_gate 26 = .ok (.baload, 1) := by decide +kernel
theorem dX10_gate_27 : decode cX10_gate 27 = .ok (.ifCond .eq 7, 3) := by decide +kernel
theorem dX10_gate_30 : decode cX10_gate 30 = .ok (.iconst 1, 1) := by decide +kernel
theorem dX10_gate_31 : decode cX10_gate 31 = .ok (.goto 4, 3) := by decide +kernel
theorem dX10_gate_34 : decode cX10_gate 34 = .ok (.iconst 0, 1) := by decide +kernel
theorem dX10_gate_35 : decode cX10_gate 35 = .ok (.istore 5, 2) := by decide +kernel
theorem dX10_gate_37 : decode cX10_gate 37 = .ok (.aload_n 0, 1) := by decide +kernel
theorem dX10_gate_38 : decode cX10_gate 38 = .ok (.getfield 30, 3) := by decide +kernel
theorem dX10_gate_41 : decode cX10_gate 41 = .ok (.iload_n 1, 1) := by decide +kernel
theorem dX10_gate_42 : decode cX10_gate 42 = .ok (.aaload, 1) := by decide +kernel
theorem dX10_gate_43 : decode cX10_gate 43 = .ok (.getfield 197, 3) := by decide +kernel
theorem dX10_gate_46 : decode cX10_gate 46 = .ok (.iload_n 2, 1) := by decide +kernel
theorem dX10_gate_47 : decode cX10_gate 47 = .ok (.iload_n 3, 1) := by decide +kernel
theorem dX10_gate_48 : decode cX10_gate 48 = .ok (.bastore, 1) := by decide +kernel
theorem dX10_gate_49 : decode cX10_gate 49 = .ok (.iload 5, 2) := by decide +kernel
theorem dX10_gate_51 : decode cX10_gate 51 = .ok (.ireturn, 1) := by decide +kernel
noncomputable def f_X10_gate (x1 : Int32) (x2 : Int32) (x3 : Int32) (u0 : qM) : Option (Int32 × qM) :=
  q_bd (f_X10_sideRefused x1 x2 u0) (fun (x4 : Int32) (u1 : qM) => if x4 = 0 then q_ck (q_in x1 6) (q_ck (q_in x2 96) (q_jn (fun (x5 : Int32) (u2 : qM) => q_ck (q_in x1 6) (q_ck (q_in x2 96) (q_lt (q_si u2 41 (Int32.toNatClampNeg x1) (Int32.toNatClampNeg x2) (vp_nar .boolean x3)) (fun (u3 : qM) => some (x5, u3))))) (fun j1 => if (u1.1 41 (Int32.toNatClampNeg x1) (Int32.toNatClampNeg x2)) = 0 then j1 0 u1 else j1 1 u1))) else some (x4, u1))
set_option maxRecDepth 100000 in
set_option maxHeartbeats 4000000 in
theorem k_X10_gate (l : Launch) (G : qG) (x1 : Int32) (x2 : Int32) (x3 : Int32)  (u0 : qM) : qCt l G m_X10_gate q_cI [.ref (q_ad G 0 0), .int x1, .int x2, .int x3] u0 (f_X10_gate x1 x2 x3 u0) := by
  refine q_entry pk_X10_gate (Nat.le_of_ble_eq_true rfl) ?_
  show qAW l G m_X10_gate (q_mq G q_cI) 0 [(0, .ref (q_ad G 0 0)), (1, .int x1), (2, .int x2), (3, .int x3)] [] u0 (f_X10_gate x1 x2 x3 u0)
  unfold f_X10_gate
  refine aw_aload_n (i := 0) dX10_gate_0 1 rfl rfl 0 rfl ?_
  refine aw_iload_n (i := 1) dX10_gate_1 2 rfl rfl 1 rfl ?_
  refine aw_iload_n (i := 2) dX10_gate_2 3 rfl rfl 2 rfl ?_
  refine aw_callV (M2 := m_X10_sideRefused) (cv := q_cI) dX10_gate_3 6 rfl (k_X10_sideRefused l G x1 x2  u0) wd_121 wv_X10_sideRefused pk_X10_sideRefused rfl rfl ⟨by decide, by decide⟩ ⟨Nat.zero_le _, Nat.zero_le _⟩ at_0 (ok_0 (by decide)) rfl rfl rfl (Nat.le_of_ble_eq_true rfl) (fun x4 u1 => ?_)
  show qAW l G m_X10_gate (q_mq G q_cI) 6 [(0, .ref (q_ad G 0 0)), (1, .int x1), (2, .int x2), (3, .int x3)] [.int x4] u1 _
  refine aw_istore dX10_gate_6 8 rfl [(4, .int x4), (0, .ref (q_ad G 0 0)), (1, .int x1), (2, .int x2), (3, .int x3)] (by decide) rfl ?_
  refine aw_iload (i := 4) dX10_gate_8 10 rfl 0 rfl ?_
  refine aw_if_eq dX10_gate_10 13 rfl 16 rfl (fun h1 => ?_) (fun h1 => ?_)
  · refine aw_aload_n (i := 0) dX10_gate_16 17 rfl rfl 1 rfl ?_
    refine gf_X10_4 dX10_gate_17 20 rfl wd_107 (ok_0 (by decide)) ?_
    refine aw_iload_n (i := 1) dX10_gate_20 21 rfl rfl 2 rfl ?_
    refine aw_aald dX10_gate_21 22 rfl at_21 (by decide) (by decide) rfl rfl (al_21 _) (ok_21 (by decide)) rfl (fun h2 => ?_)
    refine gfN_X0_4 dX10_gate_22 25 rfl "SeaCells" (ns_37) (ok_2 (Nat.lt_of_lt_of_le (q_in_lt h2) (by decide))) ?_
    refine aw_iload_n (i := 2) dX10_gate_25 26 rfl rfl 3 rfl ?_
    refine aw_zald dX10_gate_26 27 rfl at_41 (al_41 _) (ok_41 (Nat.lt_of_lt_of_le (q_in_lt h2) (by decide))) (fun h3 => ?_)
    refine aw_jn (fun k => ∀ (x5 : Int32) (u2 : qM), qAW l G m_X10_gate (q_mq G q_cI) 35 [(0, .ref (q_ad G 0 0)), (1, .int x1), (2, .int x2), (3, .int x3)] [.int x5] u2 (k x5 u2)) ?_ ?_
    · intro x5 u2
      refine aw_istore dX10_gate_35 37 rfl [(5, .int x5), (0, .ref (q_ad G 0 0)), (1, .int x1), (2, .int x2), (3, .int x3)] (by decide) rfl ?_
      refine aw_aload_n (i := 0) dX10_gate_37 38 rfl rfl 1 rfl ?_
      refine gf_X10_4 dX10_gate_38 41 rfl wd_107 (ok_0 (by decide)) ?_
      refine aw_iload_n (i := 1) dX10_gate_41 42 rfl rfl 2 rfl ?_
      refine aw_aald dX10_gate_42 43 rfl at_21 (by decide) (by decide) rfl rfl (al_21 _) (ok_21 (by decide)) rfl (fun h5 => ?_)
      refine gfN_X0_4 dX10_gate_43 46 rfl "SeaCells" (ns_37) (ok_2 (Nat.lt_of_lt_of_le (q_in_lt h5) (by decide))) ?_
      refine aw_iload_n (i := 2) dX10_gate_46 47 rfl rfl 3 rfl ?_
      refine aw_iload_n (i := 3) dX10_gate_47 48 rfl rfl 4 rfl ?_
      refine aw_zast dX10_gate_48 49 rfl at_41 (al_41 _) (ok_41 (Nat.lt_of_lt_of_le (q_in_lt h5) (by decide))) (fun h6 => ?_)
      refine aw_ltm (fun u3 => ?_)
      refine aw_iload (i := 5) dX10_gate_49 51 rfl 0 rfl ?_
      exact aw_iret dX10_gate_51 rfl
    · intro j1 hj1
      refine aw_if_eq dX10_gate_27 30 rfl 34 rfl (fun h4 => ?_) (fun h4 => ?_)
      · refine aw_iconst (x := 0) dX10_gate_34 35 rfl rfl ?_
        exact aw_conv [1, 2, 3, 4] rfl (hj1 0 u1)
      · refine aw_iconst (x := 1) dX10_gate_30 31 rfl rfl ?_
        refine aw_goto dX10_gate_31 35 rfl ?_
        exact aw_conv [1, 2, 3, 4] rfl (hj1 1 u1)
  · refine aw_iload (i := 4) dX10_gate_13 15 rfl 0 rfl ?_
    exact aw_iret dX10_gate_15 rfl
theorem dX10_law_0 : decode cX10_law 0 = .ok (.aload_n 0, 1) := by decide +kernel
theorem dX10_law_1 : decode cX10_law 1 = .ok (.iload_n 2, 1) := by decide +kernel
theorem dX10_law_2 : decode cX10_law 2 = .ok (.iconst 1, 1) := by decide +kernel
theorem dX10_law_3 : decode cX10_law 3 = .ok (.bipush 8, 2) := by decide +kernel
theorem dX10_law_5 : decode cX10_law 5 = .ok (.invokestatic 101, 3) := by decide +kernel
theorem dX10_law_8 : decode cX10_law 8 = .ok (.ifCond .eq 18, 3) := by decide +kernel
theorem dX10_law_11 : decode cX10_law 11 = .ok (.iload_n 3, 1) := by decide +kernel
theorem dX10_law_12 : decode cX10_law 12 = .ok (.iconst 2, 1) := by decide +kernel
theorem dX10_law_13 : decode cX10_law 13 = .ok (.sipush 1000, 3) := by decide +kernel
theorem dX10_law_16 : decode cX10_law 16 = .ok (.invokestatic 101, 3) := by decide +kernel
theorem dX10_law_19 : decode cX10_law 19 = .ok (.ifCond .eq 7, 3) := by decide +kernel
theorem dX10_law_22 : decode cX10_law 22 = .ok (.iconst 1, 1) := by decide +kernel
theorem dX10_law_23 : decode cX10_law 23 = .ok (.goto 4, 3) := by decide +kernel
theorem dX10_law_26 : decode cX10_law 26 = .ok (.iconst 0, 1) := by decide +kernel
theorem dX10_law_27 : decode cX10_law 27 = .ok (.iload_n 1, 1) := by decide +kernel
theorem dX10_law_28 : decode cX10_law 28 = .ok (.invokevirtual 170, 3) := by decide +kernel
theorem dX10_law_31 : decode cX10_law 31 = .ok (.istore 4, 2) := by decide +kernel
theorem dX10_law_33 : decode cX10_law 33 = .ok (.iload 4, 2) := by decide +kernel
theorem dX10_law_35 : decode cX10_law 35 = .ok (.ifCond .eq 6, 3) := by decide +kernel
theorem dX10_law_38 : decode cX10_law 38 = .ok (.iload 4, 2) := by decide +kernel
theorem dX10_law_40 : decode cX10_law 40 = .ok (.ireturn, 1) := by decide +kernel
theorem dX10_law_41 : decode cX10_law 41 = .ok (.aload_n 0, 1) := by decide +kernel
theorem dX10_law_42 : decode cX10_law 42 = .ok (.getfield 30, 3) := by decide +kernel
theorem dX10_law_45 : decode cX10_law 45 = .ok (.iload_n 1, 1) := by decide +kernel
theorem dX10_law_46 : decode cX10_law 46 = .ok (.aaload, 1) := by decide +kernel
theorem dX10_law_47 : decode cX10_law 47 = .ok (.getfield 201, 3) := by decide +kernel
theorem dX10_law_50 : decode cX10_law 50 = .ok (.iload_n 2, 1) := by decide +kernel
theorem dX10_law_51 : decode cX10_law 51 = .ok (.putfield 205, 3) := by decide +kernel
theorem dX10_law_54 : decode cX10_law 54 = .ok (.aload_n 0, 1) := by decide +kernel
theorem dX10_law_55 : decode cX10_law 55 = .ok (.getfield 30, 3) := by decide +kernel
theorem dX10_law_58 : decode cX10_law 58 = .ok (.iload_n 1, 1) := by decide +kernel
theorem dX10_law_59 : decode cX10_law 59 = .ok (.aaload, 1) := by decide +kernel
theorem dX10_law_60 : decode cX10_law 60 = .ok (.getfield 201, 3) := by decide +kernel
theorem dX10_law_63 : decode cX10_law 63 = .ok (.iload_n 3, 1) := by decide +kernel
theorem dX10_law_64 : decode cX10_law 64 = .ok (.putfield 210, 3) := by decide +kernel
theorem dX10_law_67 : decode cX10_law 67 = .ok (.iconst 1, 1) := by decide +kernel
theorem dX10_law_68 : decode cX10_law 68 = .ok (.ireturn, 1) := by decide +kernel
noncomputable def f_X10_law (x1 : Int32) (x2 : Int32) (x3 : Int32) (u0 : qM) : Option (Int32 × qM) :=
  q_bd (f_X10_within x2 1 8 u0) (fun (x4 : Int32) (u1 : qM) => q_jn (fun (x5 : Int32) (u2 : qM) => q_bd (f_X10_boardRefused x5 x1 u2) (fun (x6 : Int32) (u3 : qM) => if x6 = 0 then q_ck (q_in x1 6) (q_lt (q_si u3 3 (Int32.toNatClampNeg x1) 0 x2) (fun (u4 : qM) => q_ck (q_in x1 6) (q_lt (q_si u4 3 (Int32.toNatClampNeg x1) 1 x3) (fun (u5 : qM) => some (1, u5))))) else some (x6, u3))) (fun j1 => q_jn (fun  (u6 : qM) => j1 0 u6) (fun j2 => if x4 = 0 then j2 u1 else q_bd (f_X10_within x3 2 1000 u1) (fun (x7 : Int32) (u7 : qM) => if x7 = 0 then j2 u7 else j1 1 u7))))
set_option maxRecDepth 100000 in
set_option maxHeartbeats 4000000 in
theorem k_X10_law (l : Launch) (G : qG) (x1 : Int32) (x2 : Int32) (x3 : Int32)  (u0 : qM) : qCt l G m_X10_law q_cI [.ref (q_ad G 0 0), .int x1, .int x2, .int x3] u0 (f_X10_law x1 x2 x3 u0) := by
  refine q_entry pk_X10_law (Nat.le_of_ble_eq_true rfl) ?_
  show qAW l G m_X10_law (q_mq G q_cI) 0 [(0, .ref (q_ad G 0 0)), (1, .int x1), (2, .int x2), (3, .int x3)] [] u0 (f_X10_law x1 x2 x3 u0)
  unfold f_X10_law
  refine aw_aload_n (i := 0) dX10_law_0 1 rfl rfl 0 rfl ?_
  refine aw_iload_n (i := 2) dX10_law_1 2 rfl rfl 2 rfl ?_
  refine aw_iconst (x := 1) dX10_law_2 3 rfl rfl ?_
  refine aw_bipush (x := 8) dX10_law_3 5 rfl rfl ?_
  refine aw_callS (M2 := m_X10_within) (cv := q_cI) dX10_law_5 8 rfl (k_X10_within l G x2 1 8  u0) wd_103 wv_X10_within pk_X10_within rfl ⟨by decide, by decide⟩ ⟨Nat.zero_le _, Nat.zero_le _⟩ rfl (Nat.le_of_ble_eq_true rfl) (fun x4 u1 => ?_)
  show qAW l G m_X10_law (q_mq G q_cI) 8 [(0, .ref (q_ad G 0 0)), (1, .int x1), (2, .int x2), (3, .int x3)] [.int x4, .ref (q_ad G 0 0)] u1 _
  refine aw_jn (fun k => ∀ (x5 : Int32) (u2 : qM), qAW l G m_X10_law (q_mq G q_cI) 27 [(0, .ref (q_ad G 0 0)), (1, .int x1), (2, .int x2), (3, .int x3)] [.int x5, .ref (q_ad G 0 0)] u2 (k x5 u2)) ?_ ?_
  · intro x5 u2
    refine aw_iload_n (i := 1) dX10_law_27 28 rfl rfl 1 rfl ?_
    refine aw_callV (M2 := m_X10_boardRefused) (cv := q_cI) dX10_law_28 31 rfl (k_X10_boardRefused l G x5 x1  u2) wd_116 wv_X10_boardRefused pk_X10_boardRefused rfl rfl ⟨by decide, by decide⟩ ⟨Nat.zero_le _, Nat.zero_le _⟩ at_0 (ok_0 (by decide)) rfl rfl rfl (Nat.le_of_ble_eq_true rfl) (fun x6 u3 => ?_)
    show qAW l G m_X10_law (q_mq G q_cI) 31 [(0, .ref (q_ad G 0 0)), (1, .int x1), (2, .int x2), (3, .int x3)] [.int x6] u3 _
    refine aw_istore dX10_law_31 33 rfl [(4, .int x6), (0, .ref (q_ad G 0 0)), (1, .int x1), (2, .int x2), (3, .int x3)] (by decide) rfl ?_
    refine aw_iload (i := 4) dX10_law_33 35 rfl 0 rfl ?_
    refine aw_if_eq dX10_law_35 38 rfl 41 rfl (fun h2 => ?_) (fun h2 => ?_)
    · refine aw_aload_n (i := 0) dX10_law_41 42 rfl rfl 1 rfl ?_
      refine gf_X10_4 dX10_law_42 45 rfl wd_107 (ok_0 (by decide)) ?_
      refine aw_iload_n (i := 1) dX10_law_45 46 rfl rfl 2 rfl ?_
      refine aw_aald dX10_law_46 47 rfl at_21 (by decide) (by decide) rfl rfl (al_21 _) (ok_21 (by decide)) rfl (fun h3 => ?_)
      refine gfN_X0_5 dX10_law_47 50 rfl "SeaCells" (ns_39) (ok_2 (Nat.lt_of_lt_of_le (q_in_lt h3) (by decide))) ?_
      refine aw_iload_n (i := 2) dX10_law_50 51 rfl rfl 3 rfl ?_
      refine pfN_X3_0 dX10_law_51 54 rfl "SeaCells" (ns_4) (ok_3 (Nat.lt_of_lt_of_le (q_in_lt h3) (by decide))) ?_
      refine aw_ltm (fun u4 => ?_)
      refine aw_aload_n (i := 0) dX10_law_54 55 rfl rfl 1 rfl ?_
      refine gf_X10_4 dX10_law_55 58 rfl wd_107 (ok_0 (by decide)) ?_
      refine aw_iload_n (i := 1) dX10_law_58 59 rfl rfl 2 rfl ?_
      refine aw_aald dX10_law_59 60 rfl at_21 (by decide) (by decide) rfl rfl (al_21 _) (ok_21 (by decide)) rfl (fun h4 => ?_)
      refine gfN_X0_5 dX10_law_60 63 rfl "SeaCells" (ns_39) (ok_2 (Nat.lt_of_lt_of_le (q_in_lt h4) (by decide))) ?_
      refine aw_iload_n (i := 3) dX10_law_63 64 rfl rfl 4 rfl ?_
      refine pfN_X3_1 dX10_law_64 67 rfl "SeaCells" (ns_6) (ok_3 (Nat.lt_of_lt_of_le (q_in_lt h4) (by decide))) ?_
      refine aw_ltm (fun u5 => ?_)
      refine aw_iconst (x := 1) dX10_law_67 68 rfl rfl ?_
      exact aw_iret dX10_law_68 rfl
    · refine aw_iload (i := 4) dX10_law_38 40 rfl 0 rfl ?_
      exact aw_iret dX10_law_40 rfl
  · intro j1 hj1
    refine aw_jn (fun k => ∀  (u6 : qM), qAW l G m_X10_law (q_mq G q_cI) 26 [(0, .ref (q_ad G 0 0)), (1, .int x1), (2, .int x2), (3, .int x3)] [.ref (q_ad G 0 0)] u6 (k u6)) ?_ ?_
    · intro u6
      refine aw_iconst (x := 0) dX10_law_26 27 rfl rfl ?_
      exact hj1 0 u6
    · intro j2 hj2
      refine aw_if_eq dX10_law_8 11 rfl 26 rfl (fun h1 => ?_) (fun h1 => ?_)
      · exact hj2 u1
      · refine aw_iload_n (i := 3) dX10_law_11 12 rfl rfl 3 rfl ?_
        refine aw_iconst (x := 2) dX10_law_12 13 rfl rfl ?_
        refine aw_sipush (x := 1000) dX10_law_13 16 rfl rfl ?_
        refine aw_callS (M2 := m_X10_within) (cv := q_cI) dX10_law_16 19 rfl (k_X10_within l G x3 2 1000  u1) wd_103 wv_X10_within pk_X10_within rfl ⟨by decide, by decide⟩ ⟨Nat.zero_le _, Nat.zero_le _⟩ rfl (Nat.le_of_ble_eq_true rfl) (fun x7 u7 => ?_)
        show qAW l G m_X10_law (q_mq G q_cI) 19 [(0, .ref (q_ad G 0 0)), (1, .int x1), (2, .int x2), (3, .int x3)] [.int x7, .ref (q_ad G 0 0)] u7 _
        refine aw_if_eq dX10_law_19 22 rfl 26 rfl (fun h5 => ?_) (fun h5 => ?_)
        · exact hj2 u7
        · refine aw_iconst (x := 1) dX10_law_22 23 rfl rfl ?_
          refine aw_goto dX10_law_23 27 rfl ?_
          exact hj1 1 u7
theorem dX10_wind_0 : decode cX10_wind 0 = .ok (.aload_n 0, 1) := by decide +kernel
theorem dX10_wind_1 : decode cX10_wind 1 = .ok (.iload_n 2, 1) := by decide +kernel
theorem dX10_wind_2 : decode cX10_wind 2 = .ok (.bipush (-50), 2) := by decide +kernel
theorem dX10_wind_4 : decode cX10_wind 4 = .ok (.bipush 50, 2) := by decide +kernel
theorem dX10_wind_6 : decode cX10_wind 6 = .ok (.invokestatic 101, 3) := by decide +kernel
theorem dX10_wind_9 : decode cX10_wind 9 = .ok (.ifCond .eq 18, 3) := by decide +kernel
theorem dX10_wind_12 : decode cX10_wind 12 = .ok (.iload_n 3, 1) := by decide +kernel
theorem dX10_wind_13 : decode cX10_wind 13 = .ok (.bipush (-50), 2) := by decide +kernel
theorem dX10_wind_15 : decode cX10_wind 15 = .ok (.bipush 50, 2) := by decide +kernel
theorem dX10_wind_17 : decode cX10_wind 17 = .ok (.invokestatic 101, 3) := by decide +kernel
theorem dX10_wind_20 : decode cX10_wind 20 = .ok (.ifCond .eq 7, 3) := by decide +kernel
theorem dX10_wind_23 : decode cX10_wind 23 = .ok (.iconst 1, 1) := by decide +kernel
theorem dX10_wind_24 : decode cX10_wind 24 = .ok (.goto 4, 3) := by decide +kernel
theorem dX10_wind_27 : decode cX10_wind 27 = .ok (.iconst 0, 1) := by decide +kernel
theorem dX10_wind_28 : decode cX10_wind 28 = .ok (.iload_n 1, 1) := by decide +kernel
theorem dX10_wind_29 : decode cX10_wind 29 = .ok (.invokevirtual 170, 3) := by decide +kernel
theorem dX10_wind_32 : decode cX10_wind 32 = .ok (.istore 4, 2) := by decide +kernel
theorem dX10_wind_34 : decode cX10_wind 34 = .ok (.iload 4, 2) := by decide +kernel
theorem dX10_wind_36 : decode cX10_wind 36 = .ok (.ifCond .eq 6, 3) := by decide +kernel
theorem dX10_wind_39 : decode cX10_wind 39 = .ok (.iload 4, 2) := by decide +kernel
theorem dX10_wind_41 : decode cX10_wind 41 = .ok (.ireturn, 1) := by decide +kernel
theorem dX10_wind_42 : decode cX10_wind 42 = .ok (.aload_n 0, 1) := by decide +kernel
theorem dX10_wind_43 : decode cX10_wind 43 = .ok (.getfield 30, 3) := by decide +kernel
theorem dX10_wind_46 : decode cX10_wind 46 = .ok (.iload_n 1, 1) := by decide +kernel
theorem dX10_wind_47 : decode cX10_wind 47 = .ok (.aaload, 1) := by decide +kernel
theorem dX10_wind_48 : decode cX10_wind 48 = .ok (.getfield 201, 3) := by decide +kernel
theorem dX10_wind_51 : decode cX10_wind 51 = .ok (.iload_n 2, 1) := by decide +kernel
theorem dX10_wind_52 : decode cX10_wind 52 = .ok (.putfield 213, 3) := by decide +kernel
theorem dX10_wind_55 : decode cX10_wind 55 = .ok (.aload_n 0, 1) := by decide +kernel
theorem dX10_wind_56 : decode cX10_wind 56 = .ok (.getfield 30, 3) := by decide +kernel
theorem dX10_wind_59 : decode cX10_wind 59 = .ok (.iload_n 1, 1) := by decide +kernel
theorem dX10_wind_60 : decode cX10_wind 60 = .ok (.aaload, 1) := by decide +kernel
theorem dX10_wind_61 : decode cX10_wind 61 = .ok (.getfield 201, 3) := by decide +kernel
theorem dX10_wind_64 : decode cX10_wind 64 = .ok (.iload_n 3, 1) := by decide +kernel
theorem dX10_wind_65 : decode cX10_wind 65 = .ok (.putfield 216, 3) := by decide +kernel
theorem dX10_wind_68 : decode cX10_wind 68 = .ok (.iconst 1, 1) := by decide +kernel
theorem dX10_wind_69 : decode cX10_wind 69 = .ok (.ireturn, 1) := by decide +kernel
noncomputable def f_X10_wind (x1 : Int32) (x2 : Int32) (x3 : Int32) (u0 : qM) : Option (Int32 × qM) :=
  q_bd (f_X10_within x2 (-50) 50 u0) (fun (x4 : Int32) (u1 : qM) => q_jn (fun (x5 : Int32) (u2 : qM) => q_bd (f_X10_boardRefused x5 x1 u2) (fun (x6 : Int32) (u3 : qM) => if x6 = 0 then q_ck (q_in x1 6) (q_lt (q_si u3 3 (Int32.toNatClampNeg x1) 2 x2) (fun (u4 : qM) => q_ck (q_in x1 6) (q_lt (q_si u4 3 (Int32.toNatClampNeg x1) 3 x3) (fun (u5 : qM) => some (1, u5))))) else some (x6, u3))) (fun j1 => q_jn (fun  (u6 : qM) => j1 0 u6) (fun j2 => if x4 = 0 then j2 u1 else q_bd (f_X10_within x3 (-50) 50 u1) (fun (x7 : Int32) (u7 : qM) => if x7 = 0 then j2 u7 else j1 1 u7))))
set_option maxRecDepth 100000 in
set_option maxHeartbeats 4000000 in
theorem k_X10_wind (l : Launch) (G : qG) (x1 : Int32) (x2 : Int32) (x3 : Int32)  (u0 : qM) : qCt l G m_X10_wind q_cI [.ref (q_ad G 0 0), .int x1, .int x2, .int x3] u0 (f_X10_wind x1 x2 x3 u0) := by
  refine q_entry pk_X10_wind (Nat.le_of_ble_eq_true rfl) ?_
  show qAW l G m_X10_wind (q_mq G q_cI) 0 [(0, .ref (q_ad G 0 0)), (1, .int x1), (2, .int x2), (3, .int x3)] [] u0 (f_X10_wind x1 x2 x3 u0)
  unfold f_X10_wind
  refine aw_aload_n (i := 0) dX10_wind_0 1 rfl rfl 0 rfl ?_
  refine aw_iload_n (i := 2) dX10_wind_1 2 rfl rfl 2 rfl ?_
  refine aw_bipush (x := (-50)) dX10_wind_2 4 rfl rfl ?_
  refine aw_bipush (x := 50) dX10_wind_4 6 rfl rfl ?_
  refine aw_callS (M2 := m_X10_within) (cv := q_cI) dX10_wind_6 9 rfl (k_X10_within l G x2 (-50) 50  u0) wd_103 wv_X10_within pk_X10_within rfl ⟨by decide, by decide⟩ ⟨Nat.zero_le _, Nat.zero_le _⟩ rfl (Nat.le_of_ble_eq_true rfl) (fun x4 u1 => ?_)
  show qAW l G m_X10_wind (q_mq G q_cI) 9 [(0, .ref (q_ad G 0 0)), (1, .int x1), (2, .int x2), (3, .int x3)] [.int x4, .ref (q_ad G 0 0)] u1 _
  refine aw_jn (fun k => ∀ (x5 : Int32) (u2 : qM), qAW l G m_X10_wind (q_mq G q_cI) 28 [(0, .ref (q_ad G 0 0)), (1, .int x1), (2, .int x2), (3, .int x3)] [.int x5, .ref (q_ad G 0 0)] u2 (k x5 u2)) ?_ ?_
  · intro x5 u2
    refine aw_iload_n (i := 1) dX10_wind_28 29 rfl rfl 1 rfl ?_
    refine aw_callV (M2 := m_X10_boardRefused) (cv := q_cI) dX10_wind_29 32 rfl (k_X10_boardRefused l G x5 x1  u2) wd_116 wv_X10_boardRefused pk_X10_boardRefused rfl rfl ⟨by decide, by decide⟩ ⟨Nat.zero_le _, Nat.zero_le _⟩ at_0 (ok_0 (by decide)) rfl rfl rfl (Nat.le_of_ble_eq_true rfl) (fun x6 u3 => ?_)
    show qAW l G m_X10_wind (q_mq G q_cI) 32 [(0, .ref (q_ad G 0 0)), (1, .int x1), (2, .int x2), (3, .int x3)] [.int x6] u3 _
    refine aw_istore dX10_wind_32 34 rfl [(4, .int x6), (0, .ref (q_ad G 0 0)), (1, .int x1), (2, .int x2), (3, .int x3)] (by decide) rfl ?_
    refine aw_iload (i := 4) dX10_wind_34 36 rfl 0 rfl ?_
    refine aw_if_eq dX10_wind_36 39 rfl 42 rfl (fun h2 => ?_) (fun h2 => ?_)
    · refine aw_aload_n (i := 0) dX10_wind_42 43 rfl rfl 1 rfl ?_
      refine gf_X10_4 dX10_wind_43 46 rfl wd_107 (ok_0 (by decide)) ?_
      refine aw_iload_n (i := 1) dX10_wind_46 47 rfl rfl 2 rfl ?_
      refine aw_aald dX10_wind_47 48 rfl at_21 (by decide) (by decide) rfl rfl (al_21 _) (ok_21 (by decide)) rfl (fun h3 => ?_)
      refine gfN_X0_5 dX10_wind_48 51 rfl "SeaCells" (ns_39) (ok_2 (Nat.lt_of_lt_of_le (q_in_lt h3) (by decide))) ?_
      refine aw_iload_n (i := 2) dX10_wind_51 52 rfl rfl 3 rfl ?_
      refine pfN_X3_2 dX10_wind_52 55 rfl "SeaCells" (ns_8) (ok_3 (Nat.lt_of_lt_of_le (q_in_lt h3) (by decide))) ?_
      refine aw_ltm (fun u4 => ?_)
      refine aw_aload_n (i := 0) dX10_wind_55 56 rfl rfl 1 rfl ?_
      refine gf_X10_4 dX10_wind_56 59 rfl wd_107 (ok_0 (by decide)) ?_
      refine aw_iload_n (i := 1) dX10_wind_59 60 rfl rfl 2 rfl ?_
      refine aw_aald dX10_wind_60 61 rfl at_21 (by decide) (by decide) rfl rfl (al_21 _) (ok_21 (by decide)) rfl (fun h4 => ?_)
      refine gfN_X0_5 dX10_wind_61 64 rfl "SeaCells" (ns_39) (ok_2 (Nat.lt_of_lt_of_le (q_in_lt h4) (by decide))) ?_
      refine aw_iload_n (i := 3) dX10_wind_64 65 rfl rfl 4 rfl ?_
      refine pfN_X3_3 dX10_wind_65 68 rfl "SeaCells" (ns_10) (ok_3 (Nat.lt_of_lt_of_le (q_in_lt h4) (by decide))) ?_
      refine aw_ltm (fun u5 => ?_)
      refine aw_iconst (x := 1) dX10_wind_68 69 rfl rfl ?_
      exact aw_iret dX10_wind_69 rfl
    · refine aw_iload (i := 4) dX10_wind_39 41 rfl 0 rfl ?_
      exact aw_iret dX10_wind_41 rfl
  · intro j1 hj1
    refine aw_jn (fun k => ∀  (u6 : qM), qAW l G m_X10_wind (q_mq G q_cI) 27 [(0, .ref (q_ad G 0 0)), (1, .int x1), (2, .int x2), (3, .int x3)] [.ref (q_ad G 0 0)] u6 (k u6)) ?_ ?_
    · intro u6
      refine aw_iconst (x := 0) dX10_wind_27 28 rfl rfl ?_
      exact hj1 0 u6
    · intro j2 hj2
      refine aw_if_eq dX10_wind_9 12 rfl 27 rfl (fun h1 => ?_) (fun h1 => ?_)
      · exact hj2 u1
      · refine aw_iload_n (i := 3) dX10_wind_12 13 rfl rfl 3 rfl ?_
        refine aw_bipush (x := (-50)) dX10_wind_13 15 rfl rfl ?_
        refine aw_bipush (x := 50) dX10_wind_15 17 rfl rfl ?_
        refine aw_callS (M2 := m_X10_within) (cv := q_cI) dX10_wind_17 20 rfl (k_X10_within l G x3 (-50) 50  u1) wd_103 wv_X10_within pk_X10_within rfl ⟨by decide, by decide⟩ ⟨Nat.zero_le _, Nat.zero_le _⟩ rfl (Nat.le_of_ble_eq_true rfl) (fun x7 u7 => ?_)
        show qAW l G m_X10_wind (q_mq G q_cI) 20 [(0, .ref (q_ad G 0 0)), (1, .int x1), (2, .int x2), (3, .int x3)] [.int x7, .ref (q_ad G 0 0)] u7 _
        refine aw_if_eq dX10_wind_20 23 rfl 27 rfl (fun h5 => ?_) (fun h5 => ?_)
        · exact hj2 u7
        · refine aw_iconst (x := 1) dX10_wind_23 24 rfl rfl ?_
          refine aw_goto dX10_wind_24 28 rfl ?_
          exact hj1 1 u7
theorem dX10_river_0 : decode cX10_river 0 = .ok (.aload_n 0, 1) := by decide +kernel
theorem dX10_river_1 : decode cX10_river 1 = .ok (.iload_n 3, 1) := by decide +kernel
theorem dX10_river_2 : decode cX10_river 2 = .ok (.iconst 0, 1) := by decide +kernel
theorem dX10_river_3 : decode cX10_river 3 = .ok (.sipush 1000, 3) := by decide +kernel
theorem dX10_river_6 : decode cX10_river 6 = .ok (.invokestatic 101, 3) := by decide +kernel
theorem dX10_river_9 : decode cX10_river 9 = .ok (.iload_n 1, 1) := by decide +kernel
theorem dX10_river_10 : decode cX10_river 10 = .ok (.invokevirtual 170, 3) := by decide +kernel
theorem dX10_river_13 : decode cX10_river 13 = .ok (.istore 4, 2) := by decide +kernel
theorem dX10_river_15 : decode cX10_river 15 = .ok (.iload 4, 2) := by decide +kernel
theorem dX10_river_17 : decode cX10_river 17 = .ok (.ifCond .eq 6, 3) := by decide +kernel
theorem dX10_river_20 : decode cX10_river 20 = .ok (.iload 4, 2) := by decide +kernel
theorem dX10_river_22 : decode cX10_river 22 = .ok (.ireturn, 1) := by decide +kernel
theorem dX10_river_23 : decode cX10_river 23 = .ok (.aload_n 0, 1) := by decide +kernel
theorem dX10_river_24 : decode cX10_river 24 = .ok (.getfield 30, 3) := by decide +kernel
theorem dX10_river_27 : decode cX10_river 27 = .ok (.iload_n 1, 1) := by decide +kernel
theorem dX10_river_28 : decode cX10_river 28 = .ok (.aaload, 1) := by decide +kernel
theorem dX10_river_29 : decode cX10_river 29 = .ok (.getfield 219, 3) := by decide +kernel
theorem dX10_river_32 : decode cX10_river 32 = .ok (.astore 5, 2) := by decide +kernel
theorem dX10_river_34 : decode cX10_river 34 = .ok (.aload 5, 2) := by decide +kernel
theorem dX10_river_36 : decode cX10_river 36 = .ok (.getfield 223, 3) := by decide +kernel
theorem dX10_river_39 : decode cX10_river 39 = .ok (.iconst 4, 1) := by decide +kernel
theorem dX10_river_40 : decode cX10_river 40 = .ok (.if_icmp .lt 6, 3) := by decide +kernel
theorem dX10_river_43 : decode cX10_river 43 = .ok (.bipush (-2), 2) := by decide +kernel
theorem dX10_river_45 : decode cX10_river 45 = .ok (.ireturn, 1) := by decide +kernel
theorem dX10_river_46 : decode cX10_river 46 = .ok (.aload_n 0, 1) := by decide +kernel
theorem dX10_river_47 : decode cX10_river 47 = .ok (.getfield 30, 3) := by decide +kernel
theorem dX10_river_50 : decode cX10_river 50 = .ok (.iload_n 1, 1) := by decide +kernel
theorem dX10_river_51 : decode cX10_river 51 = .ok (.aaload, 1) := by decide +kernel
theorem dX10_river_52 : decode cX10_river 52 = .ok (.iload_n 2, 1) := by decide +kernel
theorem dX10_river_53 : decode cX10_river 53 = .ok (.invokevirtual 228, 3) := by decide +kernel
theorem dX10_river_56 : decode cX10_river 56 = .ok (.ifCond .ne 9, 3) := by decide +kernel
theorem dX10_river_59 : decode cX10_river 59 = .ok (.aload_n 0, 1) := by decide +kernel
theorem dX10_river_60 : decode cX10_river 60 = .ok (.iconst 2, 1) := by decide +kernel
theorem dX10_river_61 : decode cX10_river 61 = .ok (.invokevirtual 91, 3) := by decide +kernel
theorem dX10_river_64 : decode cX10_river 64 = .ok (.ireturn, 1) := by decide +kernel
theorem dX10_river_65 : decode cX10_river 65 = .ok (.aload 5, 2) := by decide +kernel
theorem dX10_river_67 : decode cX10_river 67 = .ok (.getfield 231, 3) := by decide +kernel
theorem dX10_river_70 : decode cX10_river 70 = .ok (.aload 5, 2) := by decide +kernel
theorem dX10_river_72 : decode cX10_river 72 = .ok (.getfield 223, 3) := by decide +kernel
theorem dX10_river_75 : decode cX10_river 75 = .ok (.iload_n 2, 1) := by decide +kernel
theorem dX10_river_76 : decode cX10_river 76 = .ok (.iastore, 1) := by decide +kernel
theorem dX10_river_77 : decode cX10_river 77 = .ok (.aload 5, 2) := by decide +kernel
theorem dX10_river_79 : decode cX10_river 79 = .ok (.getfield 234, 3) := by decide +kernel
theorem dX10_river_82 : decode cX10_river 82 = .ok (.aload 5, 2) := by decide +kernel
theorem dX10_river_84 : decode cX10_river 84 = .ok (.getfield 223, 3) := by decide +kernel
theorem dX10_river_87 : decode cX10_river 87 = .ok (.iload_n 3, 1) := by decide +kernel
theorem dX10_river_88 : decode cX10_river 88 = .ok (.iastore, 1) := by decide +kernel
theorem dX10_river_89 : decode cX10_river 89 = .ok (.aload 5, 2) := by decide +kernel
theorem dX10_river_91 : decode cX10_river 91 = .ok (.dup, 1) := by decide +kernel
theorem dX10_river_92 : decode cX10_river 92 = .ok (.getfield 223, 3) := by decide +kernel
theorem dX10_river_95 : decode cX10_river 95 = .ok (.iconst 1, 1) := by decide +kernel
theorem dX10_river_96 : decode cX10_river 96 = .ok (.iadd, 1) := by decide +kernel
theorem dX10_river_97 : decode cX10_river 97 = .ok (.putfield 223, 3) := by decide +kernel
theorem dX10_river_100 : decode cX10_river 100 = .ok (.aload 5, 2) := by decide +kernel
theorem dX10_river_102 : decode cX10_river 102 = .ok (.getfield 223, 3) := by decide +kernel
theorem dX10_river_105 : decode cX10_river 105 = .ok (.ireturn, 1) := by decide +kernel
noncomputable def f_X10_river (x1 : Int32) (x2 : Int32) (x3 : Int32) (u0 : qM) : Option (Int32 × qM) :=
  q_bd (f_X10_within x3 0 1000 u0) (fun (x4 : Int32) (u1 : qM) => q_bd (f_X10_boardRefused x4 x1 u1) (fun (x5 : Int32) (u2 : qM) => if x5 = 0 then q_ck (q_in x1 6) (if (u2.1 4 (Int32.toNatClampNeg x1) 2) < 4 then q_ck (q_in x1 6) (q_bd (f_X0_hasCell (Int32.toNatClampNeg x1) x2 u2) (fun (x6 : Int32) (u3 : qM) => if x6 = 0 then q_bd (f_X10_found 2 u3) (fun (x7 : Int32) (u7 : qM) => some (x7, u7)) else q_ck (q_in (u3.1 4 (Int32.toNatClampNeg x1) 2) 4) (q_lt (q_si u3 43 (Int32.toNatClampNeg x1) (Int32.toNatClampNeg (u3.1 4 (Int32.toNatClampNeg x1) 2)) x2) (fun (u4 : qM) => q_ck (q_in (u4.1 4 (Int32.toNatClampNeg x1) 2) 4) (q_lt (q_si u4 44 (Int32.toNatClampNeg x1) (Int32.toNatClampNeg (u4.1 4 (Int32.toNatClampNeg x1) 2)) x3) (fun (u5 : qM) => q_lt (q_si u5 4 (Int32.toNatClampNeg x1) 2 ((u5.1 4 (Int32.toNatClampNeg x1) 2) + 1)) (fun (u6 : qM) => some (u6.1 4 (Int32.toNatClampNeg x1) 2, u6)))))))) else some ((-2), u2)) else some (x5, u2)))
set_option maxRecDepth 100000 in
set_option maxHeartbeats 4000000 in
theorem k_X10_river (l : Launch) (G : qG) (x1 : Int32) (x2 : Int32) (x3 : Int32)  (u0 : qM) : qCt l G m_X10_river q_cI [.ref (q_ad G 0 0), .int x1, .int x2, .int x3] u0 (f_X10_river x1 x2 x3 u0) := by
  refine q_entry pk_X10_river (Nat.le_of_ble_eq_true rfl) ?_
  show qAW l G m_X10_river (q_mq G q_cI) 0 [(0, .ref (q_ad G 0 0)), (1, .int x1), (2, .int x2), (3, .int x3)] [] u0 (f_X10_river x1 x2 x3 u0)
  unfold f_X10_river
  refine aw_aload_n (i := 0) dX10_river_0 1 rfl rfl 0 rfl ?_
  refine aw_iload_n (i := 3) dX10_river_1 2 rfl rfl 3 rfl ?_
  refine aw_iconst (x := 0) dX10_river_2 3 rfl rfl ?_
  refine aw_sipush (x := 1000) dX10_river_3 6 rfl rfl ?_
  refine aw_callS (M2 := m_X10_within) (cv := q_cI) dX10_river_6 9 rfl (k_X10_within l G x3 0 1000  u0) wd_103 wv_X10_within pk_X10_within rfl ⟨by decide, by decide⟩ ⟨Nat.zero_le _, Nat.zero_le _⟩ rfl (Nat.le_of_ble_eq_true rfl) (fun x4 u1 => ?_)
  show qAW l G m_X10_river (q_mq G q_cI) 9 [(0, .ref (q_ad G 0 0)), (1, .int x1), (2, .int x2), (3, .int x3)] [.int x4, .ref (q_ad G 0 0)] u1 _
  refine aw_iload_n (i := 1) dX10_river_9 10 rfl rfl 1 rfl ?_
  refine aw_callV (M2 := m_X10_boardRefused) (cv := q_cI) dX10_river_10 13 rfl (k_X10_boardRefused l G x4 x1  u1) wd_116 wv_X10_boardRefused pk_X10_boardRefused rfl rfl ⟨by decide, by decide⟩ ⟨Nat.zero_le _, Nat.zero_le _⟩ at_0 (ok_0 (by decide)) rfl rfl rfl (Nat.le_of_ble_eq_true rfl) (fun x5 u2 => ?_)
  show qAW l G m_X10_river (q_mq G q_cI) 13 [(0, .ref (q_ad G 0 0)), (1, .int x1), (2, .int x2), (3, .int x3)] [.int x5] u2 _
  refine aw_istore dX10_river_13 15 rfl [(4, .int x5), (0, .ref (q_ad G 0 0)), (1, .int x1), (2, .int x2), (3, .int x3)] (by decide) rfl ?_
  refine aw_iload (i := 4) dX10_river_15 17 rfl 0 rfl ?_
  refine aw_if_eq dX10_river_17 20 rfl 23 rfl (fun h1 => ?_) (fun h1 => ?_)
  · refine aw_aload_n (i := 0) dX10_river_23 24 rfl rfl 1 rfl ?_
    refine gf_X10_4 dX10_river_24 27 rfl wd_107 (ok_0 (by decide)) ?_
    refine aw_iload_n (i := 1) dX10_river_27 28 rfl rfl 2 rfl ?_
    refine aw_aald dX10_river_28 29 rfl at_21 (by decide) (by decide) rfl rfl (al_21 _) (ok_21 (by decide)) rfl (fun h2 => ?_)
    refine gfN_X0_6 dX10_river_29 32 rfl "SeaCells" (ns_41) (ok_2 (Nat.lt_of_lt_of_le (q_in_lt h2) (by decide))) ?_
    refine aw_astore dX10_river_32 34 rfl [(5, .ref (q_ad G 4 (Int32.toNatClampNeg x1))), (4, .int x5), (0, .ref (q_ad G 0 0)), (1, .int x1), (2, .int x2), (3, .int x3)] (by decide) rfl ?_
    refine aw_aload (i := 5) dX10_river_34 36 rfl 0 rfl ?_
    refine gfN_X5_2 dX10_river_36 39 rfl "SeaCells" (ns_18) (ok_4 (Nat.lt_of_lt_of_le (q_in_lt h2) (by decide))) ?_
    refine aw_iconst (x := 4) dX10_river_39 40 rfl rfl ?_
    refine aw_icmp_lt dX10_river_40 43 rfl 46 rfl (fun h3 => ?_) (fun h3 => ?_)
    · refine aw_aload_n (i := 0) dX10_river_46 47 rfl rfl 2 rfl ?_
      refine gf_X10_4 dX10_river_47 50 rfl wd_107 (ok_0 (by decide)) ?_
      refine aw_iload_n (i := 1) dX10_river_50 51 rfl rfl 3 rfl ?_
      refine aw_aald dX10_river_51 52 rfl at_21 (by decide) (by decide) rfl rfl (al_21 _) (ok_21 (by decide)) rfl (fun h4 => ?_)
      refine aw_iload_n (i := 2) dX10_river_52 53 rfl rfl 4 rfl ?_
      refine aw_callV (M2 := m_X0_hasCell) (cv := q_cI) dX10_river_53 56 rfl (k_X0_hasCell l G (Int32.toNatClampNeg x1) x2 (Nat.lt_of_lt_of_le (q_in_lt h4) (by decide)) u2) wd_117 wv_X0_hasCell pk_X0_hasCell rfl rfl ⟨by decide, by decide⟩ ⟨Nat.zero_le _, Nat.zero_le _⟩ at_2 (ok_2 (Nat.lt_of_lt_of_le (q_in_lt h4) (by decide))) rfl rfl rfl (Nat.le_of_ble_eq_true rfl) (fun x6 u3 => ?_)
      show qAW l G m_X10_river (q_mq G q_cI) 56 [(5, .ref (q_ad G 4 (Int32.toNatClampNeg x1))), (4, .int x5), (0, .ref (q_ad G 0 0)), (1, .int x1), (2, .int x2), (3, .int x3)] [.int x6] u3 _
      refine aw_if_ne dX10_river_56 59 rfl 65 rfl (fun h5 => ?_) (fun h5 => ?_)
      · refine aw_aload (i := 5) dX10_river_65 67 rfl 0 rfl ?_
        refine gfN_X5_0 dX10_river_67 70 rfl "SeaCells" (ns_13) (ok_4 (Nat.lt_of_lt_of_le (q_in_lt h2) (by decide))) ?_
        refine aw_aload (i := 5) dX10_river_70 72 rfl 0 rfl ?_
        refine gfN_X5_2 dX10_river_72 75 rfl "SeaCells" (ns_18) (ok_4 (Nat.lt_of_lt_of_le (q_in_lt h2) (by decide))) ?_
        refine aw_iload_n (i := 2) dX10_river_75 76 rfl rfl 4 rfl ?_
        refine aw_iast dX10_river_76 77 rfl at_43 (al_43 _) (ok_43 (Nat.lt_of_lt_of_le (q_in_lt h2) (by decide))) (fun h6 => ?_)
        refine aw_ltm (fun u4 => ?_)
        refine aw_aload (i := 5) dX10_river_77 79 rfl 0 rfl ?_
        refine gfN_X5_1 dX10_river_79 82 rfl "SeaCells" (ns_15) (ok_4 (Nat.lt_of_lt_of_le (q_in_lt h2) (by decide))) ?_
        refine aw_aload (i := 5) dX10_river_82 84 rfl 0 rfl ?_
        refine gfN_X5_2 dX10_river_84 87 rfl "SeaCells" (ns_18) (ok_4 (Nat.lt_of_lt_of_le (q_in_lt h2) (by decide))) ?_
        refine aw_iload_n (i := 3) dX10_river_87 88 rfl rfl 5 rfl ?_
        refine aw_iast dX10_river_88 89 rfl at_44 (al_44 _) (ok_44 (Nat.lt_of_lt_of_le (q_in_lt h2) (by decide))) (fun h7 => ?_)
        refine aw_ltm (fun u5 => ?_)
        refine aw_aload (i := 5) dX10_river_89 91 rfl 0 rfl ?_
        refine aw_dup dX10_river_91 92 rfl rfl ?_
        refine gfN_X5_2 dX10_river_92 95 rfl "SeaCells" (ns_18) (ok_4 (Nat.lt_of_lt_of_le (q_in_lt h2) (by decide))) ?_
        refine aw_iconst (x := 1) dX10_river_95 96 rfl rfl ?_
        refine aw_iadd dX10_river_96 97 rfl ?_
        refine pfN_X5_2 dX10_river_97 100 rfl "SeaCells" (ns_18) (ok_4 (Nat.lt_of_lt_of_le (q_in_lt h2) (by decide))) ?_
        refine aw_ltm (fun u6 => ?_)
        refine aw_aload (i := 5) dX10_river_100 102 rfl 0 rfl ?_
        refine gfN_X5_2 dX10_river_102 105 rfl "SeaCells" (ns_18) (ok_4 (Nat.lt_of_lt_of_le (q_in_lt h2) (by decide))) ?_
        exact aw_iret dX10_river_105 rfl
      · refine aw_aload_n (i := 0) dX10_river_59 60 rfl rfl 2 rfl ?_
        refine aw_iconst (x := 2) dX10_river_60 61 rfl rfl ?_
        refine aw_callV (M2 := m_X10_found) (cv := q_cI) dX10_river_61 64 rfl (k_X10_found l G 2  u3) wd_100 wv_X10_found pk_X10_found rfl rfl ⟨by decide, by decide⟩ ⟨Nat.zero_le _, Nat.zero_le _⟩ at_0 (ok_0 (by decide)) rfl rfl rfl (Nat.le_of_ble_eq_true rfl) (fun x7 u7 => ?_)
        show qAW l G m_X10_river (q_mq G q_cI) 64 [(5, .ref (q_ad G 4 (Int32.toNatClampNeg x1))), (4, .int x5), (0, .ref (q_ad G 0 0)), (1, .int x1), (2, .int x2), (3, .int x3)] [.int x7] u7 _
        exact aw_iret dX10_river_64 rfl
    · refine aw_bipush (x := (-2)) dX10_river_43 45 rfl rfl ?_
      exact aw_iret dX10_river_45 rfl
  · refine aw_iload (i := 4) dX10_river_20 22 rfl 0 rfl ?_
    exact aw_iret dX10_river_22 rfl
theorem dX10_tide_0 : decode cX10_tide 0 = .ok (.aload_n 0, 1) := by decide +kernel
theorem dX10_tide_1 : decode cX10_tide 1 = .ok (.aload_n 0, 1) := by decide +kernel
theorem dX10_tide_2 : decode cX10_tide 2 = .ok (.getfield 14, 3) := by decide +kernel
theorem dX10_tide_5 : decode cX10_tide 5 = .ok (.iload_n 2, 1) := by decide +kernel
theorem dX10_tide_6 : decode cX10_tide 6 = .ok (.invokevirtual 87, 3) := by decide +kernel
theorem dX10_tide_9 : decode cX10_tide 9 = .ok (.ifCond .eq 20, 3) := by decide +kernel
theorem dX10_tide_12 : decode cX10_tide 12 = .ok (.iload_n 3, 1) := by decide +kernel
theorem dX10_tide_13 : decode cX10_tide 13 = .ok (.sipush (-500), 3) := by decide +kernel
theorem dX10_tide_16 : decode cX10_tide 16 = .ok (.sipush 500, 3) := by decide +kernel
theorem dX10_tide_19 : decode cX10_tide 19 = .ok (.invokestatic 101, 3) := by decide +kernel
theorem dX10_tide_22 : decode cX10_tide 22 = .ok (.ifCond .eq 7, 3) := by decide +kernel
theorem dX10_tide_25 : decode cX10_tide 25 = .ok (.iconst 1, 1) := by decide +kernel
theorem dX10_tide_26 : decode cX10_tide 26 = .ok (.goto 4, 3) := by decide +kernel
theorem dX10_tide_29 : decode cX10_tide 29 = .ok (.iconst 0, 1) := by decide +kernel
theorem dX10_tide_30 : decode cX10_tide 30 = .ok (.iload_n 1, 1) := by decide +kernel
theorem dX10_tide_31 : decode cX10_tide 31 = .ok (.invokevirtual 170, 3) := by decide +kernel
theorem dX10_tide_34 : decode cX10_tide 34 = .ok (.istore 4, 2) := by decide +kernel
theorem dX10_tide_36 : decode cX10_tide 36 = .ok (.iload 4, 2) := by decide +kernel
theorem dX10_tide_38 : decode cX10_tide 38 = .ok (.ifCond .eq 6, 3) := by decide +kernel
theorem dX10_tide_41 : decode cX10_tide 41 = .ok (.iload 4, 2) := by decide +kernel
theorem dX10_tide_43 : decode cX10_tide 43 = .ok (.ireturn, 1) := by decide +kernel
theorem dX10_tide_44 : decode cX10_tide 44 = .ok (.aload_n 0, 1) := by decide +kernel
theorem dX10_tide_45 : decode cX10_tide 45 = .ok (.getfield 30, 3) := by decide +kernel
theorem dX10_tide_48 : decode cX10_tide 48 = .ok (.iload_n 1, 1) := by decide +kernel
theorem dX10_tide_49 : decode cX10_tide 49 = .ok (.aaload, 1) := by decide +kernel
theorem dX10_tide_50 : decode cX10_tide 50 = .ok (.invokevirtual 237, 3) := by decide +kernel
theorem dX10_tide_53 : decode cX10_tide 53 = .ok (.ifCond .ne 9, 3) := by decide +kernel
theorem dX10_tide_56 : decode cX10_tide 56 = .ok (.aload_n 0, 1) := by decide +kernel
theorem dX10_tide_57 : decode cX10_tide 57 = .ok (.iconst 3, 1) := by decide +kernel
theorem dX10_tide_58 : decode cX10_tide 58 = .ok (.invokevirtual 91, 3) := by decide +kernel
theorem dX10_tide_61 : decode cX10_tide 61 = .ok (.ireturn, 1) := by decide +kernel
theorem dX10_tide_62 : decode cX10_tide 62 = .ok (.aload_n 0, 1) := by decide +kernel
theorem dX10_tide_63 : decode cX10_tide 63 = .ok (.getfield 30, 3) := by decide +kernel
theorem dX10_tide_66 : decode cX10_tide 66 = .ok (.iload_n 1, 1) := by decide +kernel
theorem dX10_tide_67 : decode cX10_tide 67 = .ok (.aaload, 1) := by decide +kernel
theorem dX10_tide_68 : decode cX10_tide 68 = .ok (.iload_n 2, 1) := by decide +kernel
theorem dX10_tide_69 : decode cX10_tide 69 = .ok (.putfield 240, 3) := by decide +kernel
theorem dX10_tide_72 : decode cX10_tide 72 = .ok (.aload_n 0, 1) := by decide +kernel
theorem dX10_tide_73 : decode cX10_tide 73 = .ok (.getfield 30, 3) := by decide +kernel
theorem dX10_tide_76 : decode cX10_tide 76 = .ok (.iload_n 1, 1) := by decide +kernel
theorem dX10_tide_77 : decode cX10_tide 77 = .ok (.aaload, 1) := by decide +kernel
theorem dX10_tide_78 : decode cX10_tide 78 = .ok (.iload_n 3, 1) := by decide +kernel
theorem dX10_tide_79 : decode cX10_tide 79 = .ok (.putfield 243, 3) := by decide +kernel
theorem dX10_tide_82 : decode cX10_tide 82 = .ok (.iconst 1, 1) := by decide +kernel
theorem dX10_tide_83 : decode cX10_tide 83 = .ok (.ireturn, 1) := by decide +kernel
noncomputable def f_X10_tide (x1 : Int32) (x2 : Int32) (x3 : Int32) (u0 : qM) : Option (Int32 × qM) :=
  q_bd (f_X7_isNumber 0 x2 u0) (fun (x4 : Int32) (u1 : qM) => q_jn (fun (x5 : Int32) (u2 : qM) => q_bd (f_X10_boardRefused x5 x1 u2) (fun (x6 : Int32) (u3 : qM) => if x6 = 0 then q_ck (q_in x1 6) (q_bd (f_X0_isTidal (Int32.toNatClampNeg x1) u3) (fun (x7 : Int32) (u4 : qM) => if x7 = 0 then q_bd (f_X10_found 3 u4) (fun (x8 : Int32) (u7 : qM) => some (x8, u7)) else q_ck (q_in x1 6) (q_lt (q_si u4 2 (Int32.toNatClampNeg x1) 17 x2) (fun (u5 : qM) => q_ck (q_in x1 6) (q_lt (q_si u5 2 (Int32.toNatClampNeg x1) 18 x3) (fun (u6 : qM) => some (1, u6))))))) else some (x6, u3))) (fun j1 => q_jn (fun  (u8 : qM) => j1 0 u8) (fun j2 => if x4 = 0 then j2 u1 else q_bd (f_X10_within x3 (-500) 500 u1) (fun (x9 : Int32) (u9 : qM) => if x9 = 0 then j2 u9 else j1 1 u9))))
set_option maxRecDepth 100000 in
set_option maxHeartbeats 4000000 in
theorem k_X10_tide (l : Launch) (G : qG) (x1 : Int32) (x2 : Int32) (x3 : Int32)  (u0 : qM) : qCt l G m_X10_tide q_cI [.ref (q_ad G 0 0), .int x1, .int x2, .int x3] u0 (f_X10_tide x1 x2 x3 u0) := by
  refine q_entry pk_X10_tide (Nat.le_of_ble_eq_true rfl) ?_
  show qAW l G m_X10_tide (q_mq G q_cI) 0 [(0, .ref (q_ad G 0 0)), (1, .int x1), (2, .int x2), (3, .int x3)] [] u0 (f_X10_tide x1 x2 x3 u0)
  unfold f_X10_tide
  refine aw_aload_n (i := 0) dX10_tide_0 1 rfl rfl 0 rfl ?_
  refine aw_aload_n (i := 0) dX10_tide_1 2 rfl rfl 0 rfl ?_
  refine gf_X10_0 dX10_tide_2 5 rfl wd_97 (ok_0 (by decide)) ?_
  refine aw_iload_n (i := 2) dX10_tide_5 6 rfl rfl 2 rfl ?_
  refine aw_callV (M2 := m_X7_isNumber) (cv := q_cI) dX10_tide_6 9 rfl (k_X7_isNumber l G 0 x2 (by decide) u0) wd_98 wv_X7_isNumber pk_X7_isNumber rfl rfl ⟨by decide, by decide⟩ ⟨Nat.zero_le _, Nat.zero_le _⟩ at_1 (ok_1 (by decide)) rfl rfl rfl (Nat.le_of_ble_eq_true rfl) (fun x4 u1 => ?_)
  show qAW l G m_X10_tide (q_mq G q_cI) 9 [(0, .ref (q_ad G 0 0)), (1, .int x1), (2, .int x2), (3, .int x3)] [.int x4, .ref (q_ad G 0 0)] u1 _
  refine aw_jn (fun k => ∀ (x5 : Int32) (u2 : qM), qAW l G m_X10_tide (q_mq G q_cI) 30 [(0, .ref (q_ad G 0 0)), (1, .int x1), (2, .int x2), (3, .int x3)] [.int x5, .ref (q_ad G 0 0)] u2 (k x5 u2)) ?_ ?_
  · intro x5 u2
    refine aw_iload_n (i := 1) dX10_tide_30 31 rfl rfl 1 rfl ?_
    refine aw_callV (M2 := m_X10_boardRefused) (cv := q_cI) dX10_tide_31 34 rfl (k_X10_boardRefused l G x5 x1  u2) wd_116 wv_X10_boardRefused pk_X10_boardRefused rfl rfl ⟨by decide, by decide⟩ ⟨Nat.zero_le _, Nat.zero_le _⟩ at_0 (ok_0 (by decide)) rfl rfl rfl (Nat.le_of_ble_eq_true rfl) (fun x6 u3 => ?_)
    show qAW l G m_X10_tide (q_mq G q_cI) 34 [(0, .ref (q_ad G 0 0)), (1, .int x1), (2, .int x2), (3, .int x3)] [.int x6] u3 _
    refine aw_istore dX10_tide_34 36 rfl [(4, .int x6), (0, .ref (q_ad G 0 0)), (1, .int x1), (2, .int x2), (3, .int x3)] (by decide) rfl ?_
    refine aw_iload (i := 4) dX10_tide_36 38 rfl 0 rfl ?_
    refine aw_if_eq dX10_tide_38 41 rfl 44 rfl (fun h2 => ?_) (fun h2 => ?_)
    · refine aw_aload_n (i := 0) dX10_tide_44 45 rfl rfl 1 rfl ?_
      refine gf_X10_4 dX10_tide_45 48 rfl wd_107 (ok_0 (by decide)) ?_
      refine aw_iload_n (i := 1) dX10_tide_48 49 rfl rfl 2 rfl ?_
      refine aw_aald dX10_tide_49 50 rfl at_21 (by decide) (by decide) rfl rfl (al_21 _) (ok_21 (by decide)) rfl (fun h3 => ?_)
      refine aw_callV (M2 := m_X0_isTidal) (cv := q_cI) dX10_tide_50 53 rfl (k_X0_isTidal l G (Int32.toNatClampNeg x1) (Nat.lt_of_lt_of_le (q_in_lt h3) (by decide)) u3) wd_122 wv_X0_isTidal pk_X0_isTidal rfl rfl ⟨by decide, by decide⟩ ⟨Nat.zero_le _, Nat.zero_le _⟩ at_2 (ok_2 (Nat.lt_of_lt_of_le (q_in_lt h3) (by decide))) rfl rfl rfl (Nat.le_of_ble_eq_true rfl) (fun x7 u4 => ?_)
      show qAW l G m_X10_tide (q_mq G q_cI) 53 [(4, .int x6), (0, .ref (q_ad G 0 0)), (1, .int x1), (2, .int x2), (3, .int x3)] [.int x7] u4 _
      refine aw_if_ne dX10_tide_53 56 rfl 62 rfl (fun h4 => ?_) (fun h4 => ?_)
      · refine aw_aload_n (i := 0) dX10_tide_62 63 rfl rfl 1 rfl ?_
        refine gf_X10_4 dX10_tide_63 66 rfl wd_107 (ok_0 (by decide)) ?_
        refine aw_iload_n (i := 1) dX10_tide_66 67 rfl rfl 2 rfl ?_
        refine aw_aald dX10_tide_67 68 rfl at_21 (by decide) (by decide) rfl rfl (al_21 _) (ok_21 (by decide)) rfl (fun h5 => ?_)
        refine aw_iload_n (i := 2) dX10_tide_68 69 rfl rfl 3 rfl ?_
        refine pfN_X0_17 dX10_tide_69 72 rfl "SeaCells" (ns_53) (ok_2 (Nat.lt_of_lt_of_le (q_in_lt h5) (by decide))) ?_
        refine aw_ltm (fun u5 => ?_)
        refine aw_aload_n (i := 0) dX10_tide_72 73 rfl rfl 1 rfl ?_
        refine gf_X10_4 dX10_tide_73 76 rfl wd_107 (ok_0 (by decide)) ?_
        refine aw_iload_n (i := 1) dX10_tide_76 77 rfl rfl 2 rfl ?_
        refine aw_aald dX10_tide_77 78 rfl at_21 (by decide) (by decide) rfl rfl (al_21 _) (ok_21 (by decide)) rfl (fun h6 => ?_)
        refine aw_iload_n (i := 3) dX10_tide_78 79 rfl rfl 4 rfl ?_
        refine pfN_X0_18 dX10_tide_79 82 rfl "SeaCells" (ns_54) (ok_2 (Nat.lt_of_lt_of_le (q_in_lt h6) (by decide))) ?_
        refine aw_ltm (fun u6 => ?_)
        refine aw_iconst (x := 1) dX10_tide_82 83 rfl rfl ?_
        exact aw_iret dX10_tide_83 rfl
      · refine aw_aload_n (i := 0) dX10_tide_56 57 rfl rfl 1 rfl ?_
        refine aw_iconst (x := 3) dX10_tide_57 58 rfl rfl ?_
        refine aw_callV (M2 := m_X10_found) (cv := q_cI) dX10_tide_58 61 rfl (k_X10_found l G 3  u4) wd_100 wv_X10_found pk_X10_found rfl rfl ⟨by decide, by decide⟩ ⟨Nat.zero_le _, Nat.zero_le _⟩ at_0 (ok_0 (by decide)) rfl rfl rfl (Nat.le_of_ble_eq_true rfl) (fun x8 u7 => ?_)
        show qAW l G m_X10_tide (q_mq G q_cI) 61 [(4, .int x6), (0, .ref (q_ad G 0 0)), (1, .int x1), (2, .int x2), (3, .int x3)] [.int x8] u7 _
        exact aw_iret dX10_tide_61 rfl
    · refine aw_iload (i := 4) dX10_tide_41 43 rfl 0 rfl ?_
      exact aw_iret dX10_tide_43 rfl
  · intro j1 hj1
    refine aw_jn (fun k => ∀  (u8 : qM), qAW l G m_X10_tide (q_mq G q_cI) 29 [(0, .ref (q_ad G 0 0)), (1, .int x1), (2, .int x2), (3, .int x3)] [.ref (q_ad G 0 0)] u8 (k u8)) ?_ ?_
    · intro u8
      refine aw_iconst (x := 0) dX10_tide_29 30 rfl rfl ?_
      exact hj1 0 u8
    · intro j2 hj2
      refine aw_if_eq dX10_tide_9 12 rfl 29 rfl (fun h1 => ?_) (fun h1 => ?_)
      · exact hj2 u1
      · refine aw_iload_n (i := 3) dX10_tide_12 13 rfl rfl 3 rfl ?_
        refine aw_sipush (x := (-500)) dX10_tide_13 16 rfl rfl ?_
        refine aw_sipush (x := 500) dX10_tide_16 19 rfl rfl ?_
        refine aw_callS (M2 := m_X10_within) (cv := q_cI) dX10_tide_19 22 rfl (k_X10_within l G x3 (-500) 500  u1) wd_103 wv_X10_within pk_X10_within rfl ⟨by decide, by decide⟩ ⟨Nat.zero_le _, Nat.zero_le _⟩ rfl (Nat.le_of_ble_eq_true rfl) (fun x9 u9 => ?_)
        show qAW l G m_X10_tide (q_mq G q_cI) 22 [(0, .ref (q_ad G 0 0)), (1, .int x1), (2, .int x2), (3, .int x3)] [.int x9, .ref (q_ad G 0 0)] u9 _
        refine aw_if_eq dX10_tide_22 25 rfl 29 rfl (fun h7 => ?_) (fun h7 => ?_)
        · exact hj2 u9
        · refine aw_iconst (x := 1) dX10_tide_25 26 rfl rfl ?_
          refine aw_goto dX10_tide_26 30 rfl ?_
          exact hj1 1 u9
theorem dX10_stepWhole_0 : decode cX10_stepWhole 0 = .ok (.aload_n 0, 1) := by decide +kernel
theorem dX10_stepWhole_1 : decode cX10_stepWhole 1 = .ok (.getfield 30, 3) := by decide +kernel
theorem dX10_stepWhole_4 : decode cX10_stepWhole 4 = .ok (.iload_n 1, 1) := by decide +kernel
theorem dX10_stepWhole_5 : decode cX10_stepWhole 5 = .ok (.aaload, 1) := by decide +kernel
theorem dX10_stepWhole_6 : decode cX10_stepWhole 6 = .ok (.astore_n 2, 1) := by decide +kernel
theorem dX10_stepWhole_7 : decode cX10_stepWhole 7 = .ok (.aload_n 0, 1) := by decide +kernel
theorem dX10_stepWhole_8 : decode cX10_stepWhole 8 = .ok (.getfield 42, 3) := by decide +kernel
theorem dX10_stepWhole_11 : decode cX10_stepWhole 11 = .ok (.aload_n 2, 1) := by decide +kernel
theorem dX10_stepWhole_12 : decode cX10_stepWhole 12 = .ok (.aload_n 0, 1) := by decide +kernel
theorem dX10_stepWhole_13 : decode cX10_stepWhole 13 = .ok (.getfield 14, 3) := by decide +kernel
theorem dX10_stepWhole_16 : decode cX10_stepWhole 16 = .ok (.invokevirtual 295, 3) := by decide +kernel
theorem dX10_stepWhole_19 : decode cX10_stepWhole 19 = .ok (.ifCond .ne 5, 3) := by decide +kernel
theorem dX10_stepWhole_22 : decode cX10_stepWhole 22 = .ok (.iconst 0, 1) := by decide +kernel
theorem dX10_stepWhole_23 : decode cX10_stepWhole 23 = .ok (.ireturn, 1) := by decide +kernel
theorem dX10_stepWhole_24 : decode cX10_stepWhole 24 = .ok (.iconst 0, 1) := by decide +kernel
theorem dX10_stepWhole_25 : decode cX10_stepWhole 25 = .ok (.istore_n 3, 1) := by decide +kernel
theorem dX10_stepWhole_26 : decode cX10_stepWhole 26 = .ok (.iload_n 3, 1) := by decide +kernel
theorem dX10_stepWhole_27 : decode cX10_stepWhole 27 = .ok (.bipush 8, 2) := by decide +kernel
theorem dX10_stepWhole_29 : decode cX10_stepWhole 29 = .ok (.if_icmp .ge 32, 3) := by decide +kernel
theorem dX10_stepWhole_32 : decode cX10_stepWhole 32 = .ok (.aload_n 0, 1) := by decide +kernel
theorem dX10_stepWhole_33 : decode cX10_stepWhole 33 = .ok (.getfield 55, 3) := by decide +kernel
theorem dX10_stepWhole_36 : decode cX10_stepWhole 36 = .ok (.iload_n 3, 1) := by decide +kernel
theorem dX10_stepWhole_37 : decode cX10_stepWhole 37 = .ok (.aaload, 1) := by decide +kernel
theorem dX10_stepWhole_38 : decode cX10_stepWhole 38 = .ok (.getfield 285, 3) := by decide +kernel
theorem dX10_stepWhole_41 : decode cX10_stepWhole 41 = .ok (.iload_n 1, 1) := by decide +kernel
theorem dX10_stepWhole_42 : decode cX10_stepWhole 42 = .ok (.if_icmp .ne 13, 3) := by decide +kernel
theorem dX10_stepWhole_45 : decode cX10_stepWhole 45 = .ok (.aload_n 0, 1) := by decide +kernel
theorem dX10_stepWhole_46 : decode cX10_stepWhole 46 = .ok (.getfield 55, 3) := by decide +kernel
theorem dX10_stepWhole_49 : decode cX10_stepWhole 49 = .ok (.iload_n 3, 1) := by decide +kernel
theorem dX10_stepWhole_50 : decode cX10_stepWhole 50 = .ok (.aaload, 1) := by decide +kernel
theorem dX10_stepWhole_51 : decode cX10_stepWhole 51 = .ok (.aload_n 2, 1) := by decide +kernel
theorem dX10_stepWhole_52 : decode cX10_stepWhole 52 = .ok (.invokevirtual 299, 3) := by decide +kernel
theorem dX10_stepWhole_55 : decode cX10_stepWhole 55 = .ok (.iinc 3 1, 3) := by decide +kernel
theorem dX10_stepWhole_58 : decode cX10_stepWhole 58 = .ok (.goto (-32), 3) := by decide +kernel
theorem dX10_stepWhole_61 : decode cX10_stepWhole 61 = .ok (.iconst 0, 1) := by decide +kernel
theorem dX10_stepWhole_62 : decode cX10_stepWhole 62 = .ok (.istore_n 3, 1) := by decide +kernel
theorem dX10_stepWhole_63 : decode cX10_stepWhole 63 = .ok (.iload_n 3, 1) := by decide +kernel
theorem dX10_stepWhole_64 : decode cX10_stepWhole 64 = .ok (.bipush 8, 2) := by decide +kernel
theorem dX10_stepWhole_66 : decode cX10_stepWhole 66 = .ok (.if_icmp .ge 44, 3) := by decide +kernel
theorem dX10_stepWhole_69 : decode cX10_stepWhole 69 = .ok (.aload_n 0, 1) := by decide +kernel
theorem dX10_stepWhole_70 : decode cX10_stepWhole 70 = .ok (.getfield 61, 3) := by decide +kernel
theorem dX10_stepWhole_73 : decode cX10_stepWhole 73 = .ok (.iload_n 3, 1) := by decide +kernel
theorem dX10_stepWhole_74 : decode cX10_stepWhole 74 = .ok (.aaload, 1) := by decide +kernel
theorem dX10_stepWhole_75 : decode cX10_stepWhole 75 = .ok (.getfield 293, 3) := by decide +kernel
theorem dX10_stepWhole_78 : decode cX10_stepWhole 78 = .ok (.iload_n 1, 1) := by decide +kernel
theorem dX10_stepWhole_79 : decode cX10_stepWhole 79 = .ok (.if_icmp .ne 25, 3) := by decide +kernel
theorem dX10_stepWhole_82 : decode cX10_stepWhole 82 = .ok (.aload_n 0, 1) := by decide +kernel
theorem dX10_stepWhole_83 : decode cX10_stepWhole 83 = .ok (.getfield 61, 3) := by decide +kernel
theorem dX10_stepWhole_86 : decode cX10_stepWhole 86 = .ok (.iload_n 3, 1) := by decide +kernel
theorem dX10_stepWhole_87 : decode cX10_stepWhole 87 = .ok (.aaload, 1) := by decide +kernel
theorem dX10_stepWhole_88 : decode cX10_stepWhole 88 = .ok (.aload_n 2, 1) := by decide +kernel
theorem dX10_stepWhole_89 : decode cX10_stepWhole 89 = .ok (.aload_n 0, 1) := by decide +kernel
theorem dX10_stepWhole_90 : decode cX10_stepWhole 90 = .ok (.getfield 61, 3) := by decide +kernel
theorem dX10_stepWhole_93 : decode cX10_stepWhole 93 = .ok (.iload_n 3, 1) := by decide +kernel
theorem dX10_stepWhole_94 : decode cX10_stepWhole 94 = .ok (.aaload, 1) := by decide +kernel
theorem dX10_stepWhole_95 : decode cX10_stepWhole 95 = .ok (.getfield 294, 3) := by decide +kernel
theorem dX10_stepWhole_98 : decode cX10_stepWhole 98 = .ok (.invokevirtual 187, 3) := by decide +kernel
theorem dX10_stepWhole_101 : decode cX10_stepWhole 101 = .ok (.invokevirtual 302, 3) := by decide +kernel
theorem dX10_stepWhole_104 : decode cX10_stepWhole 104 = .ok (.iinc 3 1, 3) := by decide +kernel
theorem dX10_stepWhole_107 : decode cX10_stepWhole 107 = .ok (.goto (-44), 3) := by decide +kernel
theorem dX10_stepWhole_110 : decode cX10_stepWhole 110 = .ok (.iconst 1, 1) := by decide +kernel
theorem dX10_stepWhole_111 : decode cX10_stepWhole 111 = .ok (.ireturn, 1) := by decide +kernel
noncomputable def L_X10_stepWhole_26 (x1 : Int32) : Nat → Int32 → qM → (qM → Option (Int32 × qM)) → Option (Int32 × qM)
  | 0, _, _, _ => none
  | n + 1, x3, u2, e1 => if 8 ≤ x3 then e1 u2 else q_ck (q_in x3 8) (q_jn (fun  (u3 : qM) => q_lt (x3 + 1) (fun (x4 : Int32) => L_X10_stepWhole_26 x1 n x4 u3 e1)) (fun j1 => if (u2.1 8 (Int32.toNatClampNeg x3) 0) = x1 then q_ck (q_in x3 8) (q_bd (f_X1_drift (Int32.toNatClampNeg x3) (Int32.toNatClampNeg x1) u2) (fun (_z : Unit) (u4 : qM) => j1 u4)) else j1 u2))
noncomputable def L_X10_stepWhole_63 (x1 : Int32) : Nat → Int32 → qM → (qM → Option (Int32 × qM)) → Option (Int32 × qM)
  | 0, _, _, _ => none
  | n + 1, x5, u6, e1 => if 8 ≤ x5 then e1 u6 else q_ck (q_in x5 8) (q_jn (fun  (u7 : qM) => q_lt (x5 + 1) (fun (x6 : Int32) => L_X10_stepWhole_63 x1 n x6 u7 e1)) (fun j2 => if (u6.1 9 (Int32.toNatClampNeg x5) 2) = x1 then q_ck (q_in x5 8) (q_ck (q_in x5 8) (q_bd (f_X0_level (Int32.toNatClampNeg x1) (u6.1 9 (Int32.toNatClampNeg x5) 3) u6) (fun (x7 : Int32) (u8 : qM) => q_bd (f_X2_read (Int32.toNatClampNeg x5) x7 u8) (fun (_z : Unit) (u9 : qM) => j2 u9)))) else j2 u6))
noncomputable def f_X10_stepWhole (x1 : Int32) (u0 : qM) : Option (Int32 × qM) :=
  q_ck (q_in x1 6) (q_bd (f_X8_advance (Int32.toNatClampNeg x1) u0) (fun (x2 : Int32) (u1 : qM) => if x2 = 0 then some (0, u1) else L_X10_stepWhole_26 x1 q_fu 0 u1 (fun u5 => L_X10_stepWhole_63 x1 q_fu 0 u5 (fun u10 => some (1, u10)))))
set_option maxRecDepth 100000 in
set_option maxHeartbeats 4000000 in
theorem TL_X10_stepWhole_26 (l : Launch) (G : qG) (x1 : Int32) (q1 : (Int32.toNatClampNeg x1) < 7) (e1 : qM → Option (Int32 × qM)) (he1 : ∀  (v : qM), qAW l G m_X10_stepWhole (q_mq G q_cI) 61 [(0, .ref (q_ad G 0 0)), (1, .int x1), (2, .ref (q_ad G 2 (Int32.toNatClampNeg x1)))] [] v (e1 v)) : ∀ (n : Nat) (x3 : Int32) (u2 : qM), qAW l G m_X10_stepWhole (q_mq G q_cI) 26 [(0, .ref (q_ad G 0 0)), (1, .int x1), (2, .ref (q_ad G 2 (Int32.toNatClampNeg x1))), (3, .int x3)] [] u2 (L_X10_stepWhole_26 x1 n x3 u2 e1) := by
  intro n
  induction n with
  | zero => intros; exact aw_none
  | succ n ih =>
    intro x3 u2
    unfold L_X10_stepWhole_26
    refine aw_iload_n (i := 3) dX10_stepWhole_26 27 rfl rfl 3 rfl ?_
    refine aw_bipush (x := 8) dX10_stepWhole_27 29 rfl rfl ?_
    refine aw_icmp_ge dX10_stepWhole_29 32 rfl 61 rfl (fun h3 => ?_) (fun h3 => ?_)
    · exact aw_conv [0, 1, 2] rfl (he1 u2)
    · refine aw_aload_n (i := 0) dX10_stepWhole_32 33 rfl rfl 0 rfl ?_
      refine gf_X10_8 dX10_stepWhole_33 36 rfl wd_109 (ok_0 (by decide)) ?_
      refine aw_iload_n (i := 3) dX10_stepWhole_36 37 rfl rfl 3 rfl ?_
      refine aw_aald dX10_stepWhole_37 38 rfl at_22 (by decide) (by decide) rfl rfl (al_22 _) (ok_22 (by decide)) rfl (fun h4 => ?_)
      refine gfN_X1_0 dX10_stepWhole_38 41 rfl "SeaCells" (ns_55) (ok_8 (q_in_lt h4)) ?_
      refine aw_iload_n (i := 1) dX10_stepWhole_41 42 rfl rfl 1 rfl ?_
      refine aw_jn (fun k => ∀  (u3 : qM), qAW l G m_X10_stepWhole (q_mq G q_cI) 55 [(0, .ref (q_ad G 0 0)), (1, .int x1), (2, .ref (q_ad G 2 (Int32.toNatClampNeg x1))), (3, .int x3)] [] u3 (k u3)) ?_ ?_
      · intro u3
        refine aw_iincx (i := 3) dX10_stepWhole_55 58 rfl 3 rfl 1 rfl (fun x4 => [(3, .int x4), (0, .ref (q_ad G 0 0)), (1, .int x1), (2, .ref (q_ad G 2 (Int32.toNatClampNeg x1)))]) (by decide) (fun _ => rfl) (fun x4 => ?_)
        refine aw_goto dX10_stepWhole_58 26 rfl ?_
        exact aw_conv [1, 2, 3, 0] rfl (ih x4 u3)
      · intro j1 hj1
        refine aw_icmp_ne dX10_stepWhole_42 45 rfl 55 rfl (fun h5 => ?_) (fun h5 => ?_)
        · exact hj1 u2
        · refine aw_aload_n (i := 0) dX10_stepWhole_45 46 rfl rfl 0 rfl ?_
          refine gf_X10_8 dX10_stepWhole_46 49 rfl wd_109 (ok_0 (by decide)) ?_
          refine aw_iload_n (i := 3) dX10_stepWhole_49 50 rfl rfl 3 rfl ?_
          refine aw_aald dX10_stepWhole_50 51 rfl at_22 (by decide) (by decide) rfl rfl (al_22 _) (ok_22 (by decide)) rfl (fun h6 => ?_)
          refine aw_aload_n (i := 2) dX10_stepWhole_51 52 rfl rfl 2 rfl ?_
          refine aw_callV (M2 := m_X1_drift) (cv := q_cU) dX10_stepWhole_52 55 rfl (k_X1_drift l G (Int32.toNatClampNeg x3) (Int32.toNatClampNeg x1) (q_in_lt h6) q1 u2) wd_125 wv_X1_drift pk_X1_drift rfl rfl ⟨by decide, by decide⟩ ⟨Nat.zero_le _, Nat.zero_le _⟩ at_8 (ok_8 (q_in_lt h6)) rfl rfl rfl (Nat.le_of_ble_eq_true rfl) (fun _z u4 => ?_)
          show qAW l G m_X10_stepWhole (q_mq G q_cI) 55 [(0, .ref (q_ad G 0 0)), (1, .int x1), (2, .ref (q_ad G 2 (Int32.toNatClampNeg x1))), (3, .int x3)] [] u4 _
          exact hj1 u4
set_option maxRecDepth 100000 in
set_option maxHeartbeats 4000000 in
theorem TL_X10_stepWhole_63 (l : Launch) (G : qG) (x1 : Int32) (q2 : (Int32.toNatClampNeg x1) < 7) (e1 : qM → Option (Int32 × qM)) (he1 : ∀  (v : qM), qAW l G m_X10_stepWhole (q_mq G q_cI) 110 [] [] v (e1 v)) : ∀ (n : Nat) (x5 : Int32) (u6 : qM), qAW l G m_X10_stepWhole (q_mq G q_cI) 63 [(0, .ref (q_ad G 0 0)), (1, .int x1), (2, .ref (q_ad G 2 (Int32.toNatClampNeg x1))), (3, .int x5)] [] u6 (L_X10_stepWhole_63 x1 n x5 u6 e1) := by
  intro n
  induction n with
  | zero => intros; exact aw_none
  | succ n ih =>
    intro x5 u6
    unfold L_X10_stepWhole_63
    refine aw_iload_n (i := 3) dX10_stepWhole_63 64 rfl rfl 3 rfl ?_
    refine aw_bipush (x := 8) dX10_stepWhole_64 66 rfl rfl ?_
    refine aw_icmp_ge dX10_stepWhole_66 69 rfl 110 rfl (fun h7 => ?_) (fun h7 => ?_)
    · exact aw_conv [] rfl (he1 u6)
    · refine aw_aload_n (i := 0) dX10_stepWhole_69 70 rfl rfl 0 rfl ?_
      refine gf_X10_9 dX10_stepWhole_70 73 rfl wd_110 (ok_0 (by decide)) ?_
      refine aw_iload_n (i := 3) dX10_stepWhole_73 74 rfl rfl 3 rfl ?_
      refine aw_aald dX10_stepWhole_74 75 rfl at_23 (by decide) (by decide) rfl rfl (al_23 _) (ok_23 (by decide)) rfl (fun h8 => ?_)
      refine gfN_X2_2 dX10_stepWhole_75 78 rfl "SeaCells" (ns_57) (ok_9 (q_in_lt h8)) ?_
      refine aw_iload_n (i := 1) dX10_stepWhole_78 79 rfl rfl 1 rfl ?_
      refine aw_jn (fun k => ∀  (u7 : qM), qAW l G m_X10_stepWhole (q_mq G q_cI) 104 [(0, .ref (q_ad G 0 0)), (1, .int x1), (2, .ref (q_ad G 2 (Int32.toNatClampNeg x1))), (3, .int x5)] [] u7 (k u7)) ?_ ?_
      · intro u7
        refine aw_iincx (i := 3) dX10_stepWhole_104 107 rfl 3 rfl 1 rfl (fun x6 => [(3, .int x6), (0, .ref (q_ad G 0 0)), (1, .int x1), (2, .ref (q_ad G 2 (Int32.toNatClampNeg x1)))]) (by decide) (fun _ => rfl) (fun x6 => ?_)
        refine aw_goto dX10_stepWhole_107 63 rfl ?_
        exact aw_conv [1, 2, 3, 0] rfl (ih x6 u7)
      · intro j2 hj2
        refine aw_icmp_ne dX10_stepWhole_79 82 rfl 104 rfl (fun h9 => ?_) (fun h9 => ?_)
        · exact hj2 u6
        · refine aw_aload_n (i := 0) dX10_stepWhole_82 83 rfl rfl 0 rfl ?_
          refine gf_X10_9 dX10_stepWhole_83 86 rfl wd_110 (ok_0 (by decide)) ?_
          refine aw_iload_n (i := 3) dX10_stepWhole_86 87 rfl rfl 3 rfl ?_
          refine aw_aald dX10_stepWhole_87 88 rfl at_23 (by decide) (by decide) rfl rfl (al_23 _) (ok_23 (by decide)) rfl (fun h10 => ?_)
          refine aw_aload_n (i := 2) dX10_stepWhole_88 89 rfl rfl 2 rfl ?_
          refine aw_aload_n (i := 0) dX10_stepWhole_89 90 rfl rfl 0 rfl ?_
          refine gf_X10_9 dX10_stepWhole_90 93 rfl wd_110 (ok_0 (by decide)) ?_
          refine aw_iload_n (i := 3) dX10_stepWhole_93 94 rfl rfl 3 rfl ?_
          refine aw_aald dX10_stepWhole_94 95 rfl at_23 (by decide) (by decide) rfl rfl (al_23 _) (ok_23 (by decide)) rfl (fun h11 => ?_)
          refine gfN_X2_3 dX10_stepWhole_95 98 rfl "SeaCells" (ns_58) (ok_9 (q_in_lt h11)) ?_
          refine aw_callV (M2 := m_X0_level) (cv := q_cI) dX10_stepWhole_98 101 rfl (k_X0_level l G (Int32.toNatClampNeg x1) (u6.1 9 (Int32.toNatClampNeg x5) 3) q2 u6) wd_119 wv_X0_level pk_X0_level rfl rfl ⟨by decide, by decide⟩ ⟨Nat.zero_le _, Nat.zero_le _⟩ at_2 (ok_2 q2) rfl rfl rfl (Nat.le_of_ble_eq_true rfl) (fun x7 u8 => ?_)
          show qAW l G m_X10_stepWhole (q_mq G q_cI) 101 [(0, .ref (q_ad G 0 0)), (1, .int x1), (2, .ref (q_ad G 2 (Int32.toNatClampNeg x1))), (3, .int x5)] [.int x7, .ref (q_ad G 9 (Int32.toNatClampNeg x5))] u8 _
          refine aw_callV (M2 := m_X2_read) (cv := q_cU) dX10_stepWhole_101 104 rfl (k_X2_read l G (Int32.toNatClampNeg x5) x7 (q_in_lt h10) u8) wd_126 wv_X2_read pk_X2_read rfl rfl ⟨by decide, by decide⟩ ⟨Nat.zero_le _, Nat.zero_le _⟩ at_9 (ok_9 (q_in_lt h10)) rfl rfl rfl (Nat.le_of_ble_eq_true rfl) (fun _z u9 => ?_)
          show qAW l G m_X10_stepWhole (q_mq G q_cI) 104 [(0, .ref (q_ad G 0 0)), (1, .int x1), (2, .ref (q_ad G 2 (Int32.toNatClampNeg x1))), (3, .int x5)] [] u9 _
          exact hj2 u9
set_option maxRecDepth 100000 in
set_option maxHeartbeats 4000000 in
theorem k_X10_stepWhole (l : Launch) (G : qG) (x1 : Int32)  (u0 : qM) : qCt l G m_X10_stepWhole q_cI [.ref (q_ad G 0 0), .int x1] u0 (f_X10_stepWhole x1 u0) := by
  refine q_entry pk_X10_stepWhole (Nat.le_of_ble_eq_true rfl) ?_
  show qAW l G m_X10_stepWhole (q_mq G q_cI) 0 [(0, .ref (q_ad G 0 0)), (1, .int x1)] [] u0 (f_X10_stepWhole x1 u0)
  unfold f_X10_stepWhole
  refine aw_aload_n (i := 0) dX10_stepWhole_0 1 rfl rfl 0 rfl ?_
  refine gf_X10_4 dX10_stepWhole_1 4 rfl wd_107 (ok_0 (by decide)) ?_
  refine aw_iload_n (i := 1) dX10_stepWhole_4 5 rfl rfl 1 rfl ?_
  refine aw_aald dX10_stepWhole_5 6 rfl at_21 (by decide) (by decide) rfl rfl (al_21 _) (ok_21 (by decide)) rfl (fun h1 => ?_)
  refine aw_astore_n dX10_stepWhole_6 7 rfl rfl [(2, .ref (q_ad G 2 (Int32.toNatClampNeg x1))), (0, .ref (q_ad G 0 0)), (1, .int x1)] (by decide) rfl ?_
  refine aw_aload_n (i := 0) dX10_stepWhole_7 8 rfl rfl 1 rfl ?_
  refine gf_X10_6 dX10_stepWhole_8 11 rfl wd_123 (ok_0 (by decide)) ?_
  refine aw_aload_n (i := 2) dX10_stepWhole_11 12 rfl rfl 0 rfl ?_
  refine aw_aload_n (i := 0) dX10_stepWhole_12 13 rfl rfl 1 rfl ?_
  refine gf_X10_0 dX10_stepWhole_13 16 rfl wd_97 (ok_0 (by decide)) ?_
  refine aw_callV (M2 := m_X8_advance) (cv := q_cI) dX10_stepWhole_16 19 rfl (k_X8_advance l G (Int32.toNatClampNeg x1) (Nat.lt_of_lt_of_le (q_in_lt h1) (by decide)) u0) wd_124 wv_X8_advance pk_X8_advance rfl rfl ⟨by decide, by decide⟩ ⟨Nat.zero_le _, Nat.zero_le _⟩ at_6 (ok_6 (by decide)) rfl rfl rfl (Nat.le_of_ble_eq_true rfl) (fun x2 u1 => ?_)
  show qAW l G m_X10_stepWhole (q_mq G q_cI) 19 [(2, .ref (q_ad G 2 (Int32.toNatClampNeg x1))), (0, .ref (q_ad G 0 0)), (1, .int x1)] [.int x2] u1 _
  refine aw_if_ne dX10_stepWhole_19 22 rfl 24 rfl (fun h2 => ?_) (fun h2 => ?_)
  · refine aw_iconst (x := 0) dX10_stepWhole_24 25 rfl rfl ?_
    refine aw_istore_n dX10_stepWhole_25 26 rfl rfl [(3, .int 0), (2, .ref (q_ad G 2 (Int32.toNatClampNeg x1))), (0, .ref (q_ad G 0 0)), (1, .int x1)] (by decide) rfl ?_
    refine aw_conv [2, 3, 1, 0] rfl (TL_X10_stepWhole_26 l G x1 (Nat.lt_of_lt_of_le (q_in_lt h1) (by decide)) _ ?_ _ 0 u1)
    · intro u5
      refine aw_iconst (x := 0) dX10_stepWhole_61 62 rfl rfl ?_
      refine aw_istore_n dX10_stepWhole_62 63 rfl rfl [(3, .int 0), (0, .ref (q_ad G 0 0)), (1, .int x1), (2, .ref (q_ad G 2 (Int32.toNatClampNeg x1)))] (by decide) rfl ?_
      refine aw_conv [1, 2, 3, 0] rfl (TL_X10_stepWhole_63 l G x1 (Nat.lt_of_lt_of_le (q_in_lt h1) (by decide)) _ ?_ _ 0 u5)
      · intro u10
        refine aw_iconst (x := 1) dX10_stepWhole_110 111 rfl rfl ?_
        exact aw_zret dX10_stepWhole_111 rfl (by decide)
  · refine aw_iconst (x := 0) dX10_stepWhole_22 23 rfl rfl ?_
    exact aw_zret dX10_stepWhole_23 rfl (by decide)
theorem dX10_step_0 : decode cX10_step 0 = .ok (.aload_n 0, 1) := by decide +kernel
theorem dX10_step_1 : decode cX10_step 1 = .ok (.iload_n 2, 1) := by decide +kernel
theorem dX10_step_2 : decode cX10_step 2 = .ok (.iconst 0, 1) := by decide +kernel
theorem dX10_step_3 : decode cX10_step 3 = .ok (.sipush 200, 3) := by decide +kernel
theorem dX10_step_6 : decode cX10_step 6 = .ok (.invokestatic 101, 3) := by decide +kernel
theorem dX10_step_9 : decode cX10_step 9 = .ok (.iload_n 1, 1) := by decide +kernel
theorem dX10_step_10 : decode cX10_step 10 = .ok (.invokevirtual 170, 3) := by decide +kernel
theorem dX10_step_13 : decode cX10_step 13 = .ok (.istore_n 3, 1) := by decide +kernel
theorem dX10_step_14 : decode cX10_step 14 = .ok (.iload_n 3, 1) := by decide +kernel
theorem dX10_step_15 : decode cX10_step 15 = .ok (.ifCond .eq 5, 3) := by decide +kernel
theorem dX10_step_18 : decode cX10_step 18 = .ok (.iload_n 3, 1) := by decide +kernel
theorem dX10_step_19 : decode cX10_step 19 = .ok (.ireturn, 1) := by decide +kernel
theorem dX10_step_20 : decode cX10_step 20 = .ok (.iconst 0, 1) := by decide +kernel
theorem dX10_step_21 : decode cX10_step 21 = .ok (.istore 4, 2) := by decide +kernel
theorem dX10_step_23 : decode cX10_step 23 = .ok (.iload 4, 2) := by decide +kernel
theorem dX10_step_25 : decode cX10_step 25 = .ok (.iload_n 2, 1) := by decide +kernel
theorem dX10_step_26 : decode cX10_step 26 = .ok (.if_icmp .ge 17, 3) := by decide +kernel
theorem dX10_step_29 : decode cX10_step 29 = .ok (.aload_n 0, 1) := by decide +kernel
theorem dX10_step_30 : decode cX10_step 30 = .ok (.iload_n 1, 1) := by decide +kernel
theorem dX10_step_31 : decode cX10_step 31 = .ok (.invokevirtual 246, 3) := by decide +kernel
theorem dX10_step_34 : decode cX10_step 34 = .ok (.ifCond .eq 9, 3) := by decide +kernel
theorem dX10_step_37 : decode cX10_step 37 = .ok (.iinc 4 1, 3) := by decide +kernel
theorem dX10_step_40 : decode cX10_step 40 = .ok (.goto (-17), 3) := by decide +kernel
theorem dX10_step_43 : decode cX10_step 43 = .ok (.iload 4, 2) := by decide +kernel
theorem dX10_step_45 : decode cX10_step 45 = .ok (.ireturn, 1) := by decide +kernel
noncomputable def L_X10_step_23 (x1 : Int32) (x2 : Int32) : Nat → Int32 → qM → (Int32 → qM → Option (Int32 × qM)) → Option (Int32 × qM)
  | 0, _, _, _ => none
  | n + 1, x5, u3, e1 => if x2 ≤ x5 then e1 x5 u3 else q_bd (f_X10_stepWhole x1 u3) (fun (x6 : Int32) (u4 : qM) => if x6 = 0 then e1 x5 u4 else q_lt (x5 + 1) (fun (x7 : Int32) => L_X10_step_23 x1 x2 n x7 u4 e1))
noncomputable def f_X10_step (x1 : Int32) (x2 : Int32) (u0 : qM) : Option (Int32 × qM) :=
  q_bd (f_X10_within x2 0 200 u0) (fun (x3 : Int32) (u1 : qM) => q_bd (f_X10_boardRefused x3 x1 u1) (fun (x4 : Int32) (u2 : qM) => if x4 = 0 then L_X10_step_23 x1 x2 q_fu 0 u2 (fun x8 u5 => some (x8, u5)) else some (x4, u2)))
set_option maxRecDepth 100000 in
set_option maxHeartbeats 4000000 in
theorem TL_X10_step_23 (l : Launch) (G : qG) (x1 : Int32) (x2 : Int32)  (e1 : Int32 → qM → Option (Int32 × qM)) (he1 : ∀ (y1 : Int32) (v : qM), qAW l G m_X10_step (q_mq G q_cI) 43 [(4, .int y1)] [] v (e1 y1 v)) : ∀ (n : Nat) (x5 : Int32) (u3 : qM), qAW l G m_X10_step (q_mq G q_cI) 23 [(0, .ref (q_ad G 0 0)), (1, .int x1), (2, .int x2), (4, .int x5)] [] u3 (L_X10_step_23 x1 x2 n x5 u3 e1) := by
  intro n
  induction n with
  | zero => intros; exact aw_none
  | succ n ih =>
    intro x5 u3
    unfold L_X10_step_23
    refine aw_iload (i := 4) dX10_step_23 25 rfl 3 rfl ?_
    refine aw_iload_n (i := 2) dX10_step_25 26 rfl rfl 2 rfl ?_
    refine aw_icmp_ge dX10_step_26 29 rfl 43 rfl (fun h2 => ?_) (fun h2 => ?_)
    · exact aw_conv [3] rfl (he1 x5 u3)
    · refine aw_aload_n (i := 0) dX10_step_29 30 rfl rfl 0 rfl ?_
      refine aw_iload_n (i := 1) dX10_step_30 31 rfl rfl 1 rfl ?_
      refine aw_callV (M2 := m_X10_stepWhole) (cv := q_cI) dX10_step_31 34 rfl (k_X10_stepWhole l G x1  u3) wd_127 wv_X10_stepWhole pk_X10_stepWhole rfl rfl ⟨by decide, by decide⟩ ⟨Nat.zero_le _, Nat.zero_le _⟩ at_0 (ok_0 (by decide)) rfl rfl rfl (Nat.le_of_ble_eq_true rfl) (fun x6 u4 => ?_)
      show qAW l G m_X10_step (q_mq G q_cI) 34 [(0, .ref (q_ad G 0 0)), (1, .int x1), (2, .int x2), (4, .int x5)] [.int x6] u4 _
      refine aw_if_eq dX10_step_34 37 rfl 43 rfl (fun h3 => ?_) (fun h3 => ?_)
      · exact aw_conv [3] rfl (he1 x5 u4)
      · refine aw_iincx (i := 4) dX10_step_37 40 rfl 3 rfl 1 rfl (fun x7 => [(4, .int x7), (0, .ref (q_ad G 0 0)), (1, .int x1), (2, .int x2)]) (by decide) (fun _ => rfl) (fun x7 => ?_)
        refine aw_goto dX10_step_40 23 rfl ?_
        exact aw_conv [1, 2, 3, 0] rfl (ih x7 u4)
set_option maxRecDepth 100000 in
set_option maxHeartbeats 4000000 in
theorem k_X10_step (l : Launch) (G : qG) (x1 : Int32) (x2 : Int32)  (u0 : qM) : qCt l G m_X10_step q_cI [.ref (q_ad G 0 0), .int x1, .int x2] u0 (f_X10_step x1 x2 u0) := by
  refine q_entry pk_X10_step (Nat.le_of_ble_eq_true rfl) ?_
  show qAW l G m_X10_step (q_mq G q_cI) 0 [(0, .ref (q_ad G 0 0)), (1, .int x1), (2, .int x2)] [] u0 (f_X10_step x1 x2 u0)
  unfold f_X10_step
  refine aw_aload_n (i := 0) dX10_step_0 1 rfl rfl 0 rfl ?_
  refine aw_iload_n (i := 2) dX10_step_1 2 rfl rfl 2 rfl ?_
  refine aw_iconst (x := 0) dX10_step_2 3 rfl rfl ?_
  refine aw_sipush (x := 200) dX10_step_3 6 rfl rfl ?_
  refine aw_callS (M2 := m_X10_within) (cv := q_cI) dX10_step_6 9 rfl (k_X10_within l G x2 0 200  u0) wd_103 wv_X10_within pk_X10_within rfl ⟨by decide, by decide⟩ ⟨Nat.zero_le _, Nat.zero_le _⟩ rfl (Nat.le_of_ble_eq_true rfl) (fun x3 u1 => ?_)
  show qAW l G m_X10_step (q_mq G q_cI) 9 [(0, .ref (q_ad G 0 0)), (1, .int x1), (2, .int x2)] [.int x3, .ref (q_ad G 0 0)] u1 _
  refine aw_iload_n (i := 1) dX10_step_9 10 rfl rfl 1 rfl ?_
  refine aw_callV (M2 := m_X10_boardRefused) (cv := q_cI) dX10_step_10 13 rfl (k_X10_boardRefused l G x3 x1  u1) wd_116 wv_X10_boardRefused pk_X10_boardRefused rfl rfl ⟨by decide, by decide⟩ ⟨Nat.zero_le _, Nat.zero_le _⟩ at_0 (ok_0 (by decide)) rfl rfl rfl (Nat.le_of_ble_eq_true rfl) (fun x4 u2 => ?_)
  show qAW l G m_X10_step (q_mq G q_cI) 13 [(0, .ref (q_ad G 0 0)), (1, .int x1), (2, .int x2)] [.int x4] u2 _
  refine aw_istore_n dX10_step_13 14 rfl rfl [(3, .int x4), (0, .ref (q_ad G 0 0)), (1, .int x1), (2, .int x2)] (by decide) rfl ?_
  refine aw_iload_n (i := 3) dX10_step_14 15 rfl rfl 0 rfl ?_
  refine aw_if_eq dX10_step_15 18 rfl 20 rfl (fun h1 => ?_) (fun h1 => ?_)
  · refine aw_iconst (x := 0) dX10_step_20 21 rfl rfl ?_
    refine aw_istore dX10_step_21 23 rfl [(4, .int 0), (3, .int x4), (0, .ref (q_ad G 0 0)), (1, .int x1), (2, .int x2)] (by decide) rfl ?_
    refine aw_conv [2, 3, 4, 0] rfl (TL_X10_step_23 l G x1 x2  _ ?_ _ 0 u2)
    · intro x8 u5
      refine aw_iload (i := 4) dX10_step_43 45 rfl 0 rfl ?_
      exact aw_iret dX10_step_45 rfl
  · refine aw_iload_n (i := 3) dX10_step_18 19 rfl rfl 0 rfl ?_
    exact aw_iret dX10_step_19 rfl
theorem dX10_told_0 : decode cX10_told 0 = .ok (.aload_n 0, 1) := by decide +kernel
theorem dX10_told_1 : decode cX10_told 1 = .ok (.iload_n 2, 1) := by decide +kernel
theorem dX10_told_2 : decode cX10_told 2 = .ok (.iconst 0, 1) := by decide +kernel
theorem dX10_told_3 : decode cX10_told 3 = .ok (.bipush 10, 2) := by decide +kernel
theorem dX10_told_5 : decode cX10_told 5 = .ok (.invokestatic 101, 3) := by decide +kernel
theorem dX10_told_8 : decode cX10_told 8 = .ok (.iload_n 1, 1) := by decide +kernel
theorem dX10_told_9 : decode cX10_told 9 = .ok (.invokevirtual 170, 3) := by decide +kernel
theorem dX10_told_12 : decode cX10_told 12 = .ok (.istore_n 3, 1) := by decide +kernel
theorem dX10_told_13 : decode cX10_told 13 = .ok (.iload_n 3, 1) := by decide +kernel
theorem dX10_told_14 : decode cX10_told 14 = .ok (.ifCond .eq 5, 3) := by decide +kernel
theorem dX10_told_17 : decode cX10_told 17 = .ok (.iload_n 3, 1) := by decide +kernel
theorem dX10_told_18 : decode cX10_told 18 = .ok (.ireturn, 1) := by decide +kernel
theorem dX10_told_19 : decode cX10_told 19 = .ok (.aload_n 0, 1) := by decide +kernel
theorem dX10_told_20 : decode cX10_told 20 = .ok (.aload_n 0, 1) := by decide +kernel
theorem dX10_told_21 : decode cX10_told 21 = .ok (.getfield 30, 3) := by decide +kernel
theorem dX10_told_24 : decode cX10_told 24 = .ok (.iload_n 1, 1) := by decide +kernel
theorem dX10_told_25 : decode cX10_told 25 = .ok (.aaload, 1) := by decide +kernel
theorem dX10_told_26 : decode cX10_told 26 = .ok (.iload_n 2, 1) := by decide +kernel
theorem dX10_told_27 : decode cX10_told 27 = .ok (.invokevirtual 249, 3) := by decide +kernel
theorem dX10_told_30 : decode cX10_told 30 = .ok (.putfield 116, 3) := by decide +kernel
theorem dX10_told_33 : decode cX10_told 33 = .ok (.iconst 1, 1) := by decide +kernel
theorem dX10_told_34 : decode cX10_told 34 = .ok (.ireturn, 1) := by decide +kernel
noncomputable def f_X10_told (x1 : Int32) (x2 : Int32) (u0 : qM) : Option (Int32 × qM) :=
  q_bd (f_X10_within x2 0 10 u0) (fun (x3 : Int32) (u1 : qM) => q_bd (f_X10_boardRefused x3 x1 u1) (fun (x4 : Int32) (u2 : qM) => if x4 = 0 then q_ck (q_in x1 6) (q_bd (f_X0_tells (Int32.toNatClampNeg x1) x2 u2) (fun (x5 : Int32) (u3 : qM) => q_lt (q_si u3 0 0 15 x5) (fun (u4 : qM) => some (1, u4)))) else some (x4, u2)))
set_option maxRecDepth 100000 in
set_option maxHeartbeats 4000000 in
theorem k_X10_told (l : Launch) (G : qG) (x1 : Int32) (x2 : Int32)  (u0 : qM) : qCt l G m_X10_told q_cI [.ref (q_ad G 0 0), .int x1, .int x2] u0 (f_X10_told x1 x2 u0) := by
  refine q_entry pk_X10_told (Nat.le_of_ble_eq_true rfl) ?_
  show qAW l G m_X10_told (q_mq G q_cI) 0 [(0, .ref (q_ad G 0 0)), (1, .int x1), (2, .int x2)] [] u0 (f_X10_told x1 x2 u0)
  unfold f_X10_told
  refine aw_aload_n (i := 0) dX10_told_0 1 rfl rfl 0 rfl ?_
  refine aw_iload_n (i := 2) dX10_told_1 2 rfl rfl 2 rfl ?_
  refine aw_iconst (x := 0) dX10_told_2 3 rfl rfl ?_
  refine aw_bipush (x := 10) dX10_told_3 5 rfl rfl ?_
  refine aw_callS (M2 := m_X10_within) (cv := q_cI) dX10_told_5 8 rfl (k_X10_within l G x2 0 10  u0) wd_103 wv_X10_within pk_X10_within rfl ⟨by decide, by decide⟩ ⟨Nat.zero_le _, Nat.zero_le _⟩ rfl (Nat.le_of_ble_eq_true rfl) (fun x3 u1 => ?_)
  show qAW l G m_X10_told (q_mq G q_cI) 8 [(0, .ref (q_ad G 0 0)), (1, .int x1), (2, .int x2)] [.int x3, .ref (q_ad G 0 0)] u1 _
  refine aw_iload_n (i := 1) dX10_told_8 9 rfl rfl 1 rfl ?_
  refine aw_callV (M2 := m_X10_boardRefused) (cv := q_cI) dX10_told_9 12 rfl (k_X10_boardRefused l G x3 x1  u1) wd_116 wv_X10_boardRefused pk_X10_boardRefused rfl rfl ⟨by decide, by decide⟩ ⟨Nat.zero_le _, Nat.zero_le _⟩ at_0 (ok_0 (by decide)) rfl rfl rfl (Nat.le_of_ble_eq_true rfl) (fun x4 u2 => ?_)
  show qAW l G m_X10_told (q_mq G q_cI) 12 [(0, .ref (q_ad G 0 0)), (1, .int x1), (2, .int x2)] [.int x4] u2 _
  refine aw_istore_n dX10_told_12 13 rfl rfl [(3, .int x4), (0, .ref (q_ad G 0 0)), (1, .int x1), (2, .int x2)] (by decide) rfl ?_
  refine aw_iload_n (i := 3) dX10_told_13 14 rfl rfl 0 rfl ?_
  refine aw_if_eq dX10_told_14 17 rfl 19 rfl (fun h1 => ?_) (fun h1 => ?_)
  · refine aw_aload_n (i := 0) dX10_told_19 20 rfl rfl 1 rfl ?_
    refine aw_aload_n (i := 0) dX10_told_20 21 rfl rfl 1 rfl ?_
    refine gf_X10_4 dX10_told_21 24 rfl wd_107 (ok_0 (by decide)) ?_
    refine aw_iload_n (i := 1) dX10_told_24 25 rfl rfl 2 rfl ?_
    refine aw_aald dX10_told_25 26 rfl at_21 (by decide) (by decide) rfl rfl (al_21 _) (ok_21 (by decide)) rfl (fun h2 => ?_)
    refine aw_iload_n (i := 2) dX10_told_26 27 rfl rfl 3 rfl ?_
    refine aw_callV (M2 := m_X0_tells) (cv := q_cI) dX10_told_27 30 rfl (k_X0_tells l G (Int32.toNatClampNeg x1) x2 (Nat.lt_of_lt_of_le (q_in_lt h2) (by decide)) u2) wd_128 wv_X0_tells pk_X0_tells rfl rfl ⟨by decide, by decide⟩ ⟨Nat.zero_le _, Nat.zero_le _⟩ at_2 (ok_2 (Nat.lt_of_lt_of_le (q_in_lt h2) (by decide))) rfl rfl rfl (Nat.le_of_ble_eq_true rfl) (fun x5 u3 => ?_)
    show qAW l G m_X10_told (q_mq G q_cI) 30 [(3, .int x4), (0, .ref (q_ad G 0 0)), (1, .int x1), (2, .int x2)] [.int x5, .ref (q_ad G 0 0)] u3 _
    refine pf_X10_15 dX10_told_30 33 rfl wd_106 (ok_0 (by decide)) ?_
    refine aw_ltm (fun u4 => ?_)
    refine aw_iconst (x := 1) dX10_told_33 34 rfl rfl ?_
    exact aw_iret dX10_told_34 rfl
  · refine aw_iload_n (i := 3) dX10_told_17 18 rfl rfl 0 rfl ?_
    exact aw_iret dX10_told_18 rfl
theorem dX10_mark_0 : decode cX10_mark 0 = .ok (.aload_n 0, 1) := by decide +kernel
theorem dX10_mark_1 : decode cX10_mark 1 = .ok (.iload_n 2, 1) := by decide +kernel
theorem dX10_mark_2 : decode cX10_mark 2 = .ok (.iconst 1, 1) := by decide +kernel
theorem dX10_mark_3 : decode cX10_mark 3 = .ok (.iconst 3, 1) := by decide +kernel
theorem dX10_mark_4 : decode cX10_mark 4 = .ok (.invokestatic 101, 3) := by decide +kernel
theorem dX10_mark_7 : decode cX10_mark 7 = .ok (.iload_n 1, 1) := by decide +kernel
theorem dX10_mark_8 : decode cX10_mark 8 = .ok (.invokevirtual 170, 3) := by decide +kernel
theorem dX10_mark_11 : decode cX10_mark 11 = .ok (.istore_n 3, 1) := by decide +kernel
theorem dX10_mark_12 : decode cX10_mark 12 = .ok (.iload_n 3, 1) := by decide +kernel
theorem dX10_mark_13 : decode cX10_mark 13 = .ok (.ifCond .eq 5, 3) := by decide +kernel
theorem dX10_mark_16 : decode cX10_mark 16 = .ok (.iload_n 3, 1) := by decide +kernel
theorem dX10_mark_17 : decode cX10_mark 17 = .ok (.ireturn, 1) := by decide +kernel
theorem dX10_mark_18 : decode cX10_mark 18 = .ok (.aload_n 0, 1) := by decide +kernel
theorem dX10_mark_19 : decode cX10_mark 19 = .ok (.getfield 30, 3) := by decide +kernel
theorem dX10_mark_22 : decode cX10_mark 22 = .ok (.iload_n 1, 1) := by decide +kernel
theorem dX10_mark_23 : decode cX10_mark 23 = .ok (.aaload, 1) := by decide +kernel
theorem dX10_mark_24 : decode cX10_mark 24 = .ok (.astore 4, 2) := by decide +kernel
theorem dX10_mark_26 : decode cX10_mark 26 = .ok (.aload 4, 2) := by decide +kernel
theorem dX10_mark_28 : decode cX10_mark 28 = .ok (.iload_n 2, 1) := by decide +kernel
theorem dX10_mark_29 : decode cX10_mark 29 = .ok (.invokevirtual 252, 3) := by decide +kernel
theorem dX10_mark_32 : decode cX10_mark 32 = .ok (.ifCond .ne 9, 3) := by decide +kernel
theorem dX10_mark_35 : decode cX10_mark 35 = .ok (.aload_n 0, 1) := by decide +kernel
theorem dX10_mark_36 : decode cX10_mark 36 = .ok (.iconst 3, 1) := by decide +kernel
theorem dX10_mark_37 : decode cX10_mark 37 = .ok (.invokevirtual 91, 3) := by decide +kernel
theorem dX10_mark_40 : decode cX10_mark 40 = .ok (.ireturn, 1) := by decide +kernel
theorem dX10_mark_41 : decode cX10_mark 41 = .ok (.iload_n 2, 1) := by decide +kernel
theorem dX10_mark_42 : decode cX10_mark 42 = .ok (.iconst 1, 1) := by decide +kernel
theorem dX10_mark_43 : decode cX10_mark 43 = .ok (.if_icmp .ne 18, 3) := by decide +kernel
theorem dX10_mark_46 : decode cX10_mark 46 = .ok (.aload 4, 2) := by decide +kernel
theorem dX10_mark_48 : decode cX10_mark 48 = .ok (.aload_n 0, 1) := by decide +kernel
theorem dX10_mark_49 : decode cX10_mark 49 = .ok (.getfield 14, 3) := by decide +kernel
theorem dX10_mark_52 : decode cX10_mark 52 = .ok (.invokevirtual 255, 3) := by decide +kernel
theorem dX10_mark_55 : decode cX10_mark 55 = .ok (.ifCond .ne 6, 3) := by decide +kernel
theorem dX10_mark_58 : decode cX10_mark 58 = .ok (.bipush (-9), 2) := by decide +kernel
theorem dX10_mark_60 : decode cX10_mark 60 = .ok (.ireturn, 1) := by decide +kernel
theorem dX10_mark_61 : decode cX10_mark 61 = .ok (.iload_n 2, 1) := by decide +kernel
theorem dX10_mark_62 : decode cX10_mark 62 = .ok (.iconst 1, 1) := by decide +kernel
theorem dX10_mark_63 : decode cX10_mark 63 = .ok (.if_icmp .ne 19, 3) := by decide +kernel
theorem dX10_mark_66 : decode cX10_mark 66 = .ok (.aload_n 0, 1) := by decide +kernel
theorem dX10_mark_67 : decode cX10_mark 67 = .ok (.aload 4, 2) := by decide +kernel
theorem dX10_mark_69 : decode cX10_mark 69 = .ok (.aload_n 0, 1) := by decide +kernel
theorem dX10_mark_70 : decode cX10_mark 70 = .ok (.getfield 14, 3) := by decide +kernel
theorem dX10_mark_73 : decode cX10_mark 73 = .ok (.invokevirtual 259, 3) := by decide +kernel
theorem dX10_mark_76 : decode cX10_mark 76 = .ok (.putfield 116, 3) := by decide +kernel
theorem dX10_mark_79 : decode cX10_mark 79 = .ok (.goto 35, 3) := by decide +kernel
theorem dX10_mark_82 : decode cX10_mark 82 = .ok (.iload_n 2, 1) := by decide +kernel
theorem dX10_mark_83 : decode cX10_mark 83 = .ok (.iconst 2, 1) := by decide +kernel
theorem dX10_mark_84 : decode cX10_mark 84 = .ok (.if_icmp .ne 15, 3) := by decide +kernel
theorem dX10_mark_87 : decode cX10_mark 87 = .ok (.aload_n 0, 1) := by decide +kernel
theorem dX10_mark_88 : decode cX10_mark 88 = .ok (.aload 4, 2) := by decide +kernel
theorem dX10_mark_90 : decode cX10_mark 90 = .ok (.invokevirtual 263, 3) := by decide +kernel
theorem dX10_mark_93 : decode cX10_mark 93 = .ok (.putfield 116, 3) := by decide +kernel
theorem dX10_mark_96 : decode cX10_mark 96 = .ok (.goto 18, 3) := by decide +kernel
theorem dX10_mark_99 : decode cX10_mark 99 = .ok (.aload_n 0, 1) := by decide +kernel
theorem dX10_mark_100 : decode cX10_mark 100 = .ok (.aload 4, 2) := by decide +kernel
theorem dX10_mark_102 : decode cX10_mark 102 = .ok (.invokevirtual 166, 3) := by decide +kernel
theorem dX10_mark_105 : decode cX10_mark 105 = .ok (.aload 4, 2) := by decide +kernel
theorem dX10_mark_107 : decode cX10_mark 107 = .ok (.invokevirtual 266, 3) := by decide +kernel
theorem dX10_mark_110 : decode cX10_mark 110 = .ok (.isub, 1) := by decide +kernel
theorem dX10_mark_111 : decode cX10_mark 111 = .ok (.putfield 116, 3) := by decide +kernel
theorem dX10_mark_114 : decode cX10_mark 114 = .ok (.iconst 1, 1) := by decide +kernel
theorem dX10_mark_115 : decode cX10_mark 115 = .ok (.ireturn, 1) := by decide +kernel
noncomputable def f_X10_mark (x1 : Int32) (x2 : Int32) (u0 : qM) : Option (Int32 × qM) :=
  q_bd (f_X10_within x2 1 3 u0) (fun (x3 : Int32) (u1 : qM) => q_bd (f_X10_boardRefused x3 x1 u1) (fun (x4 : Int32) (u2 : qM) => if x4 = 0 then q_ck (q_in x1 6) (q_bd (f_X0_isOf (Int32.toNatClampNeg x1) x2 u2) (fun (x5 : Int32) (u3 : qM) => if x5 = 0 then q_bd (f_X10_found 3 u3) (fun (x11 : Int32) (u14 : qM) => some (x11, u14)) else q_jn (fun  (u4 : qM) => q_jn (fun  (u5 : qM) => some (1, u5)) (fun j2 => if x2 = 1 then q_bd (f_X0_tideLevel (Int32.toNatClampNeg x1) u4) (fun (x9 : Int32) (u11 : qM) => q_lt (q_si u11 0 0 15 x9) (fun (u12 : qM) => j2 u12)) else if x2 = 2 then q_bd (f_X0_allRests (Int32.toNatClampNeg x1) u4) (fun (x8 : Int32) (u9 : qM) => q_lt (q_si u9 0 0 15 x8) (fun (u10 : qM) => j2 u10)) else q_bd (f_X0_cells (Int32.toNatClampNeg x1) u4) (fun (x6 : Int32) (u6 : qM) => q_bd (f_X0_dryCells (Int32.toNatClampNeg x1) u6) (fun (x7 : Int32) (u7 : qM) => q_lt (q_si u7 0 0 15 (x6 - x7)) (fun (u8 : qM) => j2 u8))))) (fun j1 => if x2 = 1 then q_bd (f_X0_hasTide (Int32.toNatClampNeg x1) u3) (fun (x10 : Int32) (u13 : qM) => if x10 = 0 then some ((-9), u13) else j1 u13) else j1 u3))) else some (x4, u2)))
set_option maxRecDepth 100000 in
set_option maxHeartbeats 4000000 in
theorem k_X10_mark (l : Launch) (G : qG) (x1 : Int32) (x2 : Int32)  (u0 : qM) : qCt l G m_X10_mark q_cI [.ref (q_ad G 0 0), .int x1, .int x2] u0 (f_X10_mark x1 x2 u0) := by
  refine q_entry pk_X10_mark (Nat.le_of_ble_eq_true rfl) ?_
  show qAW l G m_X10_mark (q_mq G q_cI) 0 [(0, .ref (q_ad G 0 0)), (1, .int x1), (2, .int x2)] [] u0 (f_X10_mark x1 x2 u0)
  unfold f_X10_mark
  refine aw_aload_n (i := 0) dX10_mark_0 1 rfl rfl 0 rfl ?_
  refine aw_iload_n (i := 2) dX10_mark_1 2 rfl rfl 2 rfl ?_
  refine aw_iconst (x := 1) dX10_mark_2 3 rfl rfl ?_
  refine aw_iconst (x := 3) dX10_mark_3 4 rfl rfl ?_
  refine aw_callS (M2 := m_X10_within) (cv := q_cI) dX10_mark_4 7 rfl (k_X10_within l G x2 1 3  u0) wd_103 wv_X10_within pk_X10_within rfl ⟨by decide, by decide⟩ ⟨Nat.zero_le _, Nat.zero_le _⟩ rfl (Nat.le_of_ble_eq_true rfl) (fun x3 u1 => ?_)
  show qAW l G m_X10_mark (q_mq G q_cI) 7 [(0, .ref (q_ad G 0 0)), (1, .int x1), (2, .int x2)] [.int x3, .ref (q_ad G 0 0)] u1 _
  refine aw_iload_n (i := 1) dX10_mark_7 8 rfl rfl 1 rfl ?_
  refine aw_callV (M2 := m_X10_boardRefused) (cv := q_cI) dX10_mark_8 11 rfl (k_X10_boardRefused l G x3 x1  u1) wd_116 wv_X10_boardRefused pk_X10_boardRefused rfl rfl ⟨by decide, by decide⟩ ⟨Nat.zero_le _, Nat.zero_le _⟩ at_0 (ok_0 (by decide)) rfl rfl rfl (Nat.le_of_ble_eq_true rfl) (fun x4 u2 => ?_)
  show qAW l G m_X10_mark (q_mq G q_cI) 11 [(0, .ref (q_ad G 0 0)), (1, .int x1), (2, .int x2)] [.int x4] u2 _
  refine aw_istore_n dX10_mark_11 12 rfl rfl [(3, .int x4), (0, .ref (q_ad G 0 0)), (1, .int x1), (2, .int x2)] (by decide) rfl ?_
  refine aw_iload_n (i := 3) dX10_mark_12 13 rfl rfl 0 rfl ?_
  refine aw_if_eq dX10_mark_13 16 rfl 18 rfl (fun h1 => ?_) (fun h1 => ?_)
  · refine aw_aload_n (i := 0) dX10_mark_18 19 rfl rfl 1 rfl ?_
    refine gf_X10_4 dX10_mark_19 22 rfl wd_107 (ok_0 (by decide)) ?_
    refine aw_iload_n (i := 1) dX10_mark_22 23 rfl rfl 2 rfl ?_
    refine aw_aald dX10_mark_23 24 rfl at_21 (by decide) (by decide) rfl rfl (al_21 _) (ok_21 (by decide)) rfl (fun h2 => ?_)
    refine aw_astore dX10_mark_24 26 rfl [(4, .ref (q_ad G 2 (Int32.toNatClampNeg x1))), (3, .int x4), (0, .ref (q_ad G 0 0)), (1, .int x1), (2, .int x2)] (by decide) rfl ?_
    refine aw_aload (i := 4) dX10_mark_26 28 rfl 0 rfl ?_
    refine aw_iload_n (i := 2) dX10_mark_28 29 rfl rfl 4 rfl ?_
    refine aw_callV (M2 := m_X0_isOf) (cv := q_cI) dX10_mark_29 32 rfl (k_X0_isOf l G (Int32.toNatClampNeg x1) x2 (Nat.lt_of_lt_of_le (q_in_lt h2) (by decide)) u2) wd_129 wv_X0_isOf pk_X0_isOf rfl rfl ⟨by decide, by decide⟩ ⟨Nat.zero_le _, Nat.zero_le _⟩ at_2 (ok_2 (Nat.lt_of_lt_of_le (q_in_lt h2) (by decide))) rfl rfl rfl (Nat.le_of_ble_eq_true rfl) (fun x5 u3 => ?_)
    show qAW l G m_X10_mark (q_mq G q_cI) 32 [(4, .ref (q_ad G 2 (Int32.toNatClampNeg x1))), (3, .int x4), (0, .ref (q_ad G 0 0)), (1, .int x1), (2, .int x2)] [.int x5] u3 _
    refine aw_if_ne dX10_mark_32 35 rfl 41 rfl (fun h3 => ?_) (fun h3 => ?_)
    · refine aw_iload_n (i := 2) dX10_mark_41 42 rfl rfl 4 rfl ?_
      refine aw_iconst (x := 1) dX10_mark_42 43 rfl rfl ?_
      refine aw_jn (fun k => ∀  (u4 : qM), qAW l G m_X10_mark (q_mq G q_cI) 61 [(0, .ref (q_ad G 0 0)), (2, .int x2), (4, .ref (q_ad G 2 (Int32.toNatClampNeg x1)))] [] u4 (k u4)) ?_ ?_
      · intro u4
        refine aw_iload_n (i := 2) dX10_mark_61 62 rfl rfl 1 rfl ?_
        refine aw_iconst (x := 1) dX10_mark_62 63 rfl rfl ?_
        refine aw_jn (fun k => ∀  (u5 : qM), qAW l G m_X10_mark (q_mq G q_cI) 114 [] [] u5 (k u5)) ?_ ?_
        · intro u5
          refine aw_iconst (x := 1) dX10_mark_114 115 rfl rfl ?_
          exact aw_iret dX10_mark_115 rfl
        · intro j2 hj2
          refine aw_icmp_ne dX10_mark_63 66 rfl 82 rfl (fun h5 => ?_) (fun h5 => ?_)
          · refine aw_iload_n (i := 2) dX10_mark_82 83 rfl rfl 1 rfl ?_
            refine aw_iconst (x := 2) dX10_mark_83 84 rfl rfl ?_
            refine aw_icmp_ne dX10_mark_84 87 rfl 99 rfl (fun h6 => ?_) (fun h6 => ?_)
            · refine aw_aload_n (i := 0) dX10_mark_99 100 rfl rfl 0 rfl ?_
              refine aw_aload (i := 4) dX10_mark_100 102 rfl 2 rfl ?_
              refine aw_callV (M2 := m_X0_cells) (cv := q_cI) dX10_mark_102 105 rfl (k_X0_cells l G (Int32.toNatClampNeg x1) (Nat.lt_of_lt_of_le (q_in_lt h2) (by decide)) u4) wd_115 wv_X0_cells pk_X0_cells rfl rfl ⟨by decide, by decide⟩ ⟨Nat.zero_le _, Nat.zero_le _⟩ at_2 (ok_2 (Nat.lt_of_lt_of_le (q_in_lt h2) (by decide))) rfl rfl rfl (Nat.le_of_ble_eq_true rfl) (fun x6 u6 => ?_)
              show qAW l G m_X10_mark (q_mq G q_cI) 105 [(0, .ref (q_ad G 0 0)), (2, .int x2), (4, .ref (q_ad G 2 (Int32.toNatClampNeg x1)))] [.int x6, .ref (q_ad G 0 0)] u6 _
              refine aw_aload (i := 4) dX10_mark_105 107 rfl 2 rfl ?_
              refine aw_callV (M2 := m_X0_dryCells) (cv := q_cI) dX10_mark_107 110 rfl (k_X0_dryCells l G (Int32.toNatClampNeg x1) (Nat.lt_of_lt_of_le (q_in_lt h2) (by decide)) u6) wd_130 wv_X0_dryCells pk_X0_dryCells rfl rfl ⟨by decide, by decide⟩ ⟨Nat.zero_le _, Nat.zero_le _⟩ at_2 (ok_2 (Nat.lt_of_lt_of_le (q_in_lt h2) (by decide))) rfl rfl rfl (Nat.le_of_ble_eq_true rfl) (fun x7 u7 => ?_)
              show qAW l G m_X10_mark (q_mq G q_cI) 110 [(0, .ref (q_ad G 0 0)), (2, .int x2), (4, .ref (q_ad G 2 (Int32.toNatClampNeg x1)))] [.int x7, .int x6, .ref (q_ad G 0 0)] u7 _
              refine aw_isub dX10_mark_110 111 rfl ?_
              refine pf_X10_15 dX10_mark_111 114 rfl wd_106 (ok_0 (by decide)) ?_
              refine aw_ltm (fun u8 => ?_)
              exact aw_conv [] rfl (hj2 u8)
            · refine aw_aload_n (i := 0) dX10_mark_87 88 rfl rfl 0 rfl ?_
              refine aw_aload (i := 4) dX10_mark_88 90 rfl 2 rfl ?_
              refine aw_callV (M2 := m_X0_allRests) (cv := q_cI) dX10_mark_90 93 rfl (k_X0_allRests l G (Int32.toNatClampNeg x1) (Nat.lt_of_lt_of_le (q_in_lt h2) (by decide)) u4) wd_131 wv_X0_allRests pk_X0_allRests rfl rfl ⟨by decide, by decide⟩ ⟨Nat.zero_le _, Nat.zero_le _⟩ at_2 (ok_2 (Nat.lt_of_lt_of_le (q_in_lt h2) (by decide))) rfl rfl rfl (Nat.le_of_ble_eq_true rfl) (fun x8 u9 => ?_)
              show qAW l G m_X10_mark (q_mq G q_cI) 93 [(0, .ref (q_ad G 0 0)), (2, .int x2), (4, .ref (q_ad G 2 (Int32.toNatClampNeg x1)))] [.int x8, .ref (q_ad G 0 0)] u9 _
              refine pf_X10_15 dX10_mark_93 96 rfl wd_106 (ok_0 (by decide)) ?_
              refine aw_ltm (fun u10 => ?_)
              refine aw_goto dX10_mark_96 114 rfl ?_
              exact aw_conv [] rfl (hj2 u10)
          · refine aw_aload_n (i := 0) dX10_mark_66 67 rfl rfl 0 rfl ?_
            refine aw_aload (i := 4) dX10_mark_67 69 rfl 2 rfl ?_
            refine aw_aload_n (i := 0) dX10_mark_69 70 rfl rfl 0 rfl ?_
            refine gf_X10_0 dX10_mark_70 73 rfl wd_97 (ok_0 (by decide)) ?_
            refine aw_callV (M2 := m_X0_tideLevel) (cv := q_cI) dX10_mark_73 76 rfl (k_X0_tideLevel l G (Int32.toNatClampNeg x1) (Nat.lt_of_lt_of_le (q_in_lt h2) (by decide)) u4) wd_132 wv_X0_tideLevel pk_X0_tideLevel rfl rfl ⟨by decide, by decide⟩ ⟨Nat.zero_le _, Nat.zero_le _⟩ at_2 (ok_2 (Nat.lt_of_lt_of_le (q_in_lt h2) (by decide))) rfl rfl rfl (Nat.le_of_ble_eq_true rfl) (fun x9 u11 => ?_)
            show qAW l G m_X10_mark (q_mq G q_cI) 76 [(0, .ref (q_ad G 0 0)), (2, .int x2), (4, .ref (q_ad G 2 (Int32.toNatClampNeg x1)))] [.int x9, .ref (q_ad G 0 0)] u11 _
            refine pf_X10_15 dX10_mark_76 79 rfl wd_106 (ok_0 (by decide)) ?_
            refine aw_ltm (fun u12 => ?_)
            refine aw_goto dX10_mark_79 114 rfl ?_
            exact aw_conv [] rfl (hj2 u12)
      · intro j1 hj1
        refine aw_icmp_ne dX10_mark_43 46 rfl 61 rfl (fun h4 => ?_) (fun h4 => ?_)
        · exact aw_conv [2, 4, 0] rfl (hj1 u3)
        · refine aw_aload (i := 4) dX10_mark_46 48 rfl 0 rfl ?_
          refine aw_aload_n (i := 0) dX10_mark_48 49 rfl rfl 2 rfl ?_
          refine gf_X10_0 dX10_mark_49 52 rfl wd_97 (ok_0 (by decide)) ?_
          refine aw_callV (M2 := m_X0_hasTide) (cv := q_cI) dX10_mark_52 55 rfl (k_X0_hasTide l G (Int32.toNatClampNeg x1) (Nat.lt_of_lt_of_le (q_in_lt h2) (by decide)) u3) wd_133 wv_X0_hasTide pk_X0_hasTide rfl rfl ⟨by decide, by decide⟩ ⟨Nat.zero_le _, Nat.zero_le _⟩ at_2 (ok_2 (Nat.lt_of_lt_of_le (q_in_lt h2) (by decide))) rfl rfl rfl (Nat.le_of_ble_eq_true rfl) (fun x10 u13 => ?_)
          show qAW l G m_X10_mark (q_mq G q_cI) 55 [(4, .ref (q_ad G 2 (Int32.toNatClampNeg x1))), (3, .int x4), (0, .ref (q_ad G 0 0)), (1, .int x1), (2, .int x2)] [.int x10] u13 _
          refine aw_if_ne dX10_mark_55 58 rfl 61 rfl (fun h7 => ?_) (fun h7 => ?_)
          · exact aw_conv [2, 4, 0] rfl (hj1 u13)
          · refine aw_bipush (x := (-9)) dX10_mark_58 60 rfl rfl ?_
            exact aw_iret dX10_mark_60 rfl
    · refine aw_aload_n (i := 0) dX10_mark_35 36 rfl rfl 2 rfl ?_
      refine aw_iconst (x := 3) dX10_mark_36 37 rfl rfl ?_
      refine aw_callV (M2 := m_X10_found) (cv := q_cI) dX10_mark_37 40 rfl (k_X10_found l G 3  u3) wd_100 wv_X10_found pk_X10_found rfl rfl ⟨by decide, by decide⟩ ⟨Nat.zero_le _, Nat.zero_le _⟩ at_0 (ok_0 (by decide)) rfl rfl rfl (Nat.le_of_ble_eq_true rfl) (fun x11 u14 => ?_)
      show qAW l G m_X10_mark (q_mq G q_cI) 40 [(4, .ref (q_ad G 2 (Int32.toNatClampNeg x1))), (3, .int x4), (0, .ref (q_ad G 0 0)), (1, .int x1), (2, .int x2)] [.int x11] u14 _
      exact aw_iret dX10_mark_40 rfl
  · refine aw_iload_n (i := 3) dX10_mark_16 17 rfl rfl 0 rfl ?_
    exact aw_iret dX10_mark_17 rfl
theorem dX10_liesIn_0 : decode cX10_liesIn 0 = .ok (.iload_n 1, 1) := by decide +kernel
theorem dX10_liesIn_1 : decode cX10_liesIn 1 = .ok (.istore_n 3, 1) := by decide +kernel
theorem dX10_liesIn_2 : decode cX10_liesIn 2 = .ok (.iconst 0, 1) := by decide +kernel
theorem dX10_liesIn_3 : decode cX10_liesIn 3 = .ok (.istore 4, 2) := by decide +kernel
theorem dX10_liesIn_5 : decode cX10_liesIn 5 = .ok (.iload 4, 2) := by decide +kernel
theorem dX10_liesIn_7 : decode cX10_liesIn 7 = .ok (.bipush 6, 2) := by decide +kernel
theorem dX10_liesIn_9 : decode cX10_liesIn 9 = .ok (.if_icmp .ge 74, 3) := by decide +kernel
theorem dX10_liesIn_12 : decode cX10_liesIn 12 = .ok (.aload_n 0, 1) := by decide +kernel
theorem dX10_liesIn_13 : decode cX10_liesIn 13 = .ok (.getfield 30, 3) := by decide +kernel
theorem dX10_liesIn_16 : decode cX10_liesIn 16 = .ok (.iload_n 3, 1) := by decide +kernel
theorem dX10_liesIn_17 : decode cX10_liesIn 17 = .ok (.aaload, 1) := by decide +kernel
theorem dX10_liesIn_18 : decode cX10_liesIn 18 = .ok (.getfield 305, 3) := by decide +kernel
theorem dX10_liesIn_21 : decode cX10_liesIn 21 = .ok (.ifCond .eq 34, 3) := by decide +kernel
theorem dX10_liesIn_24 : decode cX10_liesIn 24 = .ok (.aload_n 0, 1) := by decide +kernel
theorem dX10_liesIn_25 : decode cX10_liesIn 25 = .ok (.getfield 30, 3) := by decide +kernel
theorem dX10_liesIn_28 : decode cX10_liesIn 28 = .ok (.iload_n 3, 1) := by decide +kernel
theorem dX10_liesIn_29 : decode cX10_liesIn 29 = .ok (.aaload, 1) := by decide +kernel
theorem dX10_liesIn_30 : decode cX10_liesIn 30 = .ok (.getfield 276, 3) := by decide +kernel
theorem dX10_liesIn_33 : decode cX10_liesIn 33 = .ok (.iconst 2, 1) := by decide +kernel
theorem dX10_liesIn_34 : decode cX10_liesIn 34 = .ok (.if_icmp .ne 21, 3) := by decide +kernel
theorem dX10_liesIn_37 : decode cX10_liesIn 37 = .ok (.aload_n 0, 1) := by decide +kernel
theorem dX10_liesIn_38 : decode cX10_liesIn 38 = .ok (.getfield 30, 3) := by decide +kernel
theorem dX10_liesIn_41 : decode cX10_liesIn 41 = .ok (.iload_n 3, 1) := by decide +kernel
theorem dX10_liesIn_42 : decode cX10_liesIn 42 = .ok (.aaload, 1) := by decide +kernel
theorem dX10_liesIn_43 : decode cX10_liesIn 43 = .ok (.getfield 309, 3) := by decide +kernel
theorem dX10_liesIn_46 : decode cX10_liesIn 46 = .ok (.getfield 313, 3) := by decide +kernel
theorem dX10_liesIn_49 : decode cX10_liesIn 49 = .ok (.invokestatic 157, 3) := by decide +kernel
theorem dX10_liesIn_52 : decode cX10_liesIn 52 = .ok (.ifCond .ne 5, 3) := by decide +kernel
theorem dX10_liesIn_55 : decode cX10_liesIn 55 = .ok (.iconst 0, 1) := by decide +kernel
theorem dX10_liesIn_56 : decode cX10_liesIn 56 = .ok (.ireturn, 1) := by decide +kernel
theorem dX10_liesIn_57 : decode cX10_liesIn 57 = .ok (.aload_n 0, 1) := by decide +kernel
theorem dX10_liesIn_58 : decode cX10_liesIn 58 = .ok (.getfield 30, 3) := by decide +kernel
theorem dX10_liesIn_61 : decode cX10_liesIn 61 = .ok (.iload_n 3, 1) := by decide +kernel
theorem dX10_liesIn_62 : decode cX10_liesIn 62 = .ok (.aaload, 1) := by decide +kernel
theorem dX10_liesIn_63 : decode cX10_liesIn 63 = .ok (.getfield 309, 3) := by decide +kernel
theorem dX10_liesIn_66 : decode cX10_liesIn 66 = .ok (.getfield 313, 3) := by decide +kernel
theorem dX10_liesIn_69 : decode cX10_liesIn 69 = .ok (.istore_n 3, 1) := by decide +kernel
theorem dX10_liesIn_70 : decode cX10_liesIn 70 = .ok (.iload_n 3, 1) := by decide +kernel
theorem dX10_liesIn_71 : decode cX10_liesIn 71 = .ok (.iload_n 2, 1) := by decide +kernel
theorem dX10_liesIn_72 : decode cX10_liesIn 72 = .ok (.if_icmp .ne 5, 3) := by decide +kernel
theorem dX10_liesIn_75 : decode cX10_liesIn 75 = .ok (.iconst 1, 1) := by decide +kernel
theorem dX10_liesIn_76 : decode cX10_liesIn 76 = .ok (.ireturn, 1) := by decide +kernel
theorem dX10_liesIn_77 : decode cX10_liesIn 77 = .ok (.iinc 4 1, 3) := by decide +kernel
theorem dX10_liesIn_80 : decode cX10_liesIn 80 = .ok (.goto (-75), 3) := by decide +kernel
theorem dX10_liesIn_83 : decode cX10_liesIn 83 = .ok (.iconst 0, 1) := by decide +kernel
theorem dX10_liesIn_84 : decode cX10_liesIn 84 = .ok (.ireturn, 1) := by decide +kernel
noncomputable def L_X10_liesIn_5 (x2 : Int32) : Nat → Int32 → Int32 → qM → (qM → Option (Int32 × qM)) → (qM → Option (Int32 × qM)) → (qM → Option (Int32 × qM)) → Option (Int32 × qM)
  | 0, _, _, _, _, _, _ => none
  | n + 1, x3, x4, u1, e1, e2, e3 => if 6 ≤ x4 then e1 u1 else q_ck (q_in x3 6) (if (u1.1 2 (Int32.toNatClampNeg x3) 10) = 0 then e2 u1 else q_ck (q_in x3 6) (if (u1.1 2 (Int32.toNatClampNeg x3) 11) = 2 then q_ck (q_in x3 6) (q_bd (f_X10_isBoard (u1.1 5 (Int32.toNatClampNeg x3) 2) u1) (fun (x5 : Int32) (u2 : qM) => if x5 = 0 then e2 u2 else q_ck (q_in x3 6) (q_lt (u2.1 5 (Int32.toNatClampNeg x3) 2) (fun (x6 : Int32) => if x6 = x2 then e3 u2 else q_lt (x4 + 1) (fun (x7 : Int32) => L_X10_liesIn_5 x2 n x6 x7 u2 e1 e2 e3))))) else e2 u1))
noncomputable def f_X10_liesIn (x1 : Int32) (x2 : Int32) (u0 : qM) : Option (Int32 × qM) :=
  L_X10_liesIn_5 x2 q_fu x1 0 u0 (fun u3 => some (0, u3)) (fun u4 => some (0, u4)) (fun u5 => some (1, u5))
set_option maxRecDepth 100000 in
set_option maxHeartbeats 4000000 in
theorem TL_X10_liesIn_5 (l : Launch) (G : qG) (x2 : Int32)  (e1 : qM → Option (Int32 × qM)) (e2 : qM → Option (Int32 × qM)) (e3 : qM → Option (Int32 × qM)) (he1 : ∀  (v : qM), qAW l G m_X10_liesIn (q_mq G q_cI) 83 [] [] v (e1 v)) (he2 : ∀  (v : qM), qAW l G m_X10_liesIn (q_mq G q_cI) 55 [] [] v (e2 v)) (he3 : ∀  (v : qM), qAW l G m_X10_liesIn (q_mq G q_cI) 75 [] [] v (e3 v)) : ∀ (n : Nat) (x3 : Int32) (x4 : Int32) (u1 : qM), qAW l G m_X10_liesIn (q_mq G q_cI) 5 [(0, .ref (q_ad G 0 0)), (2, .int x2), (3, .int x3), (4, .int x4)] [] u1 (L_X10_liesIn_5 x2 n x3 x4 u1 e1 e2 e3) := by
  intro n
  induction n with
  | zero => intros; exact aw_none
  | succ n ih =>
    intro x3 x4 u1
    unfold L_X10_liesIn_5
    refine aw_iload (i := 4) dX10_liesIn_5 7 rfl 3 rfl ?_
    refine aw_bipush (x := 6) dX10_liesIn_7 9 rfl rfl ?_
    refine aw_icmp_ge dX10_liesIn_9 12 rfl 83 rfl (fun h1 => ?_) (fun h1 => ?_)
    · exact aw_conv [] rfl (he1 u1)
    · refine aw_aload_n (i := 0) dX10_liesIn_12 13 rfl rfl 0 rfl ?_
      refine gf_X10_4 dX10_liesIn_13 16 rfl wd_107 (ok_0 (by decide)) ?_
      refine aw_iload_n (i := 3) dX10_liesIn_16 17 rfl rfl 2 rfl ?_
      refine aw_aald dX10_liesIn_17 18 rfl at_21 (by decide) (by decide) rfl rfl (al_21 _) (ok_21 (by decide)) rfl (fun h2 => ?_)
      refine gfN_X0_10 dX10_liesIn_18 21 rfl "SeaCells" (ns_43) (ok_2 (Nat.lt_of_lt_of_le (q_in_lt h2) (by decide))) ?_
      refine aw_if_eq dX10_liesIn_21 24 rfl 55 rfl (fun h3 => ?_) (fun h3 => ?_)
      · exact aw_conv [] rfl (he2 u1)
      · refine aw_aload_n (i := 0) dX10_liesIn_24 25 rfl rfl 0 rfl ?_
        refine gf_X10_4 dX10_liesIn_25 28 rfl wd_107 (ok_0 (by decide)) ?_
        refine aw_iload_n (i := 3) dX10_liesIn_28 29 rfl rfl 2 rfl ?_
        refine aw_aald dX10_liesIn_29 30 rfl at_21 (by decide) (by decide) rfl rfl (al_21 _) (ok_21 (by decide)) rfl (fun h4 => ?_)
        refine gfN_X0_11 dX10_liesIn_30 33 rfl "SeaCells" (ns_44) (ok_2 (Nat.lt_of_lt_of_le (q_in_lt h4) (by decide))) ?_
        refine aw_iconst (x := 2) dX10_liesIn_33 34 rfl rfl ?_
        refine aw_icmp_ne dX10_liesIn_34 37 rfl 55 rfl (fun h5 => ?_) (fun h5 => ?_)
        · exact aw_conv [] rfl (he2 u1)
        · refine aw_aload_n (i := 0) dX10_liesIn_37 38 rfl rfl 0 rfl ?_
          refine gf_X10_4 dX10_liesIn_38 41 rfl wd_107 (ok_0 (by decide)) ?_
          refine aw_iload_n (i := 3) dX10_liesIn_41 42 rfl rfl 2 rfl ?_
          refine aw_aald dX10_liesIn_42 43 rfl at_21 (by decide) (by decide) rfl rfl (al_21 _) (ok_21 (by decide)) rfl (fun h6 => ?_)
          refine gfN_X0_7 dX10_liesIn_43 46 rfl "SeaCells" (ns_42) (ok_2 (Nat.lt_of_lt_of_le (q_in_lt h6) (by decide))) ?_
          refine gfN_X4_2 dX10_liesIn_46 49 rfl "SeaCells" (ns_22) (ok_5 (Nat.lt_of_lt_of_le (q_in_lt h6) (by decide))) ?_
          refine aw_callS (M2 := m_X10_isBoard) (cv := q_cI) dX10_liesIn_49 52 rfl (k_X10_isBoard l G (u1.1 5 (Int32.toNatClampNeg x3) 2)  u1) wd_108 wv_X10_isBoard pk_X10_isBoard rfl ⟨by decide, by decide⟩ ⟨Nat.zero_le _, Nat.zero_le _⟩ rfl (Nat.le_of_ble_eq_true rfl) (fun x5 u2 => ?_)
          show qAW l G m_X10_liesIn (q_mq G q_cI) 52 [(0, .ref (q_ad G 0 0)), (2, .int x2), (3, .int x3), (4, .int x4)] [.int x5] u2 _
          refine aw_if_ne dX10_liesIn_52 55 rfl 57 rfl (fun h7 => ?_) (fun h7 => ?_)
          · refine aw_aload_n (i := 0) dX10_liesIn_57 58 rfl rfl 0 rfl ?_
            refine gf_X10_4 dX10_liesIn_58 61 rfl wd_107 (ok_0 (by decide)) ?_
            refine aw_iload_n (i := 3) dX10_liesIn_61 62 rfl rfl 2 rfl ?_
            refine aw_aald dX10_liesIn_62 63 rfl at_21 (by decide) (by decide) rfl rfl (al_21 _) (ok_21 (by decide)) rfl (fun h8 => ?_)
            refine gfN_X0_7 dX10_liesIn_63 66 rfl "SeaCells" (ns_42) (ok_2 (Nat.lt_of_lt_of_le (q_in_lt h8) (by decide))) ?_
            refine gfN_X4_2 dX10_liesIn_66 69 rfl "SeaCells" (ns_22) (ok_5 (Nat.lt_of_lt_of_le (q_in_lt h8) (by decide))) ?_
            refine aw_lti (fun x6 => ?_)
            refine aw_istore_n dX10_liesIn_69 70 rfl rfl [(3, .int x6), (0, .ref (q_ad G 0 0)), (2, .int x2), (4, .int x4)] (by decide) rfl ?_
            refine aw_iload_n (i := 3) dX10_liesIn_70 71 rfl rfl 0 rfl ?_
            refine aw_iload_n (i := 2) dX10_liesIn_71 72 rfl rfl 2 rfl ?_
            refine aw_icmp_ne dX10_liesIn_72 75 rfl 77 rfl (fun h9 => ?_) (fun h9 => ?_)
            · refine aw_iincx (i := 4) dX10_liesIn_77 80 rfl 3 rfl 1 rfl (fun x7 => [(4, .int x7), (3, .int x6), (0, .ref (q_ad G 0 0)), (2, .int x2)]) (by decide) (fun _ => rfl) (fun x7 => ?_)
              refine aw_goto dX10_liesIn_80 5 rfl ?_
              exact aw_conv [2, 3, 1, 0] rfl (ih x6 x7 u2)
            · exact aw_conv [] rfl (he3 u2)
          · exact aw_conv [] rfl (he2 u2)
set_option maxRecDepth 100000 in
set_option maxHeartbeats 4000000 in
theorem k_X10_liesIn (l : Launch) (G : qG) (x1 : Int32) (x2 : Int32)  (u0 : qM) : qCt l G m_X10_liesIn q_cI [.ref (q_ad G 0 0), .int x1, .int x2] u0 (f_X10_liesIn x1 x2 u0) := by
  refine q_entry pk_X10_liesIn (Nat.le_of_ble_eq_true rfl) ?_
  show qAW l G m_X10_liesIn (q_mq G q_cI) 0 [(0, .ref (q_ad G 0 0)), (1, .int x1), (2, .int x2)] [] u0 (f_X10_liesIn x1 x2 u0)
  unfold f_X10_liesIn
  refine aw_iload_n (i := 1) dX10_liesIn_0 1 rfl rfl 1 rfl ?_
  refine aw_istore_n dX10_liesIn_1 2 rfl rfl [(3, .int x1), (0, .ref (q_ad G 0 0)), (1, .int x1), (2, .int x2)] (by decide) rfl ?_
  refine aw_iconst (x := 0) dX10_liesIn_2 3 rfl rfl ?_
  refine aw_istore dX10_liesIn_3 5 rfl [(4, .int 0), (3, .int x1), (0, .ref (q_ad G 0 0)), (1, .int x1), (2, .int x2)] (by decide) rfl ?_
  refine aw_conv [2, 4, 1, 0] rfl (TL_X10_liesIn_5 l G x2  _ _ _ ?_ ?_ ?_ _ x1 0 u0)
  · intro u3
    refine aw_iconst (x := 0) dX10_liesIn_83 84 rfl rfl ?_
    exact aw_zret dX10_liesIn_84 rfl (by decide)
  · intro u4
    refine aw_iconst (x := 0) dX10_liesIn_55 56 rfl rfl ?_
    exact aw_zret dX10_liesIn_56 rfl (by decide)
  · intro u5
    refine aw_iconst (x := 1) dX10_liesIn_75 76 rfl rfl ?_
    exact aw_zret dX10_liesIn_76 rfl (by decide)
theorem dX10_keep_0 : decode cX10_keep 0 = .ok (.aload_n 0, 1) := by decide +kernel
theorem dX10_keep_1 : decode cX10_keep 1 = .ok (.iload_n 2, 1) := by decide +kernel
theorem dX10_keep_2 : decode cX10_keep 2 = .ok (.invokestatic 157, 3) := by decide +kernel
theorem dX10_keep_5 : decode cX10_keep 5 = .ok (.ifCond .eq 12, 3) := by decide +kernel
theorem dX10_keep_8 : decode cX10_keep 8 = .ok (.iload_n 2, 1) := by decide +kernel
theorem dX10_keep_9 : decode cX10_keep 9 = .ok (.iload_n 1, 1) := by decide +kernel
theorem dX10_keep_10 : decode cX10_keep 10 = .ok (.if_icmp .eq 7, 3) := by decide +kernel
theorem dX10_keep_13 : decode cX10_keep 13 = .ok (.iconst 1, 1) := by decide +kernel
theorem dX10_keep_14 : decode cX10_keep 14 = .ok (.goto 4, 3) := by decide +kernel
theorem dX10_keep_17 : decode cX10_keep 17 = .ok (.iconst 0, 1) := by decide +kernel
theorem dX10_keep_18 : decode cX10_keep 18 = .ok (.iload_n 1, 1) := by decide +kernel
theorem dX10_keep_19 : decode cX10_keep 19 = .ok (.invokevirtual 170, 3) := by decide +kernel
theorem dX10_keep_22 : decode cX10_keep 22 = .ok (.istore_n 3, 1) := by decide +kernel
theorem dX10_keep_23 : decode cX10_keep 23 = .ok (.iload_n 3, 1) := by decide +kernel
theorem dX10_keep_24 : decode cX10_keep 24 = .ok (.ifCond .eq 5, 3) := by decide +kernel
theorem dX10_keep_27 : decode cX10_keep 27 = .ok (.iload_n 3, 1) := by decide +kernel
theorem dX10_keep_28 : decode cX10_keep 28 = .ok (.ireturn, 1) := by decide +kernel
theorem dX10_keep_29 : decode cX10_keep 29 = .ok (.aload_n 0, 1) := by decide +kernel
theorem dX10_keep_30 : decode cX10_keep 30 = .ok (.iload_n 1, 1) := by decide +kernel
theorem dX10_keep_31 : decode cX10_keep 31 = .ok (.iload_n 2, 1) := by decide +kernel
theorem dX10_keep_32 : decode cX10_keep 32 = .ok (.invokevirtual 269, 3) := by decide +kernel
theorem dX10_keep_35 : decode cX10_keep 35 = .ok (.ifCond .eq 6, 3) := by decide +kernel
theorem dX10_keep_38 : decode cX10_keep 38 = .ok (.bipush (-4), 2) := by decide +kernel
theorem dX10_keep_40 : decode cX10_keep 40 = .ok (.ireturn, 1) := by decide +kernel
theorem dX10_keep_41 : decode cX10_keep 41 = .ok (.aload_n 0, 1) := by decide +kernel
theorem dX10_keep_42 : decode cX10_keep 42 = .ok (.iload_n 2, 1) := by decide +kernel
theorem dX10_keep_43 : decode cX10_keep 43 = .ok (.invokevirtual 160, 3) := by decide +kernel
theorem dX10_keep_46 : decode cX10_keep 46 = .ok (.aload_n 0, 1) := by decide +kernel
theorem dX10_keep_47 : decode cX10_keep 47 = .ok (.getfield 30, 3) := by decide +kernel
theorem dX10_keep_50 : decode cX10_keep 50 = .ok (.iload_n 2, 1) := by decide +kernel
theorem dX10_keep_51 : decode cX10_keep 51 = .ok (.aaload, 1) := by decide +kernel
theorem dX10_keep_52 : decode cX10_keep 52 = .ok (.aload_n 0, 1) := by decide +kernel
theorem dX10_keep_53 : decode cX10_keep 53 = .ok (.getfield 30, 3) := by decide +kernel
theorem dX10_keep_56 : decode cX10_keep 56 = .ok (.iload_n 1, 1) := by decide +kernel
theorem dX10_keep_57 : decode cX10_keep 57 = .ok (.aaload, 1) := by decide +kernel
theorem dX10_keep_58 : decode cX10_keep 58 = .ok (.invokevirtual 272, 3) := by decide +kernel
theorem dX10_keep_61 : decode cX10_keep 61 = .ok (.aload_n 0, 1) := by decide +kernel
theorem dX10_keep_62 : decode cX10_keep 62 = .ok (.getfield 30, 3) := by decide +kernel
theorem dX10_keep_65 : decode cX10_keep 65 = .ok (.iload_n 2, 1) := by decide +kernel
theorem dX10_keep_66 : decode cX10_keep 66 = .ok (.aaload, 1) := by decide +kernel
theorem dX10_keep_67 : decode cX10_keep 67 = .ok (.getfield 276, 3) := by decide +kernel
theorem dX10_keep_70 : decode cX10_keep 70 = .ok (.iconst 2, 1) := by decide +kernel
theorem dX10_keep_71 : decode cX10_keep 71 = .ok (.if_icmp .ne 13, 3) := by decide +kernel
theorem dX10_keep_74 : decode cX10_keep 74 = .ok (.aload_n 0, 1) := by decide +kernel
theorem dX10_keep_75 : decode cX10_keep 75 = .ok (.getfield 30, 3) := by decide +kernel
theorem dX10_keep_78 : decode cX10_keep 78 = .ok (.iload_n 2, 1) := by decide +kernel
theorem dX10_keep_79 : decode cX10_keep 79 = .ok (.aaload, 1) := by decide +kernel
theorem dX10_keep_80 : decode cX10_keep 80 = .ok (.iconst 0, 1) := by decide +kernel
theorem dX10_keep_81 : decode cX10_keep 81 = .ok (.putfield 276, 3) := by decide +kernel
theorem dX10_keep_84 : decode cX10_keep 84 = .ok (.aload_n 0, 1) := by decide +kernel
theorem dX10_keep_85 : decode cX10_keep 85 = .ok (.getfield 30, 3) := by decide +kernel
theorem dX10_keep_88 : decode cX10_keep 88 = .ok (.iload_n 2, 1) := by decide +kernel
theorem dX10_keep_89 : decode cX10_keep 89 = .ok (.aaload, 1) := by decide +kernel
theorem dX10_keep_90 : decode cX10_keep 90 = .ok (.invokevirtual 166, 3) := by decide +kernel
theorem dX10_keep_93 : decode cX10_keep 93 = .ok (.ireturn, 1) := by decide +kernel
noncomputable def f_X10_keep (x1 : Int32) (x2 : Int32) (u0 : qM) : Option (Int32 × qM) :=
  q_bd (f_X10_isBoard x2 u0) (fun (x3 : Int32) (u1 : qM) => q_jn (fun (x4 : Int32) (u2 : qM) => q_bd (f_X10_boardRefused x4 x1 u2) (fun (x5 : Int32) (u3 : qM) => if x5 = 0 then q_bd (f_X10_liesIn x1 x2 u3) (fun (x6 : Int32) (u4 : qM) => if x6 = 0 then q_bd (f_X10_clear x2 u4) (fun (_z : Unit) (u5 : qM) => q_ck (q_in x2 6) (q_ck (q_in x1 6) (q_bd (f_X0_takeOver (Int32.toNatClampNeg x2) (Int32.toNatClampNeg x1) u5) (fun (_z : Unit) (u6 : qM) => q_ck (q_in x2 6) (q_jn (fun  (u7 : qM) => q_ck (q_in x2 6) (q_bd (f_X0_cells (Int32.toNatClampNeg x2) u7) (fun (x7 : Int32) (u8 : qM) => some (x7, u8)))) (fun j2 => if (u6.1 2 (Int32.toNatClampNeg x2) 11) = 2 then q_ck (q_in x2 6) (q_lt (q_si u6 2 (Int32.toNatClampNeg x2) 11 0) (fun (u9 : qM) => j2 u9)) else j2 u6)))))) else some ((-4), u4)) else some (x5, u3))) (fun j1 => q_jn (fun  (u10 : qM) => j1 0 u10) (fun j3 => if x3 = 0 then j3 u1 else if x2 = x1 then j3 u1 else j1 1 u1)))
set_option maxRecDepth 100000 in
set_option maxHeartbeats 4000000 in
theorem k_X10_keep (l : Launch) (G : qG) (x1 : Int32) (x2 : Int32)  (u0 : qM) : qCt l G m_X10_keep q_cI [.ref (q_ad G 0 0), .int x1, .int x2] u0 (f_X10_keep x1 x2 u0) := by
  refine q_entry pk_X10_keep (Nat.le_of_ble_eq_true rfl) ?_
  show qAW l G m_X10_keep (q_mq G q_cI) 0 [(0, .ref (q_ad G 0 0)), (1, .int x1), (2, .int x2)] [] u0 (f_X10_keep x1 x2 u0)
  unfold f_X10_keep
  refine aw_aload_n (i := 0) dX10_keep_0 1 rfl rfl 0 rfl ?_
  refine aw_iload_n (i := 2) dX10_keep_1 2 rfl rfl 2 rfl ?_
  refine aw_callS (M2 := m_X10_isBoard) (cv := q_cI) dX10_keep_2 5 rfl (k_X10_isBoard l G x2  u0) wd_108 wv_X10_isBoard pk_X10_isBoard rfl ⟨by decide, by decide⟩ ⟨Nat.zero_le _, Nat.zero_le _⟩ rfl (Nat.le_of_ble_eq_true rfl) (fun x3 u1 => ?_)
  show qAW l G m_X10_keep (q_mq G q_cI) 5 [(0, .ref (q_ad G 0 0)), (1, .int x1), (2, .int x2)] [.int x3, .ref (q_ad G 0 0)] u1 _
  refine aw_jn (fun k => ∀ (x4 : Int32) (u2 : qM), qAW l G m_X10_keep (q_mq G q_cI) 18 [(0, .ref (q_ad G 0 0)), (1, .int x1), (2, .int x2)] [.int x4, .ref (q_ad G 0 0)] u2 (k x4 u2)) ?_ ?_
  · intro x4 u2
    refine aw_iload_n (i := 1) dX10_keep_18 19 rfl rfl 1 rfl ?_
    refine aw_callV (M2 := m_X10_boardRefused) (cv := q_cI) dX10_keep_19 22 rfl (k_X10_boardRefused l G x4 x1  u2) wd_116 wv_X10_boardRefused pk_X10_boardRefused rfl rfl ⟨by decide, by decide⟩ ⟨Nat.zero_le _, Nat.zero_le _⟩ at_0 (ok_0 (by decide)) rfl rfl rfl (Nat.le_of_ble_eq_true rfl) (fun x5 u3 => ?_)
    show qAW l G m_X10_keep (q_mq G q_cI) 22 [(0, .ref (q_ad G 0 0)), (1, .int x1), (2, .int x2)] [.int x5] u3 _
    refine aw_istore_n dX10_keep_22 23 rfl rfl [(3, .int x5), (0, .ref (q_ad G 0 0)), (1, .int x1), (2, .int x2)] (by decide) rfl ?_
    refine aw_iload_n (i := 3) dX10_keep_23 24 rfl rfl 0 rfl ?_
    refine aw_if_eq dX10_keep_24 27 rfl 29 rfl (fun h2 => ?_) (fun h2 => ?_)
    · refine aw_aload_n (i := 0) dX10_keep_29 30 rfl rfl 1 rfl ?_
      refine aw_iload_n (i := 1) dX10_keep_30 31 rfl rfl 2 rfl ?_
      refine aw_iload_n (i := 2) dX10_keep_31 32 rfl rfl 3 rfl ?_
      refine aw_callV (M2 := m_X10_liesIn) (cv := q_cI) dX10_keep_32 35 rfl (k_X10_liesIn l G x1 x2  u3) wd_134 wv_X10_liesIn pk_X10_liesIn rfl rfl ⟨by decide, by decide⟩ ⟨Nat.zero_le _, Nat.zero_le _⟩ at_0 (ok_0 (by decide)) rfl rfl rfl (Nat.le_of_ble_eq_true rfl) (fun x6 u4 => ?_)
      show qAW l G m_X10_keep (q_mq G q_cI) 35 [(3, .int x5), (0, .ref (q_ad G 0 0)), (1, .int x1), (2, .int x2)] [.int x6] u4 _
      refine aw_if_eq dX10_keep_35 38 rfl 41 rfl (fun h3 => ?_) (fun h3 => ?_)
      · refine aw_aload_n (i := 0) dX10_keep_41 42 rfl rfl 1 rfl ?_
        refine aw_iload_n (i := 2) dX10_keep_42 43 rfl rfl 3 rfl ?_
        refine aw_callV (M2 := m_X10_clear) (cv := q_cU) dX10_keep_43 46 rfl (k_X10_clear l G x2  u4) wd_113 wv_X10_clear pk_X10_clear rfl rfl ⟨by decide, by decide⟩ ⟨Nat.zero_le _, Nat.zero_le _⟩ at_0 (ok_0 (by decide)) rfl rfl rfl (Nat.le_of_ble_eq_true rfl) (fun _z u5 => ?_)
        show qAW l G m_X10_keep (q_mq G q_cI) 46 [(3, .int x5), (0, .ref (q_ad G 0 0)), (1, .int x1), (2, .int x2)] [] u5 _
        refine aw_aload_n (i := 0) dX10_keep_46 47 rfl rfl 1 rfl ?_
        refine gf_X10_4 dX10_keep_47 50 rfl wd_107 (ok_0 (by decide)) ?_
        refine aw_iload_n (i := 2) dX10_keep_50 51 rfl rfl 3 rfl ?_
        refine aw_aald dX10_keep_51 52 rfl at_21 (by decide) (by decide) rfl rfl (al_21 _) (ok_21 (by decide)) rfl (fun h4 => ?_)
        refine aw_aload_n (i := 0) dX10_keep_52 53 rfl rfl 1 rfl ?_
        refine gf_X10_4 dX10_keep_53 56 rfl wd_107 (ok_0 (by decide)) ?_
        refine aw_iload_n (i := 1) dX10_keep_56 57 rfl rfl 2 rfl ?_
        refine aw_aald dX10_keep_57 58 rfl at_21 (by decide) (by decide) rfl rfl (al_21 _) (ok_21 (by decide)) rfl (fun h5 => ?_)
        refine aw_callV (M2 := m_X0_takeOver) (cv := q_cU) dX10_keep_58 61 rfl (k_X0_takeOver l G (Int32.toNatClampNeg x2) (Int32.toNatClampNeg x1) (Nat.lt_of_lt_of_le (q_in_lt h4) (by decide)) (Nat.lt_of_lt_of_le (q_in_lt h5) (by decide)) u5) wd_135 wv_X0_takeOver pk_X0_takeOver rfl rfl ⟨by decide, by decide⟩ ⟨Nat.zero_le _, Nat.zero_le _⟩ at_2 (ok_2 (Nat.lt_of_lt_of_le (q_in_lt h4) (by decide))) rfl rfl rfl (Nat.le_of_ble_eq_true rfl) (fun _z u6 => ?_)
        show qAW l G m_X10_keep (q_mq G q_cI) 61 [(3, .int x5), (0, .ref (q_ad G 0 0)), (1, .int x1), (2, .int x2)] [] u6 _
        refine aw_aload_n (i := 0) dX10_keep_61 62 rfl rfl 1 rfl ?_
        refine gf_X10_4 dX10_keep_62 65 rfl wd_107 (ok_0 (by decide)) ?_
        refine aw_iload_n (i := 2) dX10_keep_65 66 rfl rfl 3 rfl ?_
        refine aw_aald dX10_keep_66 67 rfl at_21 (by decide) (by decide) rfl rfl (al_21 _) (ok_21 (by decide)) rfl (fun h6 => ?_)
        refine gfN_X0_11 dX10_keep_67 70 rfl "SeaCells" (ns_44) (ok_2 (Nat.lt_of_lt_of_le (q_in_lt h6) (by decide))) ?_
        refine aw_iconst (x := 2) dX10_keep_70 71 rfl rfl ?_
        refine aw_jn (fun k => ∀  (u7 : qM), qAW l G m_X10_keep (q_mq G q_cI) 84 [(0, .ref (q_ad G 0 0)), (2, .int x2)] [] u7 (k u7)) ?_ ?_
        · intro u7
          refine aw_aload_n (i := 0) dX10_keep_84 85 rfl rfl 0 rfl ?_
          refine gf_X10_4 dX10_keep_85 88 rfl wd_107 (ok_0 (by decide)) ?_
          refine aw_iload_n (i := 2) dX10_keep_88 89 rfl rfl 1 rfl ?_
          refine aw_aald dX10_keep_89 90 rfl at_21 (by decide) (by decide) rfl rfl (al_21 _) (ok_21 (by decide)) rfl (fun h8 => ?_)
          refine aw_callV (M2 := m_X0_cells) (cv := q_cI) dX10_keep_90 93 rfl (k_X0_cells l G (Int32.toNatClampNeg x2) (Nat.lt_of_lt_of_le (q_in_lt h8) (by decide)) u7) wd_115 wv_X0_cells pk_X0_cells rfl rfl ⟨by decide, by decide⟩ ⟨Nat.zero_le _, Nat.zero_le _⟩ at_2 (ok_2 (Nat.lt_of_lt_of_le (q_in_lt h8) (by decide))) rfl rfl rfl (Nat.le_of_ble_eq_true rfl) (fun x7 u8 => ?_)
          show qAW l G m_X10_keep (q_mq G q_cI) 93 [(0, .ref (q_ad G 0 0)), (2, .int x2)] [.int x7] u8 _
          exact aw_iret dX10_keep_93 rfl
        · intro j2 hj2
          refine aw_icmp_ne dX10_keep_71 74 rfl 84 rfl (fun h7 => ?_) (fun h7 => ?_)
          · exact aw_conv [1, 3] rfl (hj2 u6)
          · refine aw_aload_n (i := 0) dX10_keep_74 75 rfl rfl 1 rfl ?_
            refine gf_X10_4 dX10_keep_75 78 rfl wd_107 (ok_0 (by decide)) ?_
            refine aw_iload_n (i := 2) dX10_keep_78 79 rfl rfl 3 rfl ?_
            refine aw_aald dX10_keep_79 80 rfl at_21 (by decide) (by decide) rfl rfl (al_21 _) (ok_21 (by decide)) rfl (fun h9 => ?_)
            refine aw_iconst (x := 0) dX10_keep_80 81 rfl rfl ?_
            refine pfN_X0_11 dX10_keep_81 84 rfl "SeaCells" (ns_44) (ok_2 (Nat.lt_of_lt_of_le (q_in_lt h9) (by decide))) ?_
            refine aw_ltm (fun u9 => ?_)
            exact aw_conv [1, 3] rfl (hj2 u9)
      · refine aw_bipush (x := (-4)) dX10_keep_38 40 rfl rfl ?_
        exact aw_iret dX10_keep_40 rfl
    · refine aw_iload_n (i := 3) dX10_keep_27 28 rfl rfl 0 rfl ?_
      exact aw_iret dX10_keep_28 rfl
  · intro j1 hj1
    refine aw_jn (fun k => ∀  (u10 : qM), qAW l G m_X10_keep (q_mq G q_cI) 17 [(0, .ref (q_ad G 0 0)), (1, .int x1), (2, .int x2)] [.ref (q_ad G 0 0)] u10 (k u10)) ?_ ?_
    · intro u10
      refine aw_iconst (x := 0) dX10_keep_17 18 rfl rfl ?_
      exact hj1 0 u10
    · intro j3 hj3
      refine aw_if_eq dX10_keep_5 8 rfl 17 rfl (fun h1 => ?_) (fun h1 => ?_)
      · exact hj3 u1
      · refine aw_iload_n (i := 2) dX10_keep_8 9 rfl rfl 2 rfl ?_
        refine aw_iload_n (i := 1) dX10_keep_9 10 rfl rfl 1 rfl ?_
        refine aw_icmp_eq dX10_keep_10 13 rfl 17 rfl (fun h10 => ?_) (fun h10 => ?_)
        · exact hj3 u1
        · refine aw_iconst (x := 1) dX10_keep_13 14 rfl rfl ?_
          refine aw_goto dX10_keep_14 18 rfl ?_
          exact hj1 1 u1
theorem dX10_bearsNest_0 : decode cX10_bearsNest 0 = .ok (.iconst 0, 1) := by decide +kernel
theorem dX10_bearsNest_1 : decode cX10_bearsNest 1 = .ok (.istore_n 2, 1) := by decide +kernel
theorem dX10_bearsNest_2 : decode cX10_bearsNest 2 = .ok (.iload_n 2, 1) := by decide +kernel
theorem dX10_bearsNest_3 : decode cX10_bearsNest 3 = .ok (.bipush 6, 2) := by decide +kernel
theorem dX10_bearsNest_5 : decode cX10_bearsNest 5 = .ok (.if_icmp .ge 52, 3) := by decide +kernel
theorem dX10_bearsNest_8 : decode cX10_bearsNest 8 = .ok (.aload_n 0, 1) := by decide +kernel
theorem dX10_bearsNest_9 : decode cX10_bearsNest 9 = .ok (.getfield 30, 3) := by decide +kernel
theorem dX10_bearsNest_12 : decode cX10_bearsNest 12 = .ok (.iload_n 2, 1) := by decide +kernel
theorem dX10_bearsNest_13 : decode cX10_bearsNest 13 = .ok (.aaload, 1) := by decide +kernel
theorem dX10_bearsNest_14 : decode cX10_bearsNest 14 = .ok (.getfield 305, 3) := by decide +kernel
theorem dX10_bearsNest_17 : decode cX10_bearsNest 17 = .ok (.ifCond .eq 34, 3) := by decide +kernel
theorem dX10_bearsNest_20 : decode cX10_bearsNest 20 = .ok (.aload_n 0, 1) := by decide +kernel
theorem dX10_bearsNest_21 : decode cX10_bearsNest 21 = .ok (.getfield 30, 3) := by decide +kernel
theorem dX10_bearsNest_24 : decode cX10_bearsNest 24 = .ok (.iload_n 2, 1) := by decide +kernel
theorem dX10_bearsNest_25 : decode cX10_bearsNest 25 = .ok (.aaload, 1) := by decide +kernel
theorem dX10_bearsNest_26 : decode cX10_bearsNest 26 = .ok (.getfield 276, 3) := by decide +kernel
theorem dX10_bearsNest_29 : decode cX10_bearsNest 29 = .ok (.iconst 2, 1) := by decide +kernel
theorem dX10_bearsNest_30 : decode cX10_bearsNest 30 = .ok (.if_icmp .ne 21, 3) := by decide +kernel
theorem dX10_bearsNest_33 : decode cX10_bearsNest 33 = .ok (.aload_n 0, 1) := by decide +kernel
theorem dX10_bearsNest_34 : decode cX10_bearsNest 34 = .ok (.getfield 30, 3) := by decide +kernel
theorem dX10_bearsNest_37 : decode cX10_bearsNest 37 = .ok (.iload_n 2, 1) := by decide +kernel
theorem dX10_bearsNest_38 : decode cX10_bearsNest 38 = .ok (.aaload, 1) := by decide +kernel
theorem dX10_bearsNest_39 : decode cX10_bearsNest 39 = .ok (.getfield 309, 3) := by decide +kernel
theorem dX10_bearsNest_42 : decode cX10_bearsNest 42 = .ok (.getfield 313, 3) := by decide +kernel
theorem dX10_bearsNest_45 : decode cX10_bearsNest 45 = .ok (.iload_n 1, 1) := by decide +kernel
theorem dX10_bearsNest_46 : decode cX10_bearsNest 46 = .ok (.if_icmp .ne 5, 3) := by decide +kernel
theorem dX10_bearsNest_49 : decode cX10_bearsNest 49 = .ok (.iconst 1, 1) := by decide +kernel
theorem dX10_bearsNest_50 : decode cX10_bearsNest 50 = .ok (.ireturn, 1) := by decide +kernel
theorem dX10_bearsNest_51 : decode cX10_bearsNest 51 = .ok (.iinc 2 1, 3) := by decide +kernel
theorem dX10_bearsNest_54 : decode cX10_bearsNest 54 = .ok (.goto (-52), 3) := by decide +kernel
theorem dX10_bearsNest_57 : decode cX10_bearsNest 57 = .ok (.iconst 0, 1) := by decide +kernel
theorem dX10_bearsNest_58 : decode cX10_bearsNest 58 = .ok (.ireturn, 1) := by decide +kernel
noncomputable def L_X10_bearsNest_2 (x1 : Int32) : Nat → Int32 → qM → (qM → Option (Int32 × qM)) → (qM → Option (Int32 × qM)) → Option (Int32 × qM)
  | 0, _, _, _, _ => none
  | n + 1, x2, u1, e1, e2 => if 6 ≤ x2 then e1 u1 else q_ck (q_in x2 6) (q_jn (fun  (u2 : qM) => q_lt (x2 + 1) (fun (x3 : Int32) => L_X10_bearsNest_2 x1 n x3 u2 e1 e2)) (fun j1 => if (u1.1 2 (Int32.toNatClampNeg x2) 10) = 0 then j1 u1 else q_ck (q_in x2 6) (if (u1.1 2 (Int32.toNatClampNeg x2) 11) = 2 then q_ck (q_in x2 6) (if (u1.1 5 (Int32.toNatClampNeg x2) 2) = x1 then e2 u1 else j1 u1) else j1 u1)))
noncomputable def f_X10_bearsNest (x1 : Int32) (u0 : qM) : Option (Int32 × qM) :=
  L_X10_bearsNest_2 x1 q_fu 0 u0 (fun u3 => some (0, u3)) (fun u4 => some (1, u4))
set_option maxRecDepth 100000 in
set_option maxHeartbeats 4000000 in
theorem TL_X10_bearsNest_2 (l : Launch) (G : qG) (x1 : Int32)  (e1 : qM → Option (Int32 × qM)) (e2 : qM → Option (Int32 × qM)) (he1 : ∀  (v : qM), qAW l G m_X10_bearsNest (q_mq G q_cI) 57 [] [] v (e1 v)) (he2 : ∀  (v : qM), qAW l G m_X10_bearsNest (q_mq G q_cI) 49 [] [] v (e2 v)) : ∀ (n : Nat) (x2 : Int32) (u1 : qM), qAW l G m_X10_bearsNest (q_mq G q_cI) 2 [(0, .ref (q_ad G 0 0)), (1, .int x1), (2, .int x2)] [] u1 (L_X10_bearsNest_2 x1 n x2 u1 e1 e2) := by
  intro n
  induction n with
  | zero => intros; exact aw_none
  | succ n ih =>
    intro x2 u1
    unfold L_X10_bearsNest_2
    refine aw_iload_n (i := 2) dX10_bearsNest_2 3 rfl rfl 2 rfl ?_
    refine aw_bipush (x := 6) dX10_bearsNest_3 5 rfl rfl ?_
    refine aw_icmp_ge dX10_bearsNest_5 8 rfl 57 rfl (fun h1 => ?_) (fun h1 => ?_)
    · exact aw_conv [] rfl (he1 u1)
    · refine aw_aload_n (i := 0) dX10_bearsNest_8 9 rfl rfl 0 rfl ?_
      refine gf_X10_4 dX10_bearsNest_9 12 rfl wd_107 (ok_0 (by decide)) ?_
      refine aw_iload_n (i := 2) dX10_bearsNest_12 13 rfl rfl 2 rfl ?_
      refine aw_aald dX10_bearsNest_13 14 rfl at_21 (by decide) (by decide) rfl rfl (al_21 _) (ok_21 (by decide)) rfl (fun h2 => ?_)
      refine gfN_X0_10 dX10_bearsNest_14 17 rfl "SeaCells" (ns_43) (ok_2 (Nat.lt_of_lt_of_le (q_in_lt h2) (by decide))) ?_
      refine aw_jn (fun k => ∀  (u2 : qM), qAW l G m_X10_bearsNest (q_mq G q_cI) 51 [(0, .ref (q_ad G 0 0)), (1, .int x1), (2, .int x2)] [] u2 (k u2)) ?_ ?_
      · intro u2
        refine aw_iincx (i := 2) dX10_bearsNest_51 54 rfl 2 rfl 1 rfl (fun x3 => [(2, .int x3), (0, .ref (q_ad G 0 0)), (1, .int x1)]) (by decide) (fun _ => rfl) (fun x3 => ?_)
        refine aw_goto dX10_bearsNest_54 2 rfl ?_
        exact aw_conv [1, 2, 0] rfl (ih x3 u2)
      · intro j1 hj1
        refine aw_if_eq dX10_bearsNest_17 20 rfl 51 rfl (fun h3 => ?_) (fun h3 => ?_)
        · exact hj1 u1
        · refine aw_aload_n (i := 0) dX10_bearsNest_20 21 rfl rfl 0 rfl ?_
          refine gf_X10_4 dX10_bearsNest_21 24 rfl wd_107 (ok_0 (by decide)) ?_
          refine aw_iload_n (i := 2) dX10_bearsNest_24 25 rfl rfl 2 rfl ?_
          refine aw_aald dX10_bearsNest_25 26 rfl at_21 (by decide) (by decide) rfl rfl (al_21 _) (ok_21 (by decide)) rfl (fun h4 => ?_)
          refine gfN_X0_11 dX10_bearsNest_26 29 rfl "SeaCells" (ns_44) (ok_2 (Nat.lt_of_lt_of_le (q_in_lt h4) (by decide))) ?_
          refine aw_iconst (x := 2) dX10_bearsNest_29 30 rfl rfl ?_
          refine aw_icmp_ne dX10_bearsNest_30 33 rfl 51 rfl (fun h5 => ?_) (fun h5 => ?_)
          · exact hj1 u1
          · refine aw_aload_n (i := 0) dX10_bearsNest_33 34 rfl rfl 0 rfl ?_
            refine gf_X10_4 dX10_bearsNest_34 37 rfl wd_107 (ok_0 (by decide)) ?_
            refine aw_iload_n (i := 2) dX10_bearsNest_37 38 rfl rfl 2 rfl ?_
            refine aw_aald dX10_bearsNest_38 39 rfl at_21 (by decide) (by decide) rfl rfl (al_21 _) (ok_21 (by decide)) rfl (fun h6 => ?_)
            refine gfN_X0_7 dX10_bearsNest_39 42 rfl "SeaCells" (ns_42) (ok_2 (Nat.lt_of_lt_of_le (q_in_lt h6) (by decide))) ?_
            refine gfN_X4_2 dX10_bearsNest_42 45 rfl "SeaCells" (ns_22) (ok_5 (Nat.lt_of_lt_of_le (q_in_lt h6) (by decide))) ?_
            refine aw_iload_n (i := 1) dX10_bearsNest_45 46 rfl rfl 1 rfl ?_
            refine aw_icmp_ne dX10_bearsNest_46 49 rfl 51 rfl (fun h7 => ?_) (fun h7 => ?_)
            · exact hj1 u1
            · exact aw_conv [] rfl (he2 u1)
set_option maxRecDepth 100000 in
set_option maxHeartbeats 4000000 in
theorem k_X10_bearsNest (l : Launch) (G : qG) (x1 : Int32)  (u0 : qM) : qCt l G m_X10_bearsNest q_cI [.ref (q_ad G 0 0), .int x1] u0 (f_X10_bearsNest x1 u0) := by
  refine q_entry pk_X10_bearsNest (Nat.le_of_ble_eq_true rfl) ?_
  show qAW l G m_X10_bearsNest (q_mq G q_cI) 0 [(0, .ref (q_ad G 0 0)), (1, .int x1)] [] u0 (f_X10_bearsNest x1 u0)
  unfold f_X10_bearsNest
  refine aw_iconst (x := 0) dX10_bearsNest_0 1 rfl rfl ?_
  refine aw_istore_n dX10_bearsNest_1 2 rfl rfl [(2, .int 0), (0, .ref (q_ad G 0 0)), (1, .int x1)] (by decide) rfl ?_
  refine aw_conv [1, 2, 0] rfl (TL_X10_bearsNest_2 l G x1  _ _ ?_ ?_ _ 0 u0)
  · intro u3
    refine aw_iconst (x := 0) dX10_bearsNest_57 58 rfl rfl ?_
    exact aw_zret dX10_bearsNest_58 rfl (by decide)
  · intro u4
    refine aw_iconst (x := 1) dX10_bearsNest_49 50 rfl rfl ?_
    exact aw_zret dX10_bearsNest_50 rfl (by decide)
theorem dX10_mirror_0 : decode cX10_mirror 0 = .ok (.aload_n 0, 1) := by decide +kernel
theorem dX10_mirror_1 : decode cX10_mirror 1 = .ok (.iconst 1, 1) := by decide +kernel
theorem dX10_mirror_2 : decode cX10_mirror 2 = .ok (.iload_n 1, 1) := by decide +kernel
theorem dX10_mirror_3 : decode cX10_mirror 3 = .ok (.invokevirtual 170, 3) := by decide +kernel
theorem dX10_mirror_6 : decode cX10_mirror 6 = .ok (.istore_n 2, 1) := by decide +kernel
theorem dX10_mirror_7 : decode cX10_mirror 7 = .ok (.iload_n 2, 1) := by decide +kernel
theorem dX10_mirror_8 : decode cX10_mirror 8 = .ok (.ifCond .eq 5, 3) := by decide +kernel
theorem dX10_mirror_11 : decode cX10_mirror 11 = .ok (.iload_n 2, 1) := by decide +kernel
theorem dX10_mirror_12 : decode cX10_mirror 12 = .ok (.ireturn, 1) := by decide +kernel
theorem dX10_mirror_13 : decode cX10_mirror 13 = .ok (.aload_n 0, 1) := by decide +kernel
theorem dX10_mirror_14 : decode cX10_mirror 14 = .ok (.getfield 30, 3) := by decide +kernel
theorem dX10_mirror_17 : decode cX10_mirror 17 = .ok (.iload_n 1, 1) := by decide +kernel
theorem dX10_mirror_18 : decode cX10_mirror 18 = .ok (.aaload, 1) := by decide +kernel
theorem dX10_mirror_19 : decode cX10_mirror 19 = .ok (.astore_n 3, 1) := by decide +kernel
theorem dX10_mirror_20 : decode cX10_mirror 20 = .ok (.aload_n 3, 1) := by decide +kernel
theorem dX10_mirror_21 : decode cX10_mirror 21 = .ok (.getfield 276, 3) := by decide +kernel
theorem dX10_mirror_24 : decode cX10_mirror 24 = .ok (.iconst 2, 1) := by decide +kernel
theorem dX10_mirror_25 : decode cX10_mirror 25 = .ok (.if_icmp .ne 9, 3) := by decide +kernel
theorem dX10_mirror_28 : decode cX10_mirror 28 = .ok (.aload_n 0, 1) := by decide +kernel
theorem dX10_mirror_29 : decode cX10_mirror 29 = .ok (.iconst 3, 1) := by decide +kernel
theorem dX10_mirror_30 : decode cX10_mirror 30 = .ok (.invokevirtual 91, 3) := by decide +kernel
theorem dX10_mirror_33 : decode cX10_mirror 33 = .ok (.ireturn, 1) := by decide +kernel
theorem dX10_mirror_34 : decode cX10_mirror 34 = .ok (.aload_n 0, 1) := by decide +kernel
theorem dX10_mirror_35 : decode cX10_mirror 35 = .ok (.iload_n 1, 1) := by decide +kernel
theorem dX10_mirror_36 : decode cX10_mirror 36 = .ok (.invokevirtual 279, 3) := by decide +kernel
theorem dX10_mirror_39 : decode cX10_mirror 39 = .ok (.ifCond .eq 6, 3) := by decide +kernel
theorem dX10_mirror_42 : decode cX10_mirror 42 = .ok (.bipush (-4), 2) := by decide +kernel
theorem dX10_mirror_44 : decode cX10_mirror 44 = .ok (.ireturn, 1) := by decide +kernel
theorem dX10_mirror_45 : decode cX10_mirror 45 = .ok (.aload_n 3, 1) := by decide +kernel
theorem dX10_mirror_46 : decode cX10_mirror 46 = .ok (.invokevirtual 282, 3) := by decide +kernel
theorem dX10_mirror_49 : decode cX10_mirror 49 = .ok (.iconst 0, 1) := by decide +kernel
theorem dX10_mirror_50 : decode cX10_mirror 50 = .ok (.istore 4, 2) := by decide +kernel
theorem dX10_mirror_52 : decode cX10_mirror 52 = .ok (.iload 4, 2) := by decide +kernel
theorem dX10_mirror_54 : decode cX10_mirror 54 = .ok (.bipush 8, 2) := by decide +kernel
theorem dX10_mirror_56 : decode cX10_mirror 56 = .ok (.if_icmp .ge 47, 3) := by decide +kernel
theorem dX10_mirror_59 : decode cX10_mirror 59 = .ok (.aload_n 0, 1) := by decide +kernel
theorem dX10_mirror_60 : decode cX10_mirror 60 = .ok (.getfield 55, 3) := by decide +kernel
theorem dX10_mirror_63 : decode cX10_mirror 63 = .ok (.iload 4, 2) := by decide +kernel
theorem dX10_mirror_65 : decode cX10_mirror 65 = .ok (.aaload, 1) := by decide +kernel
theorem dX10_mirror_66 : decode cX10_mirror 66 = .ok (.getfield 285, 3) := by decide +kernel
theorem dX10_mirror_69 : decode cX10_mirror 69 = .ok (.iload_n 1, 1) := by decide +kernel
theorem dX10_mirror_70 : decode cX10_mirror 70 = .ok (.if_icmp .ne 27, 3) := by decide +kernel
theorem dX10_mirror_73 : decode cX10_mirror 73 = .ok (.aload_n 0, 1) := by decide +kernel
theorem dX10_mirror_74 : decode cX10_mirror 74 = .ok (.getfield 55, 3) := by decide +kernel
theorem dX10_mirror_77 : decode cX10_mirror 77 = .ok (.iload 4, 2) := by decide +kernel
theorem dX10_mirror_79 : decode cX10_mirror 79 = .ok (.aaload, 1) := by decide +kernel
theorem dX10_mirror_80 : decode cX10_mirror 80 = .ok (.aload_n 3, 1) := by decide +kernel
theorem dX10_mirror_81 : decode cX10_mirror 81 = .ok (.aload_n 0, 1) := by decide +kernel
theorem dX10_mirror_82 : decode cX10_mirror 82 = .ok (.getfield 55, 3) := by decide +kernel
theorem dX10_mirror_85 : decode cX10_mirror 85 = .ok (.iload 4, 2) := by decide +kernel
theorem dX10_mirror_87 : decode cX10_mirror 87 = .ok (.aaload, 1) := by decide +kernel
theorem dX10_mirror_88 : decode cX10_mirror 88 = .ok (.getfield 288, 3) := by decide +kernel
theorem dX10_mirror_91 : decode cX10_mirror 91 = .ok (.invokevirtual 290, 3) := by decide +kernel
theorem dX10_mirror_94 : decode cX10_mirror 94 = .ok (.putfield 288, 3) := by decide +kernel
theorem dX10_mirror_97 : decode cX10_mirror 97 = .ok (.iinc 4 1, 3) := by decide +kernel
theorem dX10_mirror_100 : decode cX10_mirror 100 = .ok (.goto (-48), 3) := by decide +kernel
theorem dX10_mirror_103 : decode cX10_mirror 103 = .ok (.iconst 0, 1) := by decide +kernel
theorem dX10_mirror_104 : decode cX10_mirror 104 = .ok (.istore 4, 2) := by decide +kernel
theorem dX10_mirror_106 : decode cX10_mirror 106 = .ok (.iload 4, 2) := by decide +kernel
theorem dX10_mirror_108 : decode cX10_mirror 108 = .ok (.bipush 8, 2) := by decide +kernel
theorem dX10_mirror_110 : decode cX10_mirror 110 = .ok (.if_icmp .ge 47, 3) := by decide +kernel
theorem dX10_mirror_113 : decode cX10_mirror 113 = .ok (.aload_n 0, 1) := by decide +kernel
theorem dX10_mirror_114 : decode cX10_mirror 114 = .ok (.getfield 61, 3) := by decide +kernel
theorem dX10_mirror_117 : decode cX10_mirror 117 = .ok (.iload 4, 2) := by decide +kernel
theorem dX10_mirror_119 : decode cX10_mirror 119 = .ok (.aaload, 1) := by decide +kernel
theorem dX10_mirror_120 : decode cX10_mirror 120 = .ok (.getfield 293, 3) := by decide +kernel
theorem dX10_mirror_123 : decode cX10_mirror 123 = .ok (.iload_n 1, 1) := by decide +kernel
theorem dX10_mirror_124 : decode cX10_mirror 124 = .ok (.if_icmp .ne 27, 3) := by decide +kernel
theorem dX10_mirror_127 : decode cX10_mirror 127 = .ok (.aload_n 0, 1) := by decide +kernel
theorem dX10_mirror_128 : decode cX10_mirror 128 = .ok (.getfield 61, 3) := by decide +kernel
theorem dX10_mirror_131 : decode cX10_mirror 131 = .ok (.iload 4, 2) := by decide +kernel
theorem dX10_mirror_133 : decode cX10_mirror 133 = .ok (.aaload, 1) := by decide +kernel
theorem dX10_mirror_134 : decode cX10_mirror 134 = .ok (.aload_n 3, 1) := by decide +kernel
theorem dX10_mirror_135 : decode cX10_mirror 135 = .ok (.aload_n 0, 1) := by decide +kernel
theorem dX10_mirror_136 : decode cX10_mirror 136 = .ok (.getfield 61, 3) := by decide +kernel
theorem dX10_mirror_139 : decode cX10_mirror 139 = .ok (.iload 4, 2) := by decide +kernel
theorem dX10_mirror_141 : decode cX10_mirror 141 = .ok (.aaload, 1) := by decide +kernel
theorem dX10_mirror_142 : decode cX10_mirror 142 = .ok (.getfield 294, 3) := by decide +kernel
theorem dX10_mirror_145 : decode cX10_mirror 145 = .ok (.invokevirtual 290, 3) := by decide +kernel
theorem dX10_mirror_148 : decode cX10_mirror 148 = .ok (.putfield 294, 3) := by decide +kernel
theorem dX10_mirror_151 : decode cX10_mirror 151 = .ok (.iinc 4 1, 3) := by decide +kernel
theorem dX10_mirror_154 : decode cX10_mirror 154 = .ok (.goto (-48), 3) := by decide +kernel
theorem dX10_mirror_157 : decode cX10_mirror 157 = .ok (.iconst 1, 1) := by decide +kernel
theorem dX10_mirror_158 : decode cX10_mirror 158 = .ok (.ireturn, 1) := by decide +kernel
noncomputable def L_X10_mirror_52 (x1 : Int32) : Nat → Int32 → qM → (qM → Option (Int32 × qM)) → Option (Int32 × qM)
  | 0, _, _, _ => none
  | n + 1, x4, u4, e1 => if 8 ≤ x4 then e1 u4 else q_ck (q_in x4 8) (q_jn (fun  (u5 : qM) => q_lt (x4 + 1) (fun (x5 : Int32) => L_X10_mirror_52 x1 n x5 u5 e1)) (fun j1 => if (u4.1 8 (Int32.toNatClampNeg x4) 0) = x1 then q_ck (q_in x4 8) (q_ck (q_in x4 8) (q_bd (f_X0_opposite (Int32.toNatClampNeg x1) (u4.1 8 (Int32.toNatClampNeg x4) 1) u4) (fun (x6 : Int32) (u6 : qM) => q_lt (q_si u6 8 (Int32.toNatClampNeg x4) 1 x6) (fun (u7 : qM) => j1 u7)))) else j1 u4))
noncomputable def L_X10_mirror_106 (x1 : Int32) : Nat → Int32 → qM → (qM → Option (Int32 × qM)) → Option (Int32 × qM)
  | 0, _, _, _ => none
  | n + 1, x7, u9, e1 => if 8 ≤ x7 then e1 u9 else q_ck (q_in x7 8) (q_jn (fun  (u10 : qM) => q_lt (x7 + 1) (fun (x8 : Int32) => L_X10_mirror_106 x1 n x8 u10 e1)) (fun j2 => if (u9.1 9 (Int32.toNatClampNeg x7) 2) = x1 then q_ck (q_in x7 8) (q_ck (q_in x7 8) (q_bd (f_X0_opposite (Int32.toNatClampNeg x1) (u9.1 9 (Int32.toNatClampNeg x7) 3) u9) (fun (x9 : Int32) (u11 : qM) => q_lt (q_si u11 9 (Int32.toNatClampNeg x7) 3 x9) (fun (u12 : qM) => j2 u12)))) else j2 u9))
noncomputable def f_X10_mirror (x1 : Int32) (u0 : qM) : Option (Int32 × qM) :=
  q_bd (f_X10_boardRefused 1 x1 u0) (fun (x2 : Int32) (u1 : qM) => if x2 = 0 then q_ck (q_in x1 6) (if (u1.1 2 (Int32.toNatClampNeg x1) 11) = 2 then q_bd (f_X10_found 3 u1) (fun (x10 : Int32) (u14 : qM) => some (x10, u14)) else q_bd (f_X10_bearsNest x1 u1) (fun (x3 : Int32) (u2 : qM) => if x3 = 0 then q_bd (f_X0_turn (Int32.toNatClampNeg x1) u2) (fun (_z : Unit) (u3 : qM) => L_X10_mirror_52 x1 q_fu 0 u3 (fun u8 => L_X10_mirror_106 x1 q_fu 0 u8 (fun u13 => some (1, u13)))) else some ((-4), u2))) else some (x2, u1))
set_option maxRecDepth 100000 in
set_option maxHeartbeats 4000000 in
theorem TL_X10_mirror_52 (l : Launch) (G : qG) (x1 : Int32) (q1 : (Int32.toNatClampNeg x1) < 7) (e1 : qM → Option (Int32 × qM)) (he1 : ∀  (v : qM), qAW l G m_X10_mirror (q_mq G q_cI) 103 [(0, .ref (q_ad G 0 0)), (1, .int x1), (3, .ref (q_ad G 2 (Int32.toNatClampNeg x1)))] [] v (e1 v)) : ∀ (n : Nat) (x4 : Int32) (u4 : qM), qAW l G m_X10_mirror (q_mq G q_cI) 52 [(0, .ref (q_ad G 0 0)), (1, .int x1), (3, .ref (q_ad G 2 (Int32.toNatClampNeg x1))), (4, .int x4)] [] u4 (L_X10_mirror_52 x1 n x4 u4 e1) := by
  intro n
  induction n with
  | zero => intros; exact aw_none
  | succ n ih =>
    intro x4 u4
    unfold L_X10_mirror_52
    refine aw_iload (i := 4) dX10_mirror_52 54 rfl 3 rfl ?_
    refine aw_bipush (x := 8) dX10_mirror_54 56 rfl rfl ?_
    refine aw_icmp_ge dX10_mirror_56 59 rfl 103 rfl (fun h5 => ?_) (fun h5 => ?_)
    · exact aw_conv [0, 1, 2] rfl (he1 u4)
    · refine aw_aload_n (i := 0) dX10_mirror_59 60 rfl rfl 0 rfl ?_
      refine gf_X10_8 dX10_mirror_60 63 rfl wd_109 (ok_0 (by decide)) ?_
      refine aw_iload (i := 4) dX10_mirror_63 65 rfl 3 rfl ?_
      refine aw_aald dX10_mirror_65 66 rfl at_22 (by decide) (by decide) rfl rfl (al_22 _) (ok_22 (by decide)) rfl (fun h6 => ?_)
      refine gfN_X1_0 dX10_mirror_66 69 rfl "SeaCells" (ns_55) (ok_8 (q_in_lt h6)) ?_
      refine aw_iload_n (i := 1) dX10_mirror_69 70 rfl rfl 1 rfl ?_
      refine aw_jn (fun k => ∀  (u5 : qM), qAW l G m_X10_mirror (q_mq G q_cI) 97 [(0, .ref (q_ad G 0 0)), (1, .int x1), (3, .ref (q_ad G 2 (Int32.toNatClampNeg x1))), (4, .int x4)] [] u5 (k u5)) ?_ ?_
      · intro u5
        refine aw_iincx (i := 4) dX10_mirror_97 100 rfl 3 rfl 1 rfl (fun x5 => [(4, .int x5), (0, .ref (q_ad G 0 0)), (1, .int x1), (3, .ref (q_ad G 2 (Int32.toNatClampNeg x1)))]) (by decide) (fun _ => rfl) (fun x5 => ?_)
        refine aw_goto dX10_mirror_100 52 rfl ?_
        exact aw_conv [1, 2, 3, 0] rfl (ih x5 u5)
      · intro j1 hj1
        refine aw_icmp_ne dX10_mirror_70 73 rfl 97 rfl (fun h7 => ?_) (fun h7 => ?_)
        · exact hj1 u4
        · refine aw_aload_n (i := 0) dX10_mirror_73 74 rfl rfl 0 rfl ?_
          refine gf_X10_8 dX10_mirror_74 77 rfl wd_109 (ok_0 (by decide)) ?_
          refine aw_iload (i := 4) dX10_mirror_77 79 rfl 3 rfl ?_
          refine aw_aald dX10_mirror_79 80 rfl at_22 (by decide) (by decide) rfl rfl (al_22 _) (ok_22 (by decide)) rfl (fun h8 => ?_)
          refine aw_aload_n (i := 3) dX10_mirror_80 81 rfl rfl 2 rfl ?_
          refine aw_aload_n (i := 0) dX10_mirror_81 82 rfl rfl 0 rfl ?_
          refine gf_X10_8 dX10_mirror_82 85 rfl wd_109 (ok_0 (by decide)) ?_
          refine aw_iload (i := 4) dX10_mirror_85 87 rfl 3 rfl ?_
          refine aw_aald dX10_mirror_87 88 rfl at_22 (by decide) (by decide) rfl rfl (al_22 _) (ok_22 (by decide)) rfl (fun h9 => ?_)
          refine gfN_X1_1 dX10_mirror_88 91 rfl "SeaCells" (ns_56) (ok_8 (q_in_lt h9)) ?_
          refine aw_callV (M2 := m_X0_opposite) (cv := q_cI) dX10_mirror_91 94 rfl (k_X0_opposite l G (Int32.toNatClampNeg x1) (u4.1 8 (Int32.toNatClampNeg x4) 1) q1 u4) wd_138 wv_X0_opposite pk_X0_opposite rfl rfl ⟨by decide, by decide⟩ ⟨Nat.zero_le _, Nat.zero_le _⟩ at_2 (ok_2 q1) rfl rfl rfl (Nat.le_of_ble_eq_true rfl) (fun x6 u6 => ?_)
          show qAW l G m_X10_mirror (q_mq G q_cI) 94 [(0, .ref (q_ad G 0 0)), (1, .int x1), (3, .ref (q_ad G 2 (Int32.toNatClampNeg x1))), (4, .int x4)] [.int x6, .ref (q_ad G 8 (Int32.toNatClampNeg x4))] u6 _
          refine pfN_X1_1 dX10_mirror_94 97 rfl "SeaCells" (ns_56) (ok_8 (q_in_lt h8)) ?_
          refine aw_ltm (fun u7 => ?_)
          exact hj1 u7
set_option maxRecDepth 100000 in
set_option maxHeartbeats 4000000 in
theorem TL_X10_mirror_106 (l : Launch) (G : qG) (x1 : Int32) (q2 : (Int32.toNatClampNeg x1) < 7) (e1 : qM → Option (Int32 × qM)) (he1 : ∀  (v : qM), qAW l G m_X10_mirror (q_mq G q_cI) 157 [] [] v (e1 v)) : ∀ (n : Nat) (x7 : Int32) (u9 : qM), qAW l G m_X10_mirror (q_mq G q_cI) 106 [(0, .ref (q_ad G 0 0)), (1, .int x1), (3, .ref (q_ad G 2 (Int32.toNatClampNeg x1))), (4, .int x7)] [] u9 (L_X10_mirror_106 x1 n x7 u9 e1) := by
  intro n
  induction n with
  | zero => intros; exact aw_none
  | succ n ih =>
    intro x7 u9
    unfold L_X10_mirror_106
    refine aw_iload (i := 4) dX10_mirror_106 108 rfl 3 rfl ?_
    refine aw_bipush (x := 8) dX10_mirror_108 110 rfl rfl ?_
    refine aw_icmp_ge dX10_mirror_110 113 rfl 157 rfl (fun h10 => ?_) (fun h10 => ?_)
    · exact aw_conv [] rfl (he1 u9)
    · refine aw_aload_n (i := 0) dX10_mirror_113 114 rfl rfl 0 rfl ?_
      refine gf_X10_9 dX10_mirror_114 117 rfl wd_110 (ok_0 (by decide)) ?_
      refine aw_iload (i := 4) dX10_mirror_117 119 rfl 3 rfl ?_
      refine aw_aald dX10_mirror_119 120 rfl at_23 (by decide) (by decide) rfl rfl (al_23 _) (ok_23 (by decide)) rfl (fun h11 => ?_)
      refine gfN_X2_2 dX10_mirror_120 123 rfl "SeaCells" (ns_57) (ok_9 (q_in_lt h11)) ?_
      refine aw_iload_n (i := 1) dX10_mirror_123 124 rfl rfl 1 rfl ?_
      refine aw_jn (fun k => ∀  (u10 : qM), qAW l G m_X10_mirror (q_mq G q_cI) 151 [(0, .ref (q_ad G 0 0)), (1, .int x1), (3, .ref (q_ad G 2 (Int32.toNatClampNeg x1))), (4, .int x7)] [] u10 (k u10)) ?_ ?_
      · intro u10
        refine aw_iincx (i := 4) dX10_mirror_151 154 rfl 3 rfl 1 rfl (fun x8 => [(4, .int x8), (0, .ref (q_ad G 0 0)), (1, .int x1), (3, .ref (q_ad G 2 (Int32.toNatClampNeg x1)))]) (by decide) (fun _ => rfl) (fun x8 => ?_)
        refine aw_goto dX10_mirror_154 106 rfl ?_
        exact aw_conv [1, 2, 3, 0] rfl (ih x8 u10)
      · intro j2 hj2
        refine aw_icmp_ne dX10_mirror_124 127 rfl 151 rfl (fun h12 => ?_) (fun h12 => ?_)
        · exact hj2 u9
        · refine aw_aload_n (i := 0) dX10_mirror_127 128 rfl rfl 0 rfl ?_
          refine gf_X10_9 dX10_mirror_128 131 rfl wd_110 (ok_0 (by decide)) ?_
          refine aw_iload (i := 4) dX10_mirror_131 133 rfl 3 rfl ?_
          refine aw_aald dX10_mirror_133 134 rfl at_23 (by decide) (by decide) rfl rfl (al_23 _) (ok_23 (by decide)) rfl (fun h13 => ?_)
          refine aw_aload_n (i := 3) dX10_mirror_134 135 rfl rfl 2 rfl ?_
          refine aw_aload_n (i := 0) dX10_mirror_135 136 rfl rfl 0 rfl ?_
          refine gf_X10_9 dX10_mirror_136 139 rfl wd_110 (ok_0 (by decide)) ?_
          refine aw_iload (i := 4) dX10_mirror_139 141 rfl 3 rfl ?_
          refine aw_aald dX10_mirror_141 142 rfl at_23 (by decide) (by decide) rfl rfl (al_23 _) (ok_23 (by decide)) rfl (fun h14 => ?_)
          refine gfN_X2_3 dX10_mirror_142 145 rfl "SeaCells" (ns_58) (ok_9 (q_in_lt h14)) ?_
          refine aw_callV (M2 := m_X0_opposite) (cv := q_cI) dX10_mirror_145 148 rfl (k_X0_opposite l G (Int32.toNatClampNeg x1) (u9.1 9 (Int32.toNatClampNeg x7) 3) q2 u9) wd_138 wv_X0_opposite pk_X0_opposite rfl rfl ⟨by decide, by decide⟩ ⟨Nat.zero_le _, Nat.zero_le _⟩ at_2 (ok_2 q2) rfl rfl rfl (Nat.le_of_ble_eq_true rfl) (fun x9 u11 => ?_)
          show qAW l G m_X10_mirror (q_mq G q_cI) 148 [(0, .ref (q_ad G 0 0)), (1, .int x1), (3, .ref (q_ad G 2 (Int32.toNatClampNeg x1))), (4, .int x7)] [.int x9, .ref (q_ad G 9 (Int32.toNatClampNeg x7))] u11 _
          refine pfN_X2_3 dX10_mirror_148 151 rfl "SeaCells" (ns_58) (ok_9 (q_in_lt h13)) ?_
          refine aw_ltm (fun u12 => ?_)
          exact hj2 u12
set_option maxRecDepth 100000 in
set_option maxHeartbeats 4000000 in
theorem k_X10_mirror (l : Launch) (G : qG) (x1 : Int32)  (u0 : qM) : qCt l G m_X10_mirror q_cI [.ref (q_ad G 0 0), .int x1] u0 (f_X10_mirror x1 u0) := by
  refine q_entry pk_X10_mirror (Nat.le_of_ble_eq_true rfl) ?_
  show qAW l G m_X10_mirror (q_mq G q_cI) 0 [(0, .ref (q_ad G 0 0)), (1, .int x1)] [] u0 (f_X10_mirror x1 u0)
  unfold f_X10_mirror
  refine aw_aload_n (i := 0) dX10_mirror_0 1 rfl rfl 0 rfl ?_
  refine aw_iconst (x := 1) dX10_mirror_1 2 rfl rfl ?_
  refine aw_iload_n (i := 1) dX10_mirror_2 3 rfl rfl 1 rfl ?_
  refine aw_callV (M2 := m_X10_boardRefused) (cv := q_cI) dX10_mirror_3 6 rfl (k_X10_boardRefused l G 1 x1  u0) wd_116 wv_X10_boardRefused pk_X10_boardRefused rfl rfl ⟨by decide, by decide⟩ ⟨Nat.zero_le _, Nat.zero_le _⟩ at_0 (ok_0 (by decide)) rfl rfl rfl (Nat.le_of_ble_eq_true rfl) (fun x2 u1 => ?_)
  show qAW l G m_X10_mirror (q_mq G q_cI) 6 [(0, .ref (q_ad G 0 0)), (1, .int x1)] [.int x2] u1 _
  refine aw_istore_n dX10_mirror_6 7 rfl rfl [(2, .int x2), (0, .ref (q_ad G 0 0)), (1, .int x1)] (by decide) rfl ?_
  refine aw_iload_n (i := 2) dX10_mirror_7 8 rfl rfl 0 rfl ?_
  refine aw_if_eq dX10_mirror_8 11 rfl 13 rfl (fun h1 => ?_) (fun h1 => ?_)
  · refine aw_aload_n (i := 0) dX10_mirror_13 14 rfl rfl 1 rfl ?_
    refine gf_X10_4 dX10_mirror_14 17 rfl wd_107 (ok_0 (by decide)) ?_
    refine aw_iload_n (i := 1) dX10_mirror_17 18 rfl rfl 2 rfl ?_
    refine aw_aald dX10_mirror_18 19 rfl at_21 (by decide) (by decide) rfl rfl (al_21 _) (ok_21 (by decide)) rfl (fun h2 => ?_)
    refine aw_astore_n dX10_mirror_19 20 rfl rfl [(3, .ref (q_ad G 2 (Int32.toNatClampNeg x1))), (2, .int x2), (0, .ref (q_ad G 0 0)), (1, .int x1)] (by decide) rfl ?_
    refine aw_aload_n (i := 3) dX10_mirror_20 21 rfl rfl 0 rfl ?_
    refine gfN_X0_11 dX10_mirror_21 24 rfl "SeaCells" (ns_44) (ok_2 (Nat.lt_of_lt_of_le (q_in_lt h2) (by decide))) ?_
    refine aw_iconst (x := 2) dX10_mirror_24 25 rfl rfl ?_
    refine aw_icmp_ne dX10_mirror_25 28 rfl 34 rfl (fun h3 => ?_) (fun h3 => ?_)
    · refine aw_aload_n (i := 0) dX10_mirror_34 35 rfl rfl 2 rfl ?_
      refine aw_iload_n (i := 1) dX10_mirror_35 36 rfl rfl 3 rfl ?_
      refine aw_callV (M2 := m_X10_bearsNest) (cv := q_cI) dX10_mirror_36 39 rfl (k_X10_bearsNest l G x1  u1) wd_136 wv_X10_bearsNest pk_X10_bearsNest rfl rfl ⟨by decide, by decide⟩ ⟨Nat.zero_le _, Nat.zero_le _⟩ at_0 (ok_0 (by decide)) rfl rfl rfl (Nat.le_of_ble_eq_true rfl) (fun x3 u2 => ?_)
      show qAW l G m_X10_mirror (q_mq G q_cI) 39 [(3, .ref (q_ad G 2 (Int32.toNatClampNeg x1))), (2, .int x2), (0, .ref (q_ad G 0 0)), (1, .int x1)] [.int x3] u2 _
      refine aw_if_eq dX10_mirror_39 42 rfl 45 rfl (fun h4 => ?_) (fun h4 => ?_)
      · refine aw_aload_n (i := 3) dX10_mirror_45 46 rfl rfl 0 rfl ?_
        refine aw_callV (M2 := m_X0_turn) (cv := q_cU) dX10_mirror_46 49 rfl (k_X0_turn l G (Int32.toNatClampNeg x1) (Nat.lt_of_lt_of_le (q_in_lt h2) (by decide)) u2) wd_137 wv_X0_turn pk_X0_turn rfl rfl ⟨by decide, by decide⟩ ⟨Nat.zero_le _, Nat.zero_le _⟩ at_2 (ok_2 (Nat.lt_of_lt_of_le (q_in_lt h2) (by decide))) rfl rfl rfl (Nat.le_of_ble_eq_true rfl) (fun _z u3 => ?_)
        show qAW l G m_X10_mirror (q_mq G q_cI) 49 [(3, .ref (q_ad G 2 (Int32.toNatClampNeg x1))), (2, .int x2), (0, .ref (q_ad G 0 0)), (1, .int x1)] [] u3 _
        refine aw_iconst (x := 0) dX10_mirror_49 50 rfl rfl ?_
        refine aw_istore dX10_mirror_50 52 rfl [(4, .int 0), (3, .ref (q_ad G 2 (Int32.toNatClampNeg x1))), (2, .int x2), (0, .ref (q_ad G 0 0)), (1, .int x1)] (by decide) rfl ?_
        refine aw_conv [3, 4, 1, 0] rfl (TL_X10_mirror_52 l G x1 (Nat.lt_of_lt_of_le (q_in_lt h2) (by decide)) _ ?_ _ 0 u3)
        · intro u8
          refine aw_iconst (x := 0) dX10_mirror_103 104 rfl rfl ?_
          refine aw_istore dX10_mirror_104 106 rfl [(4, .int 0), (0, .ref (q_ad G 0 0)), (1, .int x1), (3, .ref (q_ad G 2 (Int32.toNatClampNeg x1)))] (by decide) rfl ?_
          refine aw_conv [1, 2, 3, 0] rfl (TL_X10_mirror_106 l G x1 (Nat.lt_of_lt_of_le (q_in_lt h2) (by decide)) _ ?_ _ 0 u8)
          · intro u13
            refine aw_iconst (x := 1) dX10_mirror_157 158 rfl rfl ?_
            exact aw_iret dX10_mirror_158 rfl
      · refine aw_bipush (x := (-4)) dX10_mirror_42 44 rfl rfl ?_
        exact aw_iret dX10_mirror_44 rfl
    · refine aw_aload_n (i := 0) dX10_mirror_28 29 rfl rfl 2 rfl ?_
      refine aw_iconst (x := 3) dX10_mirror_29 30 rfl rfl ?_
      refine aw_callV (M2 := m_X10_found) (cv := q_cI) dX10_mirror_30 33 rfl (k_X10_found l G 3  u1) wd_100 wv_X10_found pk_X10_found rfl rfl ⟨by decide, by decide⟩ ⟨Nat.zero_le _, Nat.zero_le _⟩ at_0 (ok_0 (by decide)) rfl rfl rfl (Nat.le_of_ble_eq_true rfl) (fun x10 u14 => ?_)
      show qAW l G m_X10_mirror (q_mq G q_cI) 33 [(3, .ref (q_ad G 2 (Int32.toNatClampNeg x1))), (2, .int x2), (0, .ref (q_ad G 0 0)), (1, .int x1)] [.int x10] u14 _
      exact aw_iret dX10_mirror_33 rfl
  · refine aw_iload_n (i := 2) dX10_mirror_11 12 rfl rfl 0 rfl ?_
    exact aw_iret dX10_mirror_12 rfl
