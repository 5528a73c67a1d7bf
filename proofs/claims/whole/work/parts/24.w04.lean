theorem dX10_liesIn_0 : decode cX10_liesIn 0 = .ok (.iload_n 1, 1) := by decide +kernel
theorem dX10_liesIn_1 : decode cX10_liesIn 1 = .ok (.istore_n 3, 1) := by decide +kernel
theorem dX10_liesIn_2 : decode cX10_liesIn 2 = .ok (.iconst 0, 1) := by decide +kernel
theorem dX10_liesIn_3 : decode cX10_liesIn 3 = .ok (.istore 4, 2) := by decide +kernel
theorem dX10_liesIn_5 : decode cX10_liesIn 5 = .ok (.iload 4, 2) := by decide +kernel
theorem dX10_liesIn_7 : decode cX10_liesIn 7 = .ok (.bipush 6, 2) := by decide +kernel
theorem dX10_liesIn_9 : decode cX10_liesIn 9 = .ok (.if_icmp .ge 74, 3) := by decide +kernel
theorem dX10_liesIn_12 : decode cX10_liesIn 12 = .ok (.aload_n 0, 1) := by decide +kernel
theorem dX10_liesIn_13 : decode cX10_liesIn 13 = .ok (.getfield 30, 3) := by decide +kernel
theorem dX10_liesIn_16 : decode cX10_liesIn 16 = .ok (.iload_n 3, 1) := by decide +kernel
theorem dX10_liesIn_17 : decode cX10_liesIn 17 = .ok (.aaload, 1) := by decide +kernel
theorem dX10_liesIn_18 : decode cX10_liesIn 18 = .ok (.getfield 305, 3) := by decide +kernel
theorem dX10_liesIn_21 : decode cX10_liesIn 21 = .ok (.ifCond .eq 34, 3) := by decide +kernel
theorem dX10_liesIn_24 : decode cX10_liesIn 24 = .ok (.aload_n 0, 1) := by decide +kernel
theorem dX10_liesIn_25 : decode cX10_liesIn 25 = .ok (.getfield 30, 3) := by decide +kernel
theorem dX10_liesIn_28 : decode cX10_liesIn 28 = .ok (.iload_n 3, 1) := by decide +kernel
theorem dX10_liesIn_29 : decode cX10_liesIn 29 = .ok (.aaload, 1) := by decide +kernel
theorem dX10_liesIn_30 : decode cX10_liesIn 30 = .ok (.getfield 276, 3) := by decide +kernel
theorem dX10_liesIn_33 : decode cX10_liesIn 33 = .ok (.iconst 2, 1) := by decide +kernel
theorem dX10_liesIn_34 : decode cX10_liesIn 34 = .ok (.if_icmp .ne 21, 3) := by decide +kernel
theorem dX10_liesIn_37 : decode cX10_liesIn 37 = .ok (.aload_n 0, 1) := by decide +kernel
theorem dX10_liesIn_38 : decode cX10_liesIn 38 = .ok (.getfield 30, 3) := by decide +kernel
theorem dX10_liesIn_41 : decode cX10_liesIn 41 = .ok (.iload_n 3, 1) := by decide +kernel
theorem dX10_liesIn_42 : decode cX10_liesIn 42 = .ok (.aaload, 1) := by decide +kernel
theorem dX10_liesIn_43 : decode cX10_liesIn 43 = .ok (.getfield 309, 3) := by decide +kernel
theorem dX10_liesIn_46 : decode cX10_liesIn 46 = .ok (.getfield 313, 3) := by decide +kernel
theorem dX10_liesIn_49 : decode cX10_liesIn 49 = .ok (.invokestatic 157, 3) := by decide +kernel
theorem dX10_liesIn_52 : decode cX10_liesIn 52 = .ok (.ifCond .ne 5, 3) := by decide +kernel
theorem dX10_liesIn_55 : decode cX10_liesIn 55 = .ok (.iconst 0, 1) := by decide +kernel
theorem dX10_liesIn_56 : decode cX10_liesIn 56 = .ok (.ireturn, 1) := by decide +kernel
theorem dX10_liesIn_57 : decode cX10_liesIn 57 = .ok (.aload_n 0, 1) := by decide +kernel
theorem dX10_liesIn_58 : decode cX10_liesIn 58 = .ok (.getfield 30, 3) := by decide +kernel
theorem dX10_liesIn_61 : decode cX10_liesIn 61 = .ok (.iload_n 3, 1) := by decide +kernel
theorem dX10_liesIn_62 : decode cX10_liesIn 62 = .ok (.aaload, 1) := by decide +kernel
theorem dX10_liesIn_63 : decode cX10_liesIn 63 = .ok (.getfield 309, 3) := by decide +kernel
theorem dX10_liesIn_66 : decode cX10_liesIn 66 = .ok (.getfield 313, 3) := by decide +kernel
theorem dX10_liesIn_69 : decode cX10_liesIn 69 = .ok (.istore_n 3, 1) := by decide +kernel
theorem dX10_liesIn_70 : decode cX10_liesIn 70 = .ok (.iload_n 3, 1) := by decide +kernel
theorem dX10_liesIn_71 : decode cX10_liesIn 71 = .ok (.iload_n 2, 1) := by decide +kernel
theorem dX10_liesIn_72 : decode cX10_liesIn 72 = .ok (.if_icmp .ne 5, 3) := by decide +kernel
theorem dX10_liesIn_75 : decode cX10_liesIn 75 = .ok (.iconst 1, 1) := by decide +kernel
theorem dX10_liesIn_76 : decode cX10_liesIn 76 = .ok (.ireturn, 1) := by decide +kernel
theorem dX10_liesIn_77 : decode cX10_liesIn 77 = .ok (.iinc 4 1, 3) := by decide +kernel
theorem dX10_liesIn_80 : decode cX10_liesIn 80 = .ok (.goto (-75), 3) := by decide +kernel
theorem dX10_liesIn_83 : decode cX10_liesIn 83 = .ok (.iconst 0, 1) := by decide +kernel
theorem dX10_liesIn_84 : decode cX10_liesIn 84 = .ok (.ireturn, 1) := by decide +kernel
noncomputable def L_X10_liesIn_5 (x2 : Int32) : Nat → Int32 → Int32 → qM → (qM → Option (Int32 × qM)) → (qM → Option (Int32 × qM)) → (qM → Option (Int32 × qM)) → Option (Int32 × qM)
  | 0, _, _, _, _, _, _ => none
  | n + 1, x3, x4, u1, e1, e2, e3 => if 6 ≤ x4 then e1 u1 else q_ck (q_in x3 6) (if (u1.1 2 (Int32.toNatClampNeg x3) 10) = 0 then e2 u1 else q_ck (q_in x3 6) (if (u1.1 2 (Int32.toNatClampNeg x3) 11) = 2 then q_ck (q_in x3 6) (q_bd (f_X10_isBoard (u1.1 5 (Int32.toNatClampNeg x3) 2) u1) (fun (x5 : Int32) (u2 : qM) => if x5 = 0 then e2 u2 else q_ck (q_in x3 6) (q_lt (u2.1 5 (Int32.toNatClampNeg x3) 2) (fun (x6 : Int32) => if x6 = x2 then e3 u2 else q_lt (x4 + 1) (fun (x7 : Int32) => L_X10_liesIn_5 x2 n x6 x7 u2 e1 e2 e3))))) else e2 u1))
noncomputable def f_X10_liesIn (x1 : Int32) (x2 : Int32) (u0 : qM) : Option (Int32 × qM) :=
  L_X10_liesIn_5 x2 q_fu x1 0 u0 (fun u3 => some (0, u3)) (fun u4 => some (0, u4)) (fun u5 => some (1, u5))
set_option maxRecDepth 100000 in
set_option maxHeartbeats 4000000 in
theorem TL_X10_liesIn_5 (l : Launch) (G : qG) (x2 : Int32)  (e1 : qM → Option (Int32 × qM)) (e2 : qM → Option (Int32 × qM)) (e3 : qM → Option (Int32 × qM)) (he1 : ∀  (v : qM), qAW l G m_X10_liesIn (q_mq G q_cI) 83 [] [] v (e1 v)) (he2 : ∀  (v : qM), qAW l G m_X10_liesIn (q_mq G q_cI) 55 [] [] v (e2 v)) (he3 : ∀  (v : qM), qAW l G m_X10_liesIn (q_mq G q_cI) 75 [] [] v (e3 v)) : ∀ (n : Nat) (x3 : Int32) (x4 : Int32) (u1 : qM), qAW l G m_X10_liesIn (q_mq G q_cI) 5 [(0, .ref (q_ad G 0 0)), (2, .int x2), (3, .int x3), (4, .int x4)] [] u1 (L_X10_liesIn_5 x2 n x3 x4 u1 e1 e2 e3) := by
  intro n
  induction n with
  | zero => intros; exact aw_none
  | succ n ih =>
    intro x3 x4 u1
    unfold L_X10_liesIn_5
    refine aw_iload (i := 4) dX10_liesIn_5 7 rfl 3 rfl ?_
    refine aw_bipush (x := 6) dX10_liesIn_7 9 rfl rfl ?_
    refine aw_icmp_ge dX10_liesIn_9 12 rfl 83 rfl (fun h1 => ?_) (fun h1 => ?_)
    · exact aw_conv [] rfl (he1 u1)
    · refine aw_aload_n (i := 0) dX10_liesIn_12 13 rfl rfl 0 rfl ?_
      refine gf_X10_4 dX10_liesIn_13 16 rfl wd_145 (ok_0 (by decide)) ?_
      refine aw_iload_n (i := 3) dX10_liesIn_16 17 rfl rfl 2 rfl ?_
      refine aw_aald dX10_liesIn_17 18 rfl at_21 (by decide) (by decide) rfl rfl (al_21 _) (ok_21 (by decide)) rfl (fun h2 => ?_)
      refine gfN_X0_10 dX10_liesIn_18 21 rfl "SeaCells" (ns_47) (ok_2 (Nat.lt_of_lt_of_le (q_in_lt h2) (by decide))) ?_
      refine aw_if_eq dX10_liesIn_21 24 rfl 55 rfl (fun h3 => ?_) (fun h3 => ?_)
      · exact aw_conv [] rfl (he2 u1)
      · refine aw_aload_n (i := 0) dX10_liesIn_24 25 rfl rfl 0 rfl ?_
        refine gf_X10_4 dX10_liesIn_25 28 rfl wd_145 (ok_0 (by decide)) ?_
        refine aw_iload_n (i := 3) dX10_liesIn_28 29 rfl rfl 2 rfl ?_
        refine aw_aald dX10_liesIn_29 30 rfl at_21 (by decide) (by decide) rfl rfl (al_21 _) (ok_21 (by decide)) rfl (fun h4 => ?_)
        refine gfN_X0_11 dX10_liesIn_30 33 rfl "SeaCells" (ns_48) (ok_2 (Nat.lt_of_lt_of_le (q_in_lt h4) (by decide))) ?_
        refine aw_iconst (x := 2) dX10_liesIn_33 34 rfl rfl ?_
        refine aw_icmp_ne dX10_liesIn_34 37 rfl 55 rfl (fun h5 => ?_) (fun h5 => ?_)
        · exact aw_conv [] rfl (he2 u1)
        · refine aw_aload_n (i := 0) dX10_liesIn_37 38 rfl rfl 0 rfl ?_
          refine gf_X10_4 dX10_liesIn_38 41 rfl wd_145 (ok_0 (by decide)) ?_
          refine aw_iload_n (i := 3) dX10_liesIn_41 42 rfl rfl 2 rfl ?_
          refine aw_aald dX10_liesIn_42 43 rfl at_21 (by decide) (by decide) rfl rfl (al_21 _) (ok_21 (by decide)) rfl (fun h6 => ?_)
          refine gfN_X0_7 dX10_liesIn_43 46 rfl "SeaCells" (ns_44) (ok_2 (Nat.lt_of_lt_of_le (q_in_lt h6) (by decide))) ?_
          refine gfN_X4_2 dX10_liesIn_46 49 rfl "SeaCells" (ns_24) (ok_5 (Nat.lt_of_lt_of_le (q_in_lt h6) (by decide))) ?_
          refine aw_callS (M2 := m_X10_isBoard) (cv := q_cI) dX10_liesIn_49 52 rfl (k_X10_isBoard l G (u1.1 5 (Int32.toNatClampNeg x3) 2)  u1) wd_146 wv_X10_isBoard pk_X10_isBoard rfl ⟨by decide, by decide⟩ ⟨Nat.zero_le _, Nat.zero_le _⟩ rfl (Nat.le_of_ble_eq_true rfl) (fun x5 u2 => ?_)
          show qAW l G m_X10_liesIn (q_mq G q_cI) 52 [(0, .ref (q_ad G 0 0)), (2, .int x2), (3, .int x3), (4, .int x4)] [.int x5] u2 _
          refine aw_if_ne dX10_liesIn_52 55 rfl 57 rfl (fun h7 => ?_) (fun h7 => ?_)
          · refine aw_aload_n (i := 0) dX10_liesIn_57 58 rfl rfl 0 rfl ?_
            refine gf_X10_4 dX10_liesIn_58 61 rfl wd_145 (ok_0 (by decide)) ?_
            refine aw_iload_n (i := 3) dX10_liesIn_61 62 rfl rfl 2 rfl ?_
            refine aw_aald dX10_liesIn_62 63 rfl at_21 (by decide) (by decide) rfl rfl (al_21 _) (ok_21 (by decide)) rfl (fun h8 => ?_)
            refine gfN_X0_7 dX10_liesIn_63 66 rfl "SeaCells" (ns_44) (ok_2 (Nat.lt_of_lt_of_le (q_in_lt h8) (by decide))) ?_
            refine gfN_X4_2 dX10_liesIn_66 69 rfl "SeaCells" (ns_24) (ok_5 (Nat.lt_of_lt_of_le (q_in_lt h8) (by decide))) ?_
            refine aw_lti (fun x6 => ?_)
            refine aw_istore_n dX10_liesIn_69 70 rfl rfl [(3, .int x6), (0, .ref (q_ad G 0 0)), (2, .int x2), (4, .int x4)] (by decide) rfl ?_
            refine aw_iload_n (i := 3) dX10_liesIn_70 71 rfl rfl 0 rfl ?_
            refine aw_iload_n (i := 2) dX10_liesIn_71 72 rfl rfl 2 rfl ?_
            refine aw_icmp_ne dX10_liesIn_72 75 rfl 77 rfl (fun h9 => ?_) (fun h9 => ?_)
            · refine aw_iincx (i := 4) dX10_liesIn_77 80 rfl 3 rfl 1 rfl (fun x7 => [(4, .int x7), (3, .int x6), (0, .ref (q_ad G 0 0)), (2, .int x2)]) (by decide) (fun _ => rfl) (fun x7 => ?_)
              refine aw_goto dX10_liesIn_80 5 rfl ?_
              exact aw_conv [2, 3, 1, 0] rfl (ih x6 x7 u2)
            · exact aw_conv [] rfl (he3 u2)
          · exact aw_conv [] rfl (he2 u2)
set_option maxRecDepth 100000 in
set_option maxHeartbeats 4000000 in
theorem k_X10_liesIn (l : Launch) (G : qG) (x1 : Int32) (x2 : Int32)  (u0 : qM) : qCt l G m_X10_liesIn q_cI [.ref (q_ad G 0 0), .int x1, .int x2] u0 (f_X10_liesIn x1 x2 u0) := by
  refine q_entry pk_X10_liesIn (Nat.le_of_ble_eq_true rfl) ?_
  show qAW l G m_X10_liesIn (q_mq G q_cI) 0 [(0, .ref (q_ad G 0 0)), (1, .int x1), (2, .int x2)] [] u0 (f_X10_liesIn x1 x2 u0)
  unfold f_X10_liesIn
  refine aw_iload_n (i := 1) dX10_liesIn_0 1 rfl rfl 1 rfl ?_
  refine aw_istore_n dX10_liesIn_1 2 rfl rfl [(3, .int x1), (0, .ref (q_ad G 0 0)), (1, .int x1), (2, .int x2)] (by decide) rfl ?_
  refine aw_iconst (x := 0) dX10_liesIn_2 3 rfl rfl ?_
  refine aw_istore dX10_liesIn_3 5 rfl [(4, .int 0), (3, .int x1), (0, .ref (q_ad G 0 0)), (1, .int x1), (2, .int x2)] (by decide) rfl ?_
  refine aw_conv [2, 4, 1, 0] rfl (TL_X10_liesIn_5 l G x2  _ _ _ ?_ ?_ ?_ _ x1 0 u0)
  · intro u3
    refine aw_iconst (x := 0) dX10_liesIn_83 84 rfl rfl ?_
    exact aw_zret dX10_liesIn_84 rfl (by decide)
  · intro u4
    refine aw_iconst (x := 0) dX10_liesIn_55 56 rfl rfl ?_
    exact aw_zret dX10_liesIn_56 rfl (by decide)
  · intro u5
    refine aw_iconst (x := 1) dX10_liesIn_75 76 rfl rfl ?_
    exact aw_zret dX10_liesIn_76 rfl (by decide)
theorem dX10_keep_0 : decode cX10_keep 0 = .ok (.aload_n 0, 1) := by decide +kernel
theorem dX10_keep_1 : decode cX10_keep 1 = .ok (.iload_n 2, 1) := by decide +kernel
theorem dX10_keep_2 : decode cX10_keep 2 = .ok (.invokestatic 157, 3) := by decide +kernel
theorem dX10_keep_5 : decode cX10_keep 5 = .ok (.ifCond .eq 12, 3) := by decide +kernel
theorem dX10_keep_8 : decode cX10_keep 8 = .ok (.iload_n 2, 1) := by decide +kernel
theorem dX10_keep_9 : decode cX10_keep 9 = .ok (.iload_n 1, 1) := by decide +kernel
theorem dX10_keep_10 : decode cX10_keep 10 = .ok (.if_icmp .eq 7, 3) := by decide +kernel
theorem dX10_keep_13 : decode cX10_keep 13 = .ok (.iconst 1, 1) := by decide +kernel
theorem dX10_keep_14 : decode cX10_keep 14 = .ok (.goto 4, 3) := by decide +kernel
theorem dX10_keep_17 : decode cX10_keep 17 = .ok (.iconst 0, 1) := by decide +kernel
theorem dX10_keep_18 : decode cX10_keep 18 = .ok (.iload_n 1, 1) := by decide +kernel
theorem dX10_keep_19 : decode cX10_keep 19 = .ok (.invokevirtual 170, 3) := by decide +kernel
theorem dX10_keep_22 : decode cX10_keep 22 = .ok (.istore_n 3, 1) := by decide +kernel
theorem dX10_keep_23 : decode cX10_keep 23 = .ok (.iload_n 3, 1) := by decide +kernel
theorem dX10_keep_24 : decode cX10_keep 24 = .ok (.ifCond .eq 5, 3) := by decide +kernel
theorem dX10_keep_27 : decode cX10_keep 27 = .ok (.iload_n 3, 1) := by decide +kernel
theorem dX10_keep_28 : decode cX10_keep 28 = .ok (.ireturn, 1) := by decide +kernel
theorem dX10_keep_29 : decode cX10_keep 29 = .ok (.aload_n 0, 1) := by decide +kernel
theorem dX10_keep_30 : decode cX10_keep 30 = .ok (.iload_n 1, 1) := by decide +kernel
theorem dX10_keep_31 : decode cX10_keep 31 = .ok (.iload_n 2, 1) := by decide +kernel
theorem dX10_keep_32 : decode cX10_keep 32 = .ok (.invokevirtual 269, 3) := by decide +kernel
theorem dX10_keep_35 : decode cX10_keep 35 = .ok (.ifCond .eq 6, 3) := by decide +kernel
theorem dX10_keep_38 : decode cX10_keep 38 = .ok (.bipush (-4), 2) := by decide +kernel
theorem dX10_keep_40 : decode cX10_keep 40 = .ok (.ireturn, 1) := by decide +kernel
theorem dX10_keep_41 : decode cX10_keep 41 = .ok (.aload_n 0, 1) := by decide +kernel
theorem dX10_keep_42 : decode cX10_keep 42 = .ok (.iload_n 2, 1) := by decide +kernel
theorem dX10_keep_43 : decode cX10_keep 43 = .ok (.invokevirtual 160, 3) := by decide +kernel
theorem dX10_keep_46 : decode cX10_keep 46 = .ok (.aload_n 0, 1) := by decide +kernel
theorem dX10_keep_47 : decode cX10_keep 47 = .ok (.getfield 30, 3) := by decide +kernel
theorem dX10_keep_50 : decode cX10_keep 50 = .ok (.iload_n 2, 1) := by decide +kernel
theorem dX10_keep_51 : decode cX10_keep 51 = .ok (.aaload, 1) := by decide +kernel
theorem dX10_keep_52 : decode cX10_keep 52 = .ok (.aload_n 0, 1) := by decide +kernel
theorem dX10_keep_53 : decode cX10_keep 53 = .ok (.getfield 30, 3) := by decide +kernel
theorem dX10_keep_56 : decode cX10_keep 56 = .ok (.iload_n 1, 1) := by decide +kernel
theorem dX10_keep_57 : decode cX10_keep 57 = .ok (.aaload, 1) := by decide +kernel
theorem dX10_keep_58 : decode cX10_keep 58 = .ok (.invokevirtual 272, 3) := by decide +kernel
theorem dX10_keep_61 : decode cX10_keep 61 = .ok (.aload_n 0, 1) := by decide +kernel
theorem dX10_keep_62 : decode cX10_keep 62 = .ok (.getfield 30, 3) := by decide +kernel
theorem dX10_keep_65 : decode cX10_keep 65 = .ok (.iload_n 2, 1) := by decide +kernel
theorem dX10_keep_66 : decode cX10_keep 66 = .ok (.aaload, 1) := by decide +kernel
theorem dX10_keep_67 : decode cX10_keep 67 = .ok (.getfield 276, 3) := by decide +kernel
theorem dX10_keep_70 : decode cX10_keep 70 = .ok (.iconst 2, 1) := by decide +kernel
theorem dX10_keep_71 : decode cX10_keep 71 = .ok (.if_icmp .ne 13, 3) := by decide +kernel
theorem dX10_keep_74 : decode cX10_keep 74 = .ok (.aload_n 0, 1) := by decide +kernel
theorem dX10_keep_75 : decode cX10_keep 75 = .ok (.getfield 30, 3) := by decide +kernel
theorem dX10_keep_78 : decode cX10_keep 78 = .ok (.iload_n 2, 1) := by decide +kernel
theorem dX10_keep_79 : decode cX10_keep 79 = .ok (.aaload, 1) := by decide +kernel
theorem dX10_keep_80 : decode cX10_keep 80 = .ok (.iconst 0, 1) := by decide +kernel
theorem dX10_keep_81 : decode cX10_keep 81 = .ok (.putfield 276, 3) := by decide +kernel
theorem dX10_keep_84 : decode cX10_keep 84 = .ok (.aload_n 0, 1) := by decide +kernel
theorem dX10_keep_85 : decode cX10_keep 85 = .ok (.getfield 30, 3) := by decide +kernel
theorem dX10_keep_88 : decode cX10_keep 88 = .ok (.iload_n 2, 1) := by decide +kernel
theorem dX10_keep_89 : decode cX10_keep 89 = .ok (.aaload, 1) := by decide +kernel
theorem dX10_keep_90 : decode cX10_keep 90 = .ok (.invokevirtual 166, 3) := by decide +kernel
theorem dX10_keep_93 : decode cX10_keep 93 = .ok (.ireturn, 1) := by decide +kernel
noncomputable def f_X10_keep (x1 : Int32) (x2 : Int32) (u0 : qM) : Option (Int32 × qM) :=
  q_bd (f_X10_isBoard x2 u0) (fun (x3 : Int32) (u1 : qM) => q_jn (fun (x4 : Int32) (u2 : qM) => q_bd (f_X10_boardRefused x4 x1 u2) (fun (x5 : Int32) (u3 : qM) => if x5 = 0 then q_bd (f_X10_liesIn x1 x2 u3) (fun (x6 : Int32) (u4 : qM) => if x6 = 0 then q_bd (f_X10_clear x2 u4) (fun (_z : Unit) (u5 : qM) => q_ck (q_in x2 6) (q_ck (q_in x1 6) (q_bd (f_X0_takeOver (Int32.toNatClampNeg x2) (Int32.toNatClampNeg x1) u5) (fun (_z : Unit) (u6 : qM) => q_ck (q_in x2 6) (q_jn (fun  (u7 : qM) => q_ck (q_in x2 6) (q_bd (f_X0_cells (Int32.toNatClampNeg x2) u7) (fun (x7 : Int32) (u8 : qM) => some (x7, u8)))) (fun j2 => if (u6.1 2 (Int32.toNatClampNeg x2) 11) = 2 then q_ck (q_in x2 6) (q_lt (q_si u6 2 (Int32.toNatClampNeg x2) 11 0) (fun (u9 : qM) => j2 u9)) else j2 u6)))))) else some ((-4), u4)) else some (x5, u3))) (fun j1 => q_jn (fun  (u10 : qM) => j1 0 u10) (fun j3 => if x3 = 0 then j3 u1 else if x2 = x1 then j3 u1 else j1 1 u1)))
set_option maxRecDepth 100000 in
set_option maxHeartbeats 4000000 in
theorem k_X10_keep (l : Launch) (G : qG) (x1 : Int32) (x2 : Int32)  (u0 : qM) : qCt l G m_X10_keep q_cI [.ref (q_ad G 0 0), .int x1, .int x2] u0 (f_X10_keep x1 x2 u0) := by
  refine q_entry pk_X10_keep (Nat.le_of_ble_eq_true rfl) ?_
  show qAW l G m_X10_keep (q_mq G q_cI) 0 [(0, .ref (q_ad G 0 0)), (1, .int x1), (2, .int x2)] [] u0 (f_X10_keep x1 x2 u0)
  unfold f_X10_keep
  refine aw_aload_n (i := 0) dX10_keep_0 1 rfl rfl 0 rfl ?_
  refine aw_iload_n (i := 2) dX10_keep_1 2 rfl rfl 2 rfl ?_
  refine aw_callS (M2 := m_X10_isBoard) (cv := q_cI) dX10_keep_2 5 rfl (k_X10_isBoard l G x2  u0) wd_146 wv_X10_isBoard pk_X10_isBoard rfl ⟨by decide, by decide⟩ ⟨Nat.zero_le _, Nat.zero_le _⟩ rfl (Nat.le_of_ble_eq_true rfl) (fun x3 u1 => ?_)
  show qAW l G m_X10_keep (q_mq G q_cI) 5 [(0, .ref (q_ad G 0 0)), (1, .int x1), (2, .int x2)] [.int x3, .ref (q_ad G 0 0)] u1 _
  refine aw_jn (fun k => ∀ (x4 : Int32) (u2 : qM), qAW l G m_X10_keep (q_mq G q_cI) 18 [(0, .ref (q_ad G 0 0)), (1, .int x1), (2, .int x2)] [.int x4, .ref (q_ad G 0 0)] u2 (k x4 u2)) ?_ ?_
  · intro x4 u2
    refine aw_iload_n (i := 1) dX10_keep_18 19 rfl rfl 1 rfl ?_
    refine aw_callV (M2 := m_X10_boardRefused) (cv := q_cI) dX10_keep_19 22 rfl (k_X10_boardRefused l G x4 x1  u2) wd_154 wv_X10_boardRefused pk_X10_boardRefused rfl rfl ⟨by decide, by decide⟩ ⟨Nat.zero_le _, Nat.zero_le _⟩ at_0 (ok_0 (by decide)) rfl rfl rfl (Nat.le_of_ble_eq_true rfl) (fun x5 u3 => ?_)
    show qAW l G m_X10_keep (q_mq G q_cI) 22 [(0, .ref (q_ad G 0 0)), (1, .int x1), (2, .int x2)] [.int x5] u3 _
    refine aw_istore_n dX10_keep_22 23 rfl rfl [(3, .int x5), (0, .ref (q_ad G 0 0)), (1, .int x1), (2, .int x2)] (by decide) rfl ?_
    refine aw_iload_n (i := 3) dX10_keep_23 24 rfl rfl 0 rfl ?_
    refine aw_if_eq dX10_keep_24 27 rfl 29 rfl (fun h2 => ?_) (fun h2 => ?_)
    · refine aw_aload_n (i := 0) dX10_keep_29 30 rfl rfl 1 rfl ?_
      refine aw_iload_n (i := 1) dX10_keep_30 31 rfl rfl 2 rfl ?_
      refine aw_iload_n (i := 2) dX10_keep_31 32 rfl rfl 3 rfl ?_
      refine aw_callV (M2 := m_X10_liesIn) (cv := q_cI) dX10_keep_32 35 rfl (k_X10_liesIn l G x1 x2  u3) wd_172 wv_X10_liesIn pk_X10_liesIn rfl rfl ⟨by decide, by decide⟩ ⟨Nat.zero_le _, Nat.zero_le _⟩ at_0 (ok_0 (by decide)) rfl rfl rfl (Nat.le_of_ble_eq_true rfl) (fun x6 u4 => ?_)
      show qAW l G m_X10_keep (q_mq G q_cI) 35 [(3, .int x5), (0, .ref (q_ad G 0 0)), (1, .int x1), (2, .int x2)] [.int x6] u4 _
      refine aw_if_eq dX10_keep_35 38 rfl 41 rfl (fun h3 => ?_) (fun h3 => ?_)
      · refine aw_aload_n (i := 0) dX10_keep_41 42 rfl rfl 1 rfl ?_
        refine aw_iload_n (i := 2) dX10_keep_42 43 rfl rfl 3 rfl ?_
        refine aw_callV (M2 := m_X10_clear) (cv := q_cU) dX10_keep_43 46 rfl (k_X10_clear l G x2  u4) wd_151 wv_X10_clear pk_X10_clear rfl rfl ⟨by decide, by decide⟩ ⟨Nat.zero_le _, Nat.zero_le _⟩ at_0 (ok_0 (by decide)) rfl rfl rfl (Nat.le_of_ble_eq_true rfl) (fun _z u5 => ?_)
        show qAW l G m_X10_keep (q_mq G q_cI) 46 [(3, .int x5), (0, .ref (q_ad G 0 0)), (1, .int x1), (2, .int x2)] [] u5 _
        refine aw_aload_n (i := 0) dX10_keep_46 47 rfl rfl 1 rfl ?_
        refine gf_X10_4 dX10_keep_47 50 rfl wd_145 (ok_0 (by decide)) ?_
        refine aw_iload_n (i := 2) dX10_keep_50 51 rfl rfl 3 rfl ?_
        refine aw_aald dX10_keep_51 52 rfl at_21 (by decide) (by decide) rfl rfl (al_21 _) (ok_21 (by decide)) rfl (fun h4 => ?_)
        refine aw_aload_n (i := 0) dX10_keep_52 53 rfl rfl 1 rfl ?_
        refine gf_X10_4 dX10_keep_53 56 rfl wd_145 (ok_0 (by decide)) ?_
        refine aw_iload_n (i := 1) dX10_keep_56 57 rfl rfl 2 rfl ?_
        refine aw_aald dX10_keep_57 58 rfl at_21 (by decide) (by decide) rfl rfl (al_21 _) (ok_21 (by decide)) rfl (fun h5 => ?_)
        refine aw_callV (M2 := m_X0_takeOver) (cv := q_cU) dX10_keep_58 61 rfl (k_X0_takeOver l G (Int32.toNatClampNeg x2) (Int32.toNatClampNeg x1) (Nat.lt_of_lt_of_le (q_in_lt h4) (by decide)) (Nat.lt_of_lt_of_le (q_in_lt h5) (by decide)) u5) wd_173 wv_X0_takeOver pk_X0_takeOver rfl rfl ⟨by decide, by decide⟩ ⟨Nat.zero_le _, Nat.zero_le _⟩ at_2 (ok_2 (Nat.lt_of_lt_of_le (q_in_lt h4) (by decide))) rfl rfl rfl (Nat.le_of_ble_eq_true rfl) (fun _z u6 => ?_)
        show qAW l G m_X10_keep (q_mq G q_cI) 61 [(3, .int x5), (0, .ref (q_ad G 0 0)), (1, .int x1), (2, .int x2)] [] u6 _
        refine aw_aload_n (i := 0) dX10_keep_61 62 rfl rfl 1 rfl ?_
        refine gf_X10_4 dX10_keep_62 65 rfl wd_145 (ok_0 (by decide)) ?_
        refine aw_iload_n (i := 2) dX10_keep_65 66 rfl rfl 3 rfl ?_
        refine aw_aald dX10_keep_66 67 rfl at_21 (by decide) (by decide) rfl rfl (al_21 _) (ok_21 (by decide)) rfl (fun h6 => ?_)
        refine gfN_X0_11 dX10_keep_67 70 rfl "SeaCells" (ns_48) (ok_2 (Nat.lt_of_lt_of_le (q_in_lt h6) (by decide))) ?_
        refine aw_iconst (x := 2) dX10_keep_70 71 rfl rfl ?_
        refine aw_jn (fun k => ∀  (u7 : qM), qAW l G m_X10_keep (q_mq G q_cI) 84 [(0, .ref (q_ad G 0 0)), (2, .int x2)] [] u7 (k u7)) ?_ ?_
        · intro u7
          refine aw_aload_n (i := 0) dX10_keep_84 85 rfl rfl 0 rfl ?_
          refine gf_X10_4 dX10_keep_85 88 rfl wd_145 (ok_0 (by decide)) ?_
          refine aw_iload_n (i := 2) dX10_keep_88 89 rfl rfl 1 rfl ?_
          refine aw_aald dX10_keep_89 90 rfl at_21 (by decide) (by decide) rfl rfl (al_21 _) (ok_21 (by decide)) rfl (fun h8 => ?_)
          refine aw_callV (M2 := m_X0_cells) (cv := q_cI) dX10_keep_90 93 rfl (k_X0_cells l G (Int32.toNatClampNeg x2) (Nat.lt_of_lt_of_le (q_in_lt h8) (by decide)) u7) wd_153 wv_X0_cells pk_X0_cells rfl rfl ⟨by decide, by decide⟩ ⟨Nat.zero_le _, Nat.zero_le _⟩ at_2 (ok_2 (Nat.lt_of_lt_of_le (q_in_lt h8) (by decide))) rfl rfl rfl (Nat.le_of_ble_eq_true rfl) (fun x7 u8 => ?_)
          show qAW l G m_X10_keep (q_mq G q_cI) 93 [(0, .ref (q_ad G 0 0)), (2, .int x2)] [.int x7] u8 _
          exact aw_iret dX10_keep_93 rfl
        · intro j2 hj2
          refine aw_icmp_ne dX10_keep_71 74 rfl 84 rfl (fun h7 => ?_) (fun h7 => ?_)
          · exact aw_conv [1, 3] rfl (hj2 u6)
          · refine aw_aload_n (i := 0) dX10_keep_74 75 rfl rfl 1 rfl ?_
            refine gf_X10_4 dX10_keep_75 78 rfl wd_145 (ok_0 (by decide)) ?_
            refine aw_iload_n (i := 2) dX10_keep_78 79 rfl rfl 3 rfl ?_
            refine aw_aald dX10_keep_79 80 rfl at_21 (by decide) (by decide) rfl rfl (al_21 _) (ok_21 (by decide)) rfl (fun h9 => ?_)
            refine aw_iconst (x := 0) dX10_keep_80 81 rfl rfl ?_
            refine pfN_X0_11 dX10_keep_81 84 rfl "SeaCells" (ns_48) (ok_2 (Nat.lt_of_lt_of_le (q_in_lt h9) (by decide))) ?_
            refine aw_ltm (fun u9 => ?_)
            exact aw_conv [1, 3] rfl (hj2 u9)
      · refine aw_bipush (x := (-4)) dX10_keep_38 40 rfl rfl ?_
        exact aw_iret dX10_keep_40 rfl
    · refine aw_iload_n (i := 3) dX10_keep_27 28 rfl rfl 0 rfl ?_
      exact aw_iret dX10_keep_28 rfl
  · intro j1 hj1
    refine aw_jn (fun k => ∀  (u10 : qM), qAW l G m_X10_keep (q_mq G q_cI) 17 [(0, .ref (q_ad G 0 0)), (1, .int x1), (2, .int x2)] [.ref (q_ad G 0 0)] u10 (k u10)) ?_ ?_
    · intro u10
      refine aw_iconst (x := 0) dX10_keep_17 18 rfl rfl ?_
      exact hj1 0 u10
    · intro j3 hj3
      refine aw_if_eq dX10_keep_5 8 rfl 17 rfl (fun h1 => ?_) (fun h1 => ?_)
      · exact hj3 u1
      · refine aw_iload_n (i := 2) dX10_keep_8 9 rfl rfl 2 rfl ?_
        refine aw_iload_n (i := 1) dX10_keep_9 10 rfl rfl 1 rfl ?_
        refine aw_icmp_eq dX10_keep_10 13 rfl 17 rfl (fun h10 => ?_) (fun h10 => ?_)
        · exact hj3 u1
        · refine aw_iconst (x := 1) dX10_keep_13 14 rfl rfl ?_
          refine aw_goto dX10_keep_14 18 rfl ?_
          exact hj1 1 u1
theorem dX10_bearsNest_0 : decode cX10_bearsNest 0 = .ok (.iconst 0, 1) := by decide +kernel
theorem dX10_bearsNest_1 : decode cX10_bearsNest 1 = .ok (.istore_n 2, 1) := by decide +kernel
theorem dX10_bearsNest_2 : decode cX10_bearsNest 2 = .ok (.iload_n 2, 1) := by decide +kernel
theorem dX10_bearsNest_3 : decode cX10_bearsNest 3 = .ok (.bipush 6, 2) := by decide +kernel
theorem dX10_bearsNest_5 : decode cX10_bearsNest 5 = .ok (.if_icmp .ge 52, 3) := by decide +kernel
theorem dX10_bearsNest_8 : decode cX10_bearsNest 8 = .ok (.aload_n 0, 1) := by decide +kernel
theorem dX10_bearsNest_9 : decode cX10_bearsNest 9 = .ok (.getfield 30, 3) := by decide +kernel
theorem dX10_bearsNest_12 : decode cX10_bearsNest 12 = .ok (.iload_n 2, 1) := by decide +kernel
theorem dX10_bearsNest_13 : decode cX10_bearsNest 13 = .ok (.aaload, 1) := by decide +kernel
theorem dX10_bearsNest_14 : decode cX10_bearsNest 14 = .ok (.getfield 305, 3) := by decide +kernel
theorem dX10_bearsNest_17 : decode cX10_bearsNest 17 = .ok (.ifCond .eq 34, 3) := by decide +kernel
theorem dX10_bearsNest_20 : decode cX10_bearsNest 20 = .ok (.aload_n 0, 1) := by decide +kernel
theorem dX10_bearsNest_21 : decode cX10_bearsNest 21 = .ok (.getfield 30, 3) := by decide +kernel
theorem dX10_bearsNest_24 : decode cX10_bearsNest 24 = .ok (.iload_n 2, 1) := by decide +kernel
theorem dX10_bearsNest_25 : decode cX10_bearsNest 25 = .ok (.aaload, 1) := by decide +kernel
theorem dX10_bearsNest_26 : decode cX10_bearsNest 26 = .ok (.getfield 276, 3) := by decide +kernel
theorem dX10_bearsNest_29 : decode cX10_bearsNest 29 = .ok (.iconst 2, 1) := by decide +kernel
theorem dX10_bearsNest_30 : decode cX10_bearsNest 30 = .ok (.if_icmp .ne 21, 3) := by decide +kernel
theorem dX10_bearsNest_33 : decode cX10_bearsNest 33 = .ok (.aload_n 0, 1) := by decide +kernel
theorem dX10_bearsNest_34 : decode cX10_bearsNest 34 = .ok (.getfield 30, 3) := by decide +kernel
theorem dX10_bearsNest_37 : decode cX10_bearsNest 37 = .ok (.iload_n 2, 1) := by decide +kernel
theorem dX10_bearsNest_38 : decode cX10_bearsNest 38 = .ok (.aaload, 1) := by decide +kernel
theorem dX10_bearsNest_39 : decode cX10_bearsNest 39 = .ok (.getfield 309, 3) := by decide +kernel
theorem dX10_bearsNest_42 : decode cX10_bearsNest 42 = .ok (.getfield 313, 3) := by decide +kernel
theorem dX10_bearsNest_45 : decode cX10_bearsNest 45 = .ok (.iload_n 1, 1) := by decide +kernel
theorem dX10_bearsNest_46 : decode cX10_bearsNest 46 = .ok (.if_icmp .ne 5, 3) := by decide +kernel
theorem dX10_bearsNest_49 : decode cX10_bearsNest 49 = .ok (.iconst 1, 1) := by decide +kernel
theorem dX10_bearsNest_50 : decode cX10_bearsNest 50 = .ok (.ireturn, 1) := by decide +kernel
theorem dX10_bearsNest_51 : decode cX10_bearsNest 51 = .ok (.iinc 2 1, 3) := by decide +kernel
theorem dX10_bearsNest_54 : decode cX10_bearsNest 54 = .ok (.goto (-52), 3) := by decide +kernel
theorem dX10_bearsNest_57 : decode cX10_bearsNest 57 = .ok (.iconst 0, 1) := by decide +kernel
theorem dX10_bearsNest_58 : decode cX10_bearsNest 58 = .ok (.ireturn, 1) := by decide +kernel
noncomputable def L_X10_bearsNest_2 (x1 : Int32) : Nat → Int32 → qM → (qM → Option (Int32 × qM)) → (qM → Option (Int32 × qM)) → Option (Int32 × qM)
  | 0, _, _, _, _ => none
  | n + 1, x2, u1, e1, e2 => if 6 ≤ x2 then e1 u1 else q_ck (q_in x2 6) (q_jn (fun  (u2 : qM) => q_lt (x2 + 1) (fun (x3 : Int32) => L_X10_bearsNest_2 x1 n x3 u2 e1 e2)) (fun j1 => if (u1.1 2 (Int32.toNatClampNeg x2) 10) = 0 then j1 u1 else q_ck (q_in x2 6) (if (u1.1 2 (Int32.toNatClampNeg x2) 11) = 2 then q_ck (q_in x2 6) (if (u1.1 5 (Int32.toNatClampNeg x2) 2) = x1 then e2 u1 else j1 u1) else j1 u1)))
noncomputable def f_X10_bearsNest (x1 : Int32) (u0 : qM) : Option (Int32 × qM) :=
  L_X10_bearsNest_2 x1 q_fu 0 u0 (fun u3 => some (0, u3)) (fun u4 => some (1, u4))
set_option maxRecDepth 100000 in
set_option maxHeartbeats 4000000 in
theorem TL_X10_bearsNest_2 (l : Launch) (G : qG) (x1 : Int32)  (e1 : qM → Option (Int32 × qM)) (e2 : qM → Option (Int32 × qM)) (he1 : ∀  (v : qM), qAW l G m_X10_bearsNest (q_mq G q_cI) 57 [] [] v (e1 v)) (he2 : ∀  (v : qM), qAW l G m_X10_bearsNest (q_mq G q_cI) 49 [] [] v (e2 v)) : ∀ (n : Nat) (x2 : Int32) (u1 : qM), qAW l G m_X10_bearsNest (q_mq G q_cI) 2 [(0, .ref (q_ad G 0 0)), (1, .int x1), (2, .int x2)] [] u1 (L_X10_bearsNest_2 x1 n x2 u1 e1 e2) := by
  intro n
  induction n with
  | zero => intros; exact aw_none
  | succ n ih =>
    intro x2 u1
    unfold L_X10_bearsNest_2
    refine aw_iload_n (i := 2) dX10_bearsNest_2 3 rfl rfl 2 rfl ?_
    refine aw_bipush (x := 6) dX10_bearsNest_3 5 rfl rfl ?_
    refine aw_icmp_ge dX10_bearsNest_5 8 rfl 57 rfl (fun h1 => ?_) (fun h1 => ?_)
    · exact aw_conv [] rfl (he1 u1)
    · refine aw_aload_n (i := 0) dX10_bearsNest_8 9 rfl rfl 0 rfl ?_
      refine gf_X10_4 dX10_bearsNest_9 12 rfl wd_145 (ok_0 (by decide)) ?_
      refine aw_iload_n (i := 2) dX10_bearsNest_12 13 rfl rfl 2 rfl ?_
      refine aw_aald dX10_bearsNest_13 14 rfl at_21 (by decide) (by decide) rfl rfl (al_21 _) (ok_21 (by decide)) rfl (fun h2 => ?_)
      refine gfN_X0_10 dX10_bearsNest_14 17 rfl "SeaCells" (ns_47) (ok_2 (Nat.lt_of_lt_of_le (q_in_lt h2) (by decide))) ?_
      refine aw_jn (fun k => ∀  (u2 : qM), qAW l G m_X10_bearsNest (q_mq G q_cI) 51 [(0, .ref (q_ad G 0 0)), (1, .int x1), (2, .int x2)] [] u2 (k u2)) ?_ ?_
      · intro u2
        refine aw_iincx (i := 2) dX10_bearsNest_51 54 rfl 2 rfl 1 rfl (fun x3 => [(2, .int x3), (0, .ref (q_ad G 0 0)), (1, .int x1)]) (by decide) (fun _ => rfl) (fun x3 => ?_)
        refine aw_goto dX10_bearsNest_54 2 rfl ?_
        exact aw_conv [1, 2, 0] rfl (ih x3 u2)
      · intro j1 hj1
        refine aw_if_eq dX10_bearsNest_17 20 rfl 51 rfl (fun h3 => ?_) (fun h3 => ?_)
        · exact hj1 u1
        · refine aw_aload_n (i := 0) dX10_bearsNest_20 21 rfl rfl 0 rfl ?_
          refine gf_X10_4 dX10_bearsNest_21 24 rfl wd_145 (ok_0 (by decide)) ?_
          refine aw_iload_n (i := 2) dX10_bearsNest_24 25 rfl rfl 2 rfl ?_
          refine aw_aald dX10_bearsNest_25 26 rfl at_21 (by decide) (by decide) rfl rfl (al_21 _) (ok_21 (by decide)) rfl (fun h4 => ?_)
          refine gfN_X0_11 dX10_bearsNest_26 29 rfl "SeaCells" (ns_48) (ok_2 (Nat.lt_of_lt_of_le (q_in_lt h4) (by decide))) ?_
          refine aw_iconst (x := 2) dX10_bearsNest_29 30 rfl rfl ?_
          refine aw_icmp_ne dX10_bearsNest_30 33 rfl 51 rfl (fun h5 => ?_) (fun h5 => ?_)
          · exact hj1 u1
          · refine aw_aload_n (i := 0) dX10_bearsNest_33 34 rfl rfl 0 rfl ?_
            refine gf_X10_4 dX10_bearsNest_34 37 rfl wd_145 (ok_0 (by decide)) ?_
            refine aw_iload_n (i := 2) dX10_bearsNest_37 38 rfl rfl 2 rfl ?_
            refine aw_aald dX10_bearsNest_38 39 rfl at_21 (by decide) (by decide) rfl rfl (al_21 _) (ok_21 (by decide)) rfl (fun h6 => ?_)
            refine gfN_X0_7 dX10_bearsNest_39 42 rfl "SeaCells" (ns_44) (ok_2 (Nat.lt_of_lt_of_le (q_in_lt h6) (by decide))) ?_
            refine gfN_X4_2 dX10_bearsNest_42 45 rfl "SeaCells" (ns_24) (ok_5 (Nat.lt_of_lt_of_le (q_in_lt h6) (by decide))) ?_
            refine aw_iload_n (i := 1) dX10_bearsNest_45 46 rfl rfl 1 rfl ?_
            refine aw_icmp_ne dX10_bearsNest_46 49 rfl 51 rfl (fun h7 => ?_) (fun h7 => ?_)
            · exact hj1 u1
            · exact aw_conv [] rfl (he2 u1)
set_option maxRecDepth 100000 in
set_option maxHeartbeats 4000000 in
theorem k_X10_bearsNest (l : Launch) (G : qG) (x1 : Int32)  (u0 : qM) : qCt l G m_X10_bearsNest q_cI [.ref (q_ad G 0 0), .int x1] u0 (f_X10_bearsNest x1 u0) := by
  refine q_entry pk_X10_bearsNest (Nat.le_of_ble_eq_true rfl) ?_
  show qAW l G m_X10_bearsNest (q_mq G q_cI) 0 [(0, .ref (q_ad G 0 0)), (1, .int x1)] [] u0 (f_X10_bearsNest x1 u0)
  unfold f_X10_bearsNest
  refine aw_iconst (x := 0) dX10_bearsNest_0 1 rfl rfl ?_
  refine aw_istore_n dX10_bearsNest_1 2 rfl rfl [(2, .int 0), (0, .ref (q_ad G 0 0)), (1, .int x1)] (by decide) rfl ?_
  refine aw_conv [1, 2, 0] rfl (TL_X10_bearsNest_2 l G x1  _ _ ?_ ?_ _ 0 u0)
  · intro u3
    refine aw_iconst (x := 0) dX10_bearsNest_57 58 rfl rfl ?_
    exact aw_zret dX10_bearsNest_58 rfl (by decide)
  · intro u4
    refine aw_iconst (x := 1) dX10_bearsNest_49 50 rfl rfl ?_
    exact aw_zret dX10_bearsNest_50 rfl (by decide)
theorem dX10_mirror_0 : decode cX10_mirror 0 = .ok (.aload_n 0, 1) := by decide +kernel
theorem dX10_mirror_1 : decode cX10_mirror 1 = .ok (.iconst 1, 1) := by decide +kernel
theorem dX10_mirror_2 : decode cX10_mirror 2 = .ok (.iload_n 1, 1) := by decide +kernel
theorem dX10_mirror_3 : decode cX10_mirror 3 = .ok (.invokevirtual 170, 3) := by decide +kernel
theorem dX10_mirror_6 : decode cX10_mirror 6 = .ok (.istore_n 2, 1) := by decide +kernel
theorem dX10_mirror_7 : decode cX10_mirror 7 = .ok (.iload_n 2, 1) := by decide +kernel
theorem dX10_mirror_8 : decode cX10_mirror 8 = .ok (.ifCond .eq 5, 3) := by decide +kernel
theorem dX10_mirror_11 : decode cX10_mirror 11 = .ok (.iload_n 2, 1) := by decide +kernel
theorem dX10_mirror_12 : decode cX10_mirror 12 = .ok (.ireturn, 1) := by decide +kernel
theorem dX10_mirror_13 : decode cX10_mirror 13 = .ok (.aload_n 0, 1) := by decide +kernel
theorem dX10_mirror_14 : decode cX10_mirror 14 = .ok (.getfield 30, 3) := by decide +kernel
theorem dX10_mirror_17 : decode cX10_mirror 17 = .ok (.iload_n 1, 1) := by decide +kernel
theorem dX10_mirror_18 : decode cX10_mirror 18 = .ok (.aaload, 1) := by decide +kernel
theorem dX10_mirror_19 : decode cX10_mirror 19 = .ok (.astore_n 3, 1) := by decide +kernel
theorem dX10_mirror_20 : decode cX10_mirror 20 = .ok (.aload_n 3, 1) := by decide +kernel
theorem dX10_mirror_21 : decode cX10_mirror 21 = .ok (.getfield 276, 3) := by decide +kernel
theorem dX10_mirror_24 : decode cX10_mirror 24 = .ok (.iconst 2, 1) := by decide +kernel
theorem dX10_mirror_25 : decode cX10_mirror 25 = .ok (.if_icmp .ne 9, 3) := by decide +kernel
theorem dX10_mirror_28 : decode cX10_mirror 28 = .ok (.aload_n 0, 1) := by decide +kernel
theorem dX10_mirror_29 : decode cX10_mirror 29 = .ok (.iconst 3, 1) := by decide +kernel
theorem dX10_mirror_30 : decode cX10_mirror 30 = .ok (.invokevirtual 91, 3) := by decide +kernel
theorem dX10_mirror_33 : decode cX10_mirror 33 = .ok (.ireturn, 1) := by decide +kernel
theorem dX10_mirror_34 : decode cX10_mirror 34 = .ok (.aload_n 0, 1) := by decide +kernel
theorem dX10_mirror_35 : decode cX10_mirror 35 = .ok (.iload_n 1, 1) := by decide +kernel
theorem dX10_mirror_36 : decode cX10_mirror 36 = .ok (.invokevirtual 279, 3) := by decide +kernel
theorem dX10_mirror_39 : decode cX10_mirror 39 = .ok (.ifCond .eq 6, 3) := by decide +kernel
theorem dX10_mirror_42 : decode cX10_mirror 42 = .ok (.bipush (-4), 2) := by decide +kernel
theorem dX10_mirror_44 : decode cX10_mirror 44 = .ok (.ireturn, 1) := by decide +kernel
theorem dX10_mirror_45 : decode cX10_mirror 45 = .ok (.aload_n 3, 1) := by decide +kernel
theorem dX10_mirror_46 : decode cX10_mirror 46 = .ok (.invokevirtual 282, 3) := by decide +kernel
theorem dX10_mirror_49 : decode cX10_mirror 49 = .ok (.iconst 0, 1) := by decide +kernel
theorem dX10_mirror_50 : decode cX10_mirror 50 = .ok (.istore 4, 2) := by decide +kernel
theorem dX10_mirror_52 : decode cX10_mirror 52 = .ok (.iload 4, 2) := by decide +kernel
theorem dX10_mirror_54 : decode cX10_mirror 54 = .ok (.bipush 8, 2) := by decide +kernel
theorem dX10_mirror_56 : decode cX10_mirror 56 = .ok (.if_icmp .ge 47, 3) := by decide +kernel
theorem dX10_mirror_59 : decode cX10_mirror 59 = .ok (.aload_n 0, 1) := by decide +kernel
theorem dX10_mirror_60 : decode cX10_mirror 60 = .ok (.getfield 55, 3) := by decide +kernel
theorem dX10_mirror_63 : decode cX10_mirror 63 = .ok (.iload 4, 2) := by decide +kernel
theorem dX10_mirror_65 : decode cX10_mirror 65 = .ok (.aaload, 1) := by decide +kernel
theorem dX10_mirror_66 : decode cX10_mirror 66 = .ok (.getfield 285, 3) := by decide +kernel
theorem dX10_mirror_69 : decode cX10_mirror 69 = .ok (.iload_n 1, 1) := by decide +kernel
theorem dX10_mirror_70 : decode cX10_mirror 70 = .ok (.if_icmp .ne 27, 3) := by decide +kernel
theorem dX10_mirror_73 : decode cX10_mirror 73 = .ok (.aload_n 0, 1) := by decide +kernel
theorem dX10_mirror_74 : decode cX10_mirror 74 = .ok (.getfield 55, 3) := by decide +kernel
theorem dX10_mirror_77 : decode cX10_mirror 77 = .ok (.iload 4, 2) := by decide +kernel
theorem dX10_mirror_79 : decode cX10_mirror 79 = .ok (.aaload, 1) := by decide +kernel
theorem dX10_mirror_80 : decode cX10_mirror 80 = .ok (.aload_n 3, 1) := by decide +kernel
theorem dX10_mirror_81 : decode cX10_mirror 81 = .ok (.aload_n 0, 1) := by decide +kernel
theorem dX10_mirror_82 : decode cX10_mirror 82 = .ok (.getfield 55, 3) := by decide +kernel
theorem dX10_mirror_85 : decode cX10_mirror 85 = .ok (.iload 4, 2) := by decide +kernel
theorem dX10_mirror_87 : decode cX10_mirror 87 = .ok (.aaload, 1) := by decide +kernel
theorem dX10_mirror_88 : decode cX10_mirror 88 = .ok (.getfield 288, 3) := by decide +kernel
theorem dX10_mirror_91 : decode cX10_mirror 91 = .ok (.invokevirtual 290, 3) := by decide +kernel
theorem dX10_mirror_94 : decode cX10_mirror 94 = .ok (.putfield 288, 3) := by decide +kernel
theorem dX10_mirror_97 : decode cX10_mirror 97 = .ok (.iinc 4 1, 3) := by decide +kernel
theorem dX10_mirror_100 : decode cX10_mirror 100 = .ok (.goto (-48), 3) := by decide +kernel
theorem dX10_mirror_103 : decode cX10_mirror 103 = .ok (.iconst 0, 1) := by decide +kernel
theorem dX10_mirror_104 : decode cX10_mirror 104 = .ok (.istore 4, 2) := by decide +kernel
theorem dX10_mirror_106 : decode cX10_mirror 106 = .ok (.iload 4, 2) := by decide +kernel
theorem dX10_mirror_108 : decode cX10_mirror 108 = .ok (.bipush 8, 2) := by decide +kernel
theorem dX10_mirror_110 : decode cX10_mirror 110 = .ok (.if_icmp .ge 47, 3) := by decide +kernel
theorem dX10_mirror_113 : decode cX10_mirror 113 = .ok (.aload_n 0, 1) := by decide +kernel
theorem dX10_mirror_114 : decode cX10_mirror 114 = .ok (.getfield 61, 3) := by decide +kernel
theorem dX10_mirror_117 : decode cX10_mirror 117 = .ok (.iload 4, 2) := by decide +kernel
theorem dX10_mirror_119 : decode cX10_mirror 119 = .ok (.aaload, 1) := by decide +kernel
theorem dX10_mirror_120 : decode cX10_mirror 120 = .ok (.getfield 293, 3) := by decide +kernel
theorem dX10_mirror_123 : decode cX10_mirror 123 = .ok (.iload_n 1, 1) := by decide +kernel
theorem dX10_mirror_124 : decode cX10_mirror 124 = .ok (.if_icmp .ne 27, 3) := by decide +kernel
theorem dX10_mirror_127 : decode cX10_mirror 127 = .ok (.aload_n 0, 1) := by decide +kernel
theorem dX10_mirror_128 : decode cX10_mirror 128 = .ok (.getfield 61, 3) := by decide +kernel
theorem dX10_mirror_131 : decode cX10_mirror 131 = .ok (.iload 4, 2) := by decide +kernel
theorem dX10_mirror_133 : decode cX10_mirror 133 = .ok (.aaload, 1) := by decide +kernel
theorem dX10_mirror_134 : decode cX10_mirror 134 = .ok (.aload_n 3, 1) := by decide +kernel
theorem dX10_mirror_135 : decode cX10_mirror 135 = .ok (.aload_n 0, 1) := by decide +kernel
theorem dX10_mirror_136 : decode cX10_mirror 136 = .ok (.getfield 61, 3) := by decide +kernel
theorem dX10_mirror_139 : decode cX10_mirror 139 = .ok (.iload 4, 2) := by decide +kernel
theorem dX10_mirror_141 : decode cX10_mirror 141 = .ok (.aaload, 1) := by decide +kernel
theorem dX10_mirror_142 : decode cX10_mirror 142 = .ok (.getfield 294, 3) := by decide +kernel
theorem dX10_mirror_145 : decode cX10_mirror 145 = .ok (.invokevirtual 290, 3) := by decide +kernel
theorem dX10_mirror_148 : decode cX10_mirror 148 = .ok (.putfield 294, 3) := by decide +kernel
theorem dX10_mirror_151 : decode cX10_mirror 151 = .ok (.iinc 4 1, 3) := by decide +kernel
theorem dX10_mirror_154 : decode cX10_mirror 154 = .ok (.goto (-48), 3) := by decide +kernel
theorem dX10_mirror_157 : decode cX10_mirror 157 = .ok (.iconst 1, 1) := by decide +kernel
theorem dX10_mirror_158 : decode cX10_mirror 158 = .ok (.ireturn, 1) := by decide +kernel
noncomputable def L_X10_mirror_52 (x1 : Int32) : Nat → Int32 → qM → (qM → Option (Int32 × qM)) → Option (Int32 × qM)
  | 0, _, _, _ => none
  | n + 1, x4, u4, e1 => if 8 ≤ x4 then e1 u4 else q_ck (q_in x4 8) (q_jn (fun  (u5 : qM) => q_lt (x4 + 1) (fun (x5 : Int32) => L_X10_mirror_52 x1 n x5 u5 e1)) (fun j1 => if (u4.1 8 (Int32.toNatClampNeg x4) 0) = x1 then q_ck (q_in x4 8) (q_ck (q_in x4 8) (q_bd (f_X0_opposite (Int32.toNatClampNeg x1) (u4.1 8 (Int32.toNatClampNeg x4) 1) u4) (fun (x6 : Int32) (u6 : qM) => q_lt (q_si u6 8 (Int32.toNatClampNeg x4) 1 x6) (fun (u7 : qM) => j1 u7)))) else j1 u4))
noncomputable def L_X10_mirror_106 (x1 : Int32) : Nat → Int32 → qM → (qM → Option (Int32 × qM)) → Option (Int32 × qM)
  | 0, _, _, _ => none
  | n + 1, x7, u9, e1 => if 8 ≤ x7 then e1 u9 else q_ck (q_in x7 8) (q_jn (fun  (u10 : qM) => q_lt (x7 + 1) (fun (x8 : Int32) => L_X10_mirror_106 x1 n x8 u10 e1)) (fun j2 => if (u9.1 9 (Int32.toNatClampNeg x7) 2) = x1 then q_ck (q_in x7 8) (q_ck (q_in x7 8) (q_bd (f_X0_opposite (Int32.toNatClampNeg x1) (u9.1 9 (Int32.toNatClampNeg x7) 3) u9) (fun (x9 : Int32) (u11 : qM) => q_lt (q_si u11 9 (Int32.toNatClampNeg x7) 3 x9) (fun (u12 : qM) => j2 u12)))) else j2 u9))
noncomputable def f_X10_mirror (x1 : Int32) (u0 : qM) : Option (Int32 × qM) :=
  q_bd (f_X10_boardRefused 1 x1 u0) (fun (x2 : Int32) (u1 : qM) => if x2 = 0 then q_ck (q_in x1 6) (if (u1.1 2 (Int32.toNatClampNeg x1) 11) = 2 then q_bd (f_X10_found 3 u1) (fun (x10 : Int32) (u14 : qM) => some (x10, u14)) else q_bd (f_X10_bearsNest x1 u1) (fun (x3 : Int32) (u2 : qM) => if x3 = 0 then q_bd (f_X0_turn (Int32.toNatClampNeg x1) u2) (fun (_z : Unit) (u3 : qM) => L_X10_mirror_52 x1 q_fu 0 u3 (fun u8 => L_X10_mirror_106 x1 q_fu 0 u8 (fun u13 => some (1, u13)))) else some ((-4), u2))) else some (x2, u1))
set_option maxRecDepth 100000 in
set_option maxHeartbeats 4000000 in
theorem TL_X10_mirror_52 (l : Launch) (G : qG) (x1 : Int32) (q1 : (Int32.toNatClampNeg x1) < 7) (e1 : qM → Option (Int32 × qM)) (he1 : ∀  (v : qM), qAW l G m_X10_mirror (q_mq G q_cI) 103 [(0, .ref (q_ad G 0 0)), (1, .int x1), (3, .ref (q_ad G 2 (Int32.toNatClampNeg x1)))] [] v (e1 v)) : ∀ (n : Nat) (x4 : Int32) (u4 : qM), qAW l G m_X10_mirror (q_mq G q_cI) 52 [(0, .ref (q_ad G 0 0)), (1, .int x1), (3, .ref (q_ad G 2 (Int32.toNatClampNeg x1))), (4, .int x4)] [] u4 (L_X10_mirror_52 x1 n x4 u4 e1) := by
  intro n
  induction n with
  | zero => intros; exact aw_none
  | succ n ih =>
    intro x4 u4
    unfold L_X10_mirror_52
    refine aw_iload (i := 4) dX10_mirror_52 54 rfl 3 rfl ?_
    refine aw_bipush (x := 8) dX10_mirror_54 56 rfl rfl ?_
    refine aw_icmp_ge dX10_mirror_56 59 rfl 103 rfl (fun h5 => ?_) (fun h5 => ?_)
    · exact aw_conv [0, 1, 2] rfl (he1 u4)
    · refine aw_aload_n (i := 0) dX10_mirror_59 60 rfl rfl 0 rfl ?_
      refine gf_X10_8 dX10_mirror_60 63 rfl wd_147 (ok_0 (by decide)) ?_
      refine aw_iload (i := 4) dX10_mirror_63 65 rfl 3 rfl ?_
      refine aw_aald dX10_mirror_65 66 rfl at_22 (by decide) (by decide) rfl rfl (al_22 _) (ok_22 (by decide)) rfl (fun h6 => ?_)
      refine gfN_X1_0 dX10_mirror_66 69 rfl "SeaCells" (ns_65) (ok_8 (q_in_lt h6)) ?_
      refine aw_iload_n (i := 1) dX10_mirror_69 70 rfl rfl 1 rfl ?_
      refine aw_jn (fun k => ∀  (u5 : qM), qAW l G m_X10_mirror (q_mq G q_cI) 97 [(0, .ref (q_ad G 0 0)), (1, .int x1), (3, .ref (q_ad G 2 (Int32.toNatClampNeg x1))), (4, .int x4)] [] u5 (k u5)) ?_ ?_
      · intro u5
        refine aw_iincx (i := 4) dX10_mirror_97 100 rfl 3 rfl 1 rfl (fun x5 => [(4, .int x5), (0, .ref (q_ad G 0 0)), (1, .int x1), (3, .ref (q_ad G 2 (Int32.toNatClampNeg x1)))]) (by decide) (fun _ => rfl) (fun x5 => ?_)
        refine aw_goto dX10_mirror_100 52 rfl ?_
        exact aw_conv [1, 2, 3, 0] rfl (ih x5 u5)
      · intro j1 hj1
        refine aw_icmp_ne dX10_mirror_70 73 rfl 97 rfl (fun h7 => ?_) (fun h7 => ?_)
        · exact hj1 u4
        · refine aw_aload_n (i := 0) dX10_mirror_73 74 rfl rfl 0 rfl ?_
          refine gf_X10_8 dX10_mirror_74 77 rfl wd_147 (ok_0 (by decide)) ?_
          refine aw_iload (i := 4) dX10_mirror_77 79 rfl 3 rfl ?_
          refine aw_aald dX10_mirror_79 80 rfl at_22 (by decide) (by decide) rfl rfl (al_22 _) (ok_22 (by decide)) rfl (fun h8 => ?_)
          refine aw_aload_n (i := 3) dX10_mirror_80 81 rfl rfl 2 rfl ?_
          refine aw_aload_n (i := 0) dX10_mirror_81 82 rfl rfl 0 rfl ?_
          refine gf_X10_8 dX10_mirror_82 85 rfl wd_147 (ok_0 (by decide)) ?_
          refine aw_iload (i := 4) dX10_mirror_85 87 rfl 3 rfl ?_
          refine aw_aald dX10_mirror_87 88 rfl at_22 (by decide) (by decide) rfl rfl (al_22 _) (ok_22 (by decide)) rfl (fun h9 => ?_)
          refine gfN_X1_1 dX10_mirror_88 91 rfl "SeaCells" (ns_66) (ok_8 (q_in_lt h9)) ?_
          refine aw_callV (M2 := m_X0_opposite) (cv := q_cI) dX10_mirror_91 94 rfl (k_X0_opposite l G (Int32.toNatClampNeg x1) (u4.1 8 (Int32.toNatClampNeg x4) 1) q1 u4) wd_176 wv_X0_opposite pk_X0_opposite rfl rfl ⟨by decide, by decide⟩ ⟨Nat.zero_le _, Nat.zero_le _⟩ at_2 (ok_2 q1) rfl rfl rfl (Nat.le_of_ble_eq_true rfl) (fun x6 u6 => ?_)
          show qAW l G m_X10_mirror (q_mq G q_cI) 94 [(0, .ref (q_ad G 0 0)), (1, .int x1), (3, .ref (q_ad G 2 (Int32.toNatClampNeg x1))), (4, .int x4)] [.int x6, .ref (q_ad G 8 (Int32.toNatClampNeg x4))] u6 _
          refine pfN_X1_1 dX10_mirror_94 97 rfl "SeaCells" (ns_66) (ok_8 (q_in_lt h8)) ?_
          refine aw_ltm (fun u7 => ?_)
          exact hj1 u7
set_option maxRecDepth 100000 in
set_option maxHeartbeats 4000000 in
theorem TL_X10_mirror_106 (l : Launch) (G : qG) (x1 : Int32) (q2 : (Int32.toNatClampNeg x1) < 7) (e1 : qM → Option (Int32 × qM)) (he1 : ∀  (v : qM), qAW l G m_X10_mirror (q_mq G q_cI) 157 [] [] v (e1 v)) : ∀ (n : Nat) (x7 : Int32) (u9 : qM), qAW l G m_X10_mirror (q_mq G q_cI) 106 [(0, .ref (q_ad G 0 0)), (1, .int x1), (3, .ref (q_ad G 2 (Int32.toNatClampNeg x1))), (4, .int x7)] [] u9 (L_X10_mirror_106 x1 n x7 u9 e1) := by
  intro n
  induction n with
  | zero => intros; exact aw_none
  | succ n ih =>
    intro x7 u9
    unfold L_X10_mirror_106
    refine aw_iload (i := 4) dX10_mirror_106 108 rfl 3 rfl ?_
    refine aw_bipush (x := 8) dX10_mirror_108 110 rfl rfl ?_
    refine aw_icmp_ge dX10_mirror_110 113 rfl 157 rfl (fun h10 => ?_) (fun h10 => ?_)
    · exact aw_conv [] rfl (he1 u9)
    · refine aw_aload_n (i := 0) dX10_mirror_113 114 rfl rfl 0 rfl ?_
      refine gf_X10_9 dX10_mirror_114 117 rfl wd_148 (ok_0 (by decide)) ?_
      refine aw_iload (i := 4) dX10_mirror_117 119 rfl 3 rfl ?_
      refine aw_aald dX10_mirror_119 120 rfl at_23 (by decide) (by decide) rfl rfl (al_23 _) (ok_23 (by decide)) rfl (fun h11 => ?_)
      refine gfN_X2_2 dX10_mirror_120 123 rfl "SeaCells" (ns_72) (ok_9 (q_in_lt h11)) ?_
      refine aw_iload_n (i := 1) dX10_mirror_123 124 rfl rfl 1 rfl ?_
      refine aw_jn (fun k => ∀  (u10 : qM), qAW l G m_X10_mirror (q_mq G q_cI) 151 [(0, .ref (q_ad G 0 0)), (1, .int x1), (3, .ref (q_ad G 2 (Int32.toNatClampNeg x1))), (4, .int x7)] [] u10 (k u10)) ?_ ?_
      · intro u10
        refine aw_iincx (i := 4) dX10_mirror_151 154 rfl 3 rfl 1 rfl (fun x8 => [(4, .int x8), (0, .ref (q_ad G 0 0)), (1, .int x1), (3, .ref (q_ad G 2 (Int32.toNatClampNeg x1)))]) (by decide) (fun _ => rfl) (fun x8 => ?_)
        refine aw_goto dX10_mirror_154 106 rfl ?_
        exact aw_conv [1, 2, 3, 0] rfl (ih x8 u10)
      · intro j2 hj2
        refine aw_icmp_ne dX10_mirror_124 127 rfl 151 rfl (fun h12 => ?_) (fun h12 => ?_)
        · exact hj2 u9
        · refine aw_aload_n (i := 0) dX10_mirror_127 128 rfl rfl 0 rfl ?_
          refine gf_X10_9 dX10_mirror_128 131 rfl wd_148 (ok_0 (by decide)) ?_
          refine aw_iload (i := 4) dX10_mirror_131 133 rfl 3 rfl ?_
          refine aw_aald dX10_mirror_133 134 rfl at_23 (by decide) (by decide) rfl rfl (al_23 _) (ok_23 (by decide)) rfl (fun h13 => ?_)
          refine aw_aload_n (i := 3) dX10_mirror_134 135 rfl rfl 2 rfl ?_
          refine aw_aload_n (i := 0) dX10_mirror_135 136 rfl rfl 0 rfl ?_
          refine gf_X10_9 dX10_mirror_136 139 rfl wd_148 (ok_0 (by decide)) ?_
          refine aw_iload (i := 4) dX10_mirror_139 141 rfl 3 rfl ?_
          refine aw_aald dX10_mirror_141 142 rfl at_23 (by decide) (by decide) rfl rfl (al_23 _) (ok_23 (by decide)) rfl (fun h14 => ?_)
          refine gfN_X2_3 dX10_mirror_142 145 rfl "SeaCells" (ns_73) (ok_9 (q_in_lt h14)) ?_
          refine aw_callV (M2 := m_X0_opposite) (cv := q_cI) dX10_mirror_145 148 rfl (k_X0_opposite l G (Int32.toNatClampNeg x1) (u9.1 9 (Int32.toNatClampNeg x7) 3) q2 u9) wd_176 wv_X0_opposite pk_X0_opposite rfl rfl ⟨by decide, by decide⟩ ⟨Nat.zero_le _, Nat.zero_le _⟩ at_2 (ok_2 q2) rfl rfl rfl (Nat.le_of_ble_eq_true rfl) (fun x9 u11 => ?_)
          show qAW l G m_X10_mirror (q_mq G q_cI) 148 [(0, .ref (q_ad G 0 0)), (1, .int x1), (3, .ref (q_ad G 2 (Int32.toNatClampNeg x1))), (4, .int x7)] [.int x9, .ref (q_ad G 9 (Int32.toNatClampNeg x7))] u11 _
          refine pfN_X2_3 dX10_mirror_148 151 rfl "SeaCells" (ns_73) (ok_9 (q_in_lt h13)) ?_
          refine aw_ltm (fun u12 => ?_)
          exact hj2 u12
set_option maxRecDepth 100000 in
set_option maxHeartbeats 4000000 in
theorem k_X10_mirror (l : Launch) (G : qG) (x1 : Int32)  (u0 : qM) : qCt l G m_X10_mirror q_cI [.ref (q_ad G 0 0), .int x1] u0 (f_X10_mirror x1 u0) := by
  refine q_entry pk_X10_mirror (Nat.le_of_ble_eq_true rfl) ?_
  show qAW l G m_X10_mirror (q_mq G q_cI) 0 [(0, .ref (q_ad G 0 0)), (1, .int x1)] [] u0 (f_X10_mirror x1 u0)
  unfold f_X10_mirror
  refine aw_aload_n (i := 0) dX10_mirror_0 1 rfl rfl 0 rfl ?_
  refine aw_iconst (x := 1) dX10_mirror_1 2 rfl rfl ?_
  refine aw_iload_n (i := 1) dX10_mirror_2 3 rfl rfl 1 rfl ?_
  refine aw_callV (M2 := m_X10_boardRefused) (cv := q_cI) dX10_mirror_3 6 rfl (k_X10_boardRefused l G 1 x1  u0) wd_154 wv_X10_boardRefused pk_X10_boardRefused rfl rfl ⟨by decide, by decide⟩ ⟨Nat.zero_le _, Nat.zero_le _⟩ at_0 (ok_0 (by decide)) rfl rfl rfl (Nat.le_of_ble_eq_true rfl) (fun x2 u1 => ?_)
  show qAW l G m_X10_mirror (q_mq G q_cI) 6 [(0, .ref (q_ad G 0 0)), (1, .int x1)] [.int x2] u1 _
  refine aw_istore_n dX10_mirror_6 7 rfl rfl [(2, .int x2), (0, .ref (q_ad G 0 0)), (1, .int x1)] (by decide) rfl ?_
  refine aw_iload_n (i := 2) dX10_mirror_7 8 rfl rfl 0 rfl ?_
  refine aw_if_eq dX10_mirror_8 11 rfl 13 rfl (fun h1 => ?_) (fun h1 => ?_)
  · refine aw_aload_n (i := 0) dX10_mirror_13 14 rfl rfl 1 rfl ?_
    refine gf_X10_4 dX10_mirror_14 17 rfl wd_145 (ok_0 (by decide)) ?_
    refine aw_iload_n (i := 1) dX10_mirror_17 18 rfl rfl 2 rfl ?_
    refine aw_aald dX10_mirror_18 19 rfl at_21 (by decide) (by decide) rfl rfl (al_21 _) (ok_21 (by decide)) rfl (fun h2 => ?_)
    refine aw_astore_n dX10_mirror_19 20 rfl rfl [(3, .ref (q_ad G 2 (Int32.toNatClampNeg x1))), (2, .int x2), (0, .ref (q_ad G 0 0)), (1, .int x1)] (by decide) rfl ?_
    refine aw_aload_n (i := 3) dX10_mirror_20 21 rfl rfl 0 rfl ?_
    refine gfN_X0_11 dX10_mirror_21 24 rfl "SeaCells" (ns_48) (ok_2 (Nat.lt_of_lt_of_le (q_in_lt h2) (by decide))) ?_
    refine aw_iconst (x := 2) dX10_mirror_24 25 rfl rfl ?_
    refine aw_icmp_ne dX10_mirror_25 28 rfl 34 rfl (fun h3 => ?_) (fun h3 => ?_)
    · refine aw_aload_n (i := 0) dX10_mirror_34 35 rfl rfl 2 rfl ?_
      refine aw_iload_n (i := 1) dX10_mirror_35 36 rfl rfl 3 rfl ?_
      refine aw_callV (M2 := m_X10_bearsNest) (cv := q_cI) dX10_mirror_36 39 rfl (k_X10_bearsNest l G x1  u1) wd_174 wv_X10_bearsNest pk_X10_bearsNest rfl rfl ⟨by decide, by decide⟩ ⟨Nat.zero_le _, Nat.zero_le _⟩ at_0 (ok_0 (by decide)) rfl rfl rfl (Nat.le_of_ble_eq_true rfl) (fun x3 u2 => ?_)
      show qAW l G m_X10_mirror (q_mq G q_cI) 39 [(3, .ref (q_ad G 2 (Int32.toNatClampNeg x1))), (2, .int x2), (0, .ref (q_ad G 0 0)), (1, .int x1)] [.int x3] u2 _
      refine aw_if_eq dX10_mirror_39 42 rfl 45 rfl (fun h4 => ?_) (fun h4 => ?_)
      · refine aw_aload_n (i := 3) dX10_mirror_45 46 rfl rfl 0 rfl ?_
        refine aw_callV (M2 := m_X0_turn) (cv := q_cU) dX10_mirror_46 49 rfl (k_X0_turn l G (Int32.toNatClampNeg x1) (Nat.lt_of_lt_of_le (q_in_lt h2) (by decide)) u2) wd_175 wv_X0_turn pk_X0_turn rfl rfl ⟨by decide, by decide⟩ ⟨Nat.zero_le _, Nat.zero_le _⟩ at_2 (ok_2 (Nat.lt_of_lt_of_le (q_in_lt h2) (by decide))) rfl rfl rfl (Nat.le_of_ble_eq_true rfl) (fun _z u3 => ?_)
        show qAW l G m_X10_mirror (q_mq G q_cI) 49 [(3, .ref (q_ad G 2 (Int32.toNatClampNeg x1))), (2, .int x2), (0, .ref (q_ad G 0 0)), (1, .int x1)] [] u3 _
        refine aw_iconst (x := 0) dX10_mirror_49 50 rfl rfl ?_
        refine aw_istore dX10_mirror_50 52 rfl [(4, .int 0), (3, .ref (q_ad G 2 (Int32.toNatClampNeg x1))), (2, .int x2), (0, .ref (q_ad G 0 0)), (1, .int x1)] (by decide) rfl ?_
        refine aw_conv [3, 4, 1, 0] rfl (TL_X10_mirror_52 l G x1 (Nat.lt_of_lt_of_le (q_in_lt h2) (by decide)) _ ?_ _ 0 u3)
        · intro u8
          refine aw_iconst (x := 0) dX10_mirror_103 104 rfl rfl ?_
          refine aw_istore dX10_mirror_104 106 rfl [(4, .int 0), (0, .ref (q_ad G 0 0)), (1, .int x1), (3, .ref (q_ad G 2 (Int32.toNatClampNeg x1)))] (by decide) rfl ?_
          refine aw_conv [1, 2, 3, 0] rfl (TL_X10_mirror_106 l G x1 (Nat.lt_of_lt_of_le (q_in_lt h2) (by decide)) _ ?_ _ 0 u8)
          · intro u13
            refine aw_iconst (x := 1) dX10_mirror_157 158 rfl rfl ?_
            exact aw_iret dX10_mirror_158 rfl
      · refine aw_bipush (x := (-4)) dX10_mirror_42 44 rfl rfl ?_
        exact aw_iret dX10_mirror_44 rfl
    · refine aw_aload_n (i := 0) dX10_mirror_28 29 rfl rfl 2 rfl ?_
      refine aw_iconst (x := 3) dX10_mirror_29 30 rfl rfl ?_
      refine aw_callV (M2 := m_X10_found) (cv := q_cI) dX10_mirror_30 33 rfl (k_X10_found l G 3  u1) wd_128 wv_X10_found pk_X10_found rfl rfl ⟨by decide, by decide⟩ ⟨Nat.zero_le _, Nat.zero_le _⟩ at_0 (ok_0 (by decide)) rfl rfl rfl (Nat.le_of_ble_eq_true rfl) (fun x10 u14 => ?_)
      show qAW l G m_X10_mirror (q_mq G q_cI) 33 [(3, .ref (q_ad G 2 (Int32.toNatClampNeg x1))), (2, .int x2), (0, .ref (q_ad G 0 0)), (1, .int x1)] [.int x10] u14 _
      exact aw_iret dX10_mirror_33 rfl
  · refine aw_iload_n (i := 2) dX10_mirror_11 12 rfl rfl 0 rfl ?_
    exact aw_iret dX10_mirror_12 rfl
theorem dX10_boat_0 : decode cX10_boat 0 = .ok (.aload_n 0, 1) := by decide +kernel
theorem dX10_boat_1 : decode cX10_boat 1 = .ok (.iload_n 1, 1) := by decide +kernel
theorem dX10_boat_2 : decode cX10_boat 2 = .ok (.iconst 0, 1) := by decide +kernel
theorem dX10_boat_3 : decode cX10_boat 3 = .ok (.bipush 7, 2) := by decide +kernel
theorem dX10_boat_5 : decode cX10_boat 5 = .ok (.invokestatic 101, 3) := by decide +kernel
theorem dX10_boat_8 : decode cX10_boat 8 = .ok (.ifCond .eq 19, 3) := by decide +kernel
theorem dX10_boat_11 : decode cX10_boat 11 = .ok (.iload 4, 2) := by decide +kernel
theorem dX10_boat_13 : decode cX10_boat 13 = .ok (.iconst 1, 1) := by decide +kernel
theorem dX10_boat_14 : decode cX10_boat 14 = .ok (.sipush 1000, 3) := by decide +kernel
theorem dX10_boat_17 : decode cX10_boat 17 = .ok (.invokestatic 101, 3) := by decide +kernel
theorem dX10_boat_20 : decode cX10_boat 20 = .ok (.ifCond .eq 7, 3) := by decide +kernel
theorem dX10_boat_23 : decode cX10_boat 23 = .ok (.iconst 1, 1) := by decide +kernel
theorem dX10_boat_24 : decode cX10_boat 24 = .ok (.goto 4, 3) := by decide +kernel
theorem dX10_boat_27 : decode cX10_boat 27 = .ok (.iconst 0, 1) := by decide +kernel
theorem dX10_boat_28 : decode cX10_boat 28 = .ok (.iload_n 2, 1) := by decide +kernel
theorem dX10_boat_29 : decode cX10_boat 29 = .ok (.iload_n 3, 1) := by decide +kernel
theorem dX10_boat_30 : decode cX10_boat 30 = .ok (.invokevirtual 174, 3) := by decide +kernel
theorem dX10_boat_33 : decode cX10_boat 33 = .ok (.istore 5, 2) := by decide +kernel
theorem dX10_boat_35 : decode cX10_boat 35 = .ok (.iload 5, 2) := by decide +kernel
theorem dX10_boat_37 : decode cX10_boat 37 = .ok (.ifCond .eq 6, 3) := by decide +kernel
theorem dX10_boat_40 : decode cX10_boat 40 = .ok (.iload 5, 2) := by decide +kernel
theorem dX10_boat_42 : decode cX10_boat 42 = .ok (.ireturn, 1) := by decide +kernel
theorem dX10_boat_43 : decode cX10_boat 43 = .ok (.aload_n 0, 1) := by decide +kernel
theorem dX10_boat_44 : decode cX10_boat 44 = .ok (.getfield 55, 3) := by decide +kernel
theorem dX10_boat_47 : decode cX10_boat 47 = .ok (.iload_n 1, 1) := by decide +kernel
theorem dX10_boat_48 : decode cX10_boat 48 = .ok (.aaload, 1) := by decide +kernel
theorem dX10_boat_49 : decode cX10_boat 49 = .ok (.getfield 285, 3) := by decide +kernel
theorem dX10_boat_52 : decode cX10_boat 52 = .ok (.bipush (-9), 2) := by decide +kernel
theorem dX10_boat_54 : decode cX10_boat 54 = .ok (.if_icmp .ne 7, 3) := by decide +kernel
theorem dX10_boat_57 : decode cX10_boat 57 = .ok (.iconst 0, 1) := by decide +kernel
theorem dX10_boat_58 : decode cX10_boat 58 = .ok (.goto 4, 3) := by decide +kernel
theorem dX10_boat_61 : decode cX10_boat 61 = .ok (.iconst 1, 1) := by decide +kernel
theorem dX10_boat_62 : decode cX10_boat 62 = .ok (.istore 6, 2) := by decide +kernel
theorem dX10_boat_64 : decode cX10_boat 64 = .ok (.aload_n 0, 1) := by decide +kernel
theorem dX10_boat_65 : decode cX10_boat 65 = .ok (.getfield 55, 3) := by decide +kernel
theorem dX10_boat_68 : decode cX10_boat 68 = .ok (.iload_n 1, 1) := by decide +kernel
theorem dX10_boat_69 : decode cX10_boat 69 = .ok (.aaload, 1) := by decide +kernel
theorem dX10_boat_70 : decode cX10_boat 70 = .ok (.iload_n 2, 1) := by decide +kernel
theorem dX10_boat_71 : decode cX10_boat 71 = .ok (.putfield 285, 3) := by decide +kernel
theorem dX10_boat_74 : decode cX10_boat 74 = .ok (.aload_n 0, 1) := by decide +kernel
theorem dX10_boat_75 : decode cX10_boat 75 = .ok (.getfield 55, 3) := by decide +kernel
theorem dX10_boat_78 : decode cX10_boat 78 = .ok (.iload_n 1, 1) := by decide +kernel
theorem dX10_boat_79 : decode cX10_boat 79 = .ok (.aaload, 1) := by decide +kernel
theorem dX10_boat_80 : decode cX10_boat 80 = .ok (.iload_n 3, 1) := by decide +kernel
theorem dX10_boat_81 : decode cX10_boat 81 = .ok (.putfield 288, 3) := by decide +kernel
theorem dX10_boat_84 : decode cX10_boat 84 = .ok (.aload_n 0, 1) := by decide +kernel
theorem dX10_boat_85 : decode cX10_boat 85 = .ok (.getfield 55, 3) := by decide +kernel
theorem dX10_boat_88 : decode cX10_boat 88 = .ok (.iload_n 1, 1) := by decide +kernel
theorem dX10_boat_89 : decode cX10_boat 89 = .ok (.aaload, 1) := by decide +kernel
theorem dX10_boat_90 : decode cX10_boat 90 = .ok (.iload 4, 2) := by decide +kernel
theorem dX10_boat_92 : decode cX10_boat 92 = .ok (.putfield 324, 3) := by decide +kernel
theorem dX10_boat_95 : decode cX10_boat 95 = .ok (.iload 6, 2) := by decide +kernel
theorem dX10_boat_97 : decode cX10_boat 97 = .ok (.ireturn, 1) := by decide +kernel
noncomputable def f_X10_boat (x1 : Int32) (x2 : Int32) (x3 : Int32) (x4 : Int32) (u0 : qM) : Option (Int32 × qM) :=
  q_bd (f_X10_within x1 0 7 u0) (fun (x5 : Int32) (u1 : qM) => q_jn (fun (x6 : Int32) (u2 : qM) => q_bd (f_X10_cellRefused x6 x2 x3 u2) (fun (x7 : Int32) (u3 : qM) => if x7 = 0 then q_ck (q_in x1 8) (q_jn (fun (x8 : Int32) (u4 : qM) => q_ck (q_in x1 8) (q_lt (q_si u4 8 (Int32.toNatClampNeg x1) 0 x2) (fun (u5 : qM) => q_ck (q_in x1 8) (q_lt (q_si u5 8 (Int32.toNatClampNeg x1) 1 x3) (fun (u6 : qM) => q_ck (q_in x1 8) (q_lt (q_si u6 8 (Int32.toNatClampNeg x1) 2 x4) (fun (u7 : qM) => some (x8, u7)))))))) (fun j2 => if (u3.1 8 (Int32.toNatClampNeg x1) 0) = (-9) then j2 0 u3 else j2 1 u3)) else some (x7, u3))) (fun j1 => q_jn (fun  (u8 : qM) => j1 0 u8) (fun j3 => if x5 = 0 then j3 u1 else q_bd (f_X10_within x4 1 1000 u1) (fun (x9 : Int32) (u9 : qM) => if x9 = 0 then j3 u9 else j1 1 u9))))
set_option maxRecDepth 100000 in
set_option maxHeartbeats 4000000 in
theorem k_X10_boat (l : Launch) (G : qG) (x1 : Int32) (x2 : Int32) (x3 : Int32) (x4 : Int32)  (u0 : qM) : qCt l G m_X10_boat q_cI [.ref (q_ad G 0 0), .int x1, .int x2, .int x3, .int x4] u0 (f_X10_boat x1 x2 x3 x4 u0) := by
  refine q_entry pk_X10_boat (Nat.le_of_ble_eq_true rfl) ?_
  show qAW l G m_X10_boat (q_mq G q_cI) 0 [(0, .ref (q_ad G 0 0)), (1, .int x1), (2, .int x2), (3, .int x3), (4, .int x4)] [] u0 (f_X10_boat x1 x2 x3 x4 u0)
  unfold f_X10_boat
  refine aw_aload_n (i := 0) dX10_boat_0 1 rfl rfl 0 rfl ?_
  refine aw_iload_n (i := 1) dX10_boat_1 2 rfl rfl 1 rfl ?_
  refine aw_iconst (x := 0) dX10_boat_2 3 rfl rfl ?_
  refine aw_bipush (x := 7) dX10_boat_3 5 rfl rfl ?_
  refine aw_callS (M2 := m_X10_within) (cv := q_cI) dX10_boat_5 8 rfl (k_X10_within l G x1 0 7  u0) wd_131 wv_X10_within pk_X10_within rfl ⟨by decide, by decide⟩ ⟨Nat.zero_le _, Nat.zero_le _⟩ rfl (Nat.le_of_ble_eq_true rfl) (fun x5 u1 => ?_)
  show qAW l G m_X10_boat (q_mq G q_cI) 8 [(0, .ref (q_ad G 0 0)), (1, .int x1), (2, .int x2), (3, .int x3), (4, .int x4)] [.int x5, .ref (q_ad G 0 0)] u1 _
  refine aw_jn (fun k => ∀ (x6 : Int32) (u2 : qM), qAW l G m_X10_boat (q_mq G q_cI) 28 [(0, .ref (q_ad G 0 0)), (1, .int x1), (2, .int x2), (3, .int x3), (4, .int x4)] [.int x6, .ref (q_ad G 0 0)] u2 (k x6 u2)) ?_ ?_
  · intro x6 u2
    refine aw_iload_n (i := 2) dX10_boat_28 29 rfl rfl 2 rfl ?_
    refine aw_iload_n (i := 3) dX10_boat_29 30 rfl rfl 3 rfl ?_
    refine aw_callV (M2 := m_X10_cellRefused) (cv := q_cI) dX10_boat_30 33 rfl (k_X10_cellRefused l G x6 x2 x3  u2) wd_156 wv_X10_cellRefused pk_X10_cellRefused rfl rfl ⟨by decide, by decide⟩ ⟨Nat.zero_le _, Nat.zero_le _⟩ at_0 (ok_0 (by decide)) rfl rfl rfl (Nat.le_of_ble_eq_true rfl) (fun x7 u3 => ?_)
    show qAW l G m_X10_boat (q_mq G q_cI) 33 [(0, .ref (q_ad G 0 0)), (1, .int x1), (2, .int x2), (3, .int x3), (4, .int x4)] [.int x7] u3 _
    refine aw_istore dX10_boat_33 35 rfl [(5, .int x7), (0, .ref (q_ad G 0 0)), (1, .int x1), (2, .int x2), (3, .int x3), (4, .int x4)] (by decide) rfl ?_
    refine aw_iload (i := 5) dX10_boat_35 37 rfl 0 rfl ?_
    refine aw_if_eq dX10_boat_37 40 rfl 43 rfl (fun h2 => ?_) (fun h2 => ?_)
    · refine aw_aload_n (i := 0) dX10_boat_43 44 rfl rfl 1 rfl ?_
      refine gf_X10_8 dX10_boat_44 47 rfl wd_147 (ok_0 (by decide)) ?_
      refine aw_iload_n (i := 1) dX10_boat_47 48 rfl rfl 2 rfl ?_
      refine aw_aald dX10_boat_48 49 rfl at_22 (by decide) (by decide) rfl rfl (al_22 _) (ok_22 (by decide)) rfl (fun h3 => ?_)
      refine gfN_X1_0 dX10_boat_49 52 rfl "SeaCells" (ns_65) (ok_8 (q_in_lt h3)) ?_
      refine aw_bipush (x := (-9)) dX10_boat_52 54 rfl rfl ?_
      refine aw_jn (fun k => ∀ (x8 : Int32) (u4 : qM), qAW l G m_X10_boat (q_mq G q_cI) 62 [(0, .ref (q_ad G 0 0)), (1, .int x1), (2, .int x2), (3, .int x3), (4, .int x4)] [.int x8] u4 (k x8 u4)) ?_ ?_
      · intro x8 u4
        refine aw_istore dX10_boat_62 64 rfl [(6, .int x8), (0, .ref (q_ad G 0 0)), (1, .int x1), (2, .int x2), (3, .int x3), (4, .int x4)] (by decide) rfl ?_
        refine aw_aload_n (i := 0) dX10_boat_64 65 rfl rfl 1 rfl ?_
        refine gf_X10_8 dX10_boat_65 68 rfl wd_147 (ok_0 (by decide)) ?_
        refine aw_iload_n (i := 1) dX10_boat_68 69 rfl rfl 2 rfl ?_
        refine aw_aald dX10_boat_69 70 rfl at_22 (by decide) (by decide) rfl rfl (al_22 _) (ok_22 (by decide)) rfl (fun h5 => ?_)
        refine aw_iload_n (i := 2) dX10_boat_70 71 rfl rfl 3 rfl ?_
        refine pfN_X1_0 dX10_boat_71 74 rfl "SeaCells" (ns_65) (ok_8 (q_in_lt h5)) ?_
        refine aw_ltm (fun u5 => ?_)
        refine aw_aload_n (i := 0) dX10_boat_74 75 rfl rfl 1 rfl ?_
        refine gf_X10_8 dX10_boat_75 78 rfl wd_147 (ok_0 (by decide)) ?_
        refine aw_iload_n (i := 1) dX10_boat_78 79 rfl rfl 2 rfl ?_
        refine aw_aald dX10_boat_79 80 rfl at_22 (by decide) (by decide) rfl rfl (al_22 _) (ok_22 (by decide)) rfl (fun h6 => ?_)
        refine aw_iload_n (i := 3) dX10_boat_80 81 rfl rfl 4 rfl ?_
        refine pfN_X1_1 dX10_boat_81 84 rfl "SeaCells" (ns_66) (ok_8 (q_in_lt h6)) ?_
        refine aw_ltm (fun u6 => ?_)
        refine aw_aload_n (i := 0) dX10_boat_84 85 rfl rfl 1 rfl ?_
        refine gf_X10_8 dX10_boat_85 88 rfl wd_147 (ok_0 (by decide)) ?_
        refine aw_iload_n (i := 1) dX10_boat_88 89 rfl rfl 2 rfl ?_
        refine aw_aald dX10_boat_89 90 rfl at_22 (by decide) (by decide) rfl rfl (al_22 _) (ok_22 (by decide)) rfl (fun h7 => ?_)
        refine aw_iload (i := 4) dX10_boat_90 92 rfl 5 rfl ?_
        refine pfN_X1_2 dX10_boat_92 95 rfl "SeaCells" (ns_67) (ok_8 (q_in_lt h7)) ?_
        refine aw_ltm (fun u7 => ?_)
        refine aw_iload (i := 6) dX10_boat_95 97 rfl 0 rfl ?_
        exact aw_iret dX10_boat_97 rfl
      · intro j2 hj2
        refine aw_icmp_ne dX10_boat_54 57 rfl 61 rfl (fun h4 => ?_) (fun h4 => ?_)
        · refine aw_iconst (x := 1) dX10_boat_61 62 rfl rfl ?_
          exact aw_conv [1, 2, 3, 4, 5] rfl (hj2 1 u3)
        · refine aw_iconst (x := 0) dX10_boat_57 58 rfl rfl ?_
          refine aw_goto dX10_boat_58 62 rfl ?_
          exact aw_conv [1, 2, 3, 4, 5] rfl (hj2 0 u3)
    · refine aw_iload (i := 5) dX10_boat_40 42 rfl 0 rfl ?_
      exact aw_iret dX10_boat_42 rfl
  · intro j1 hj1
    refine aw_jn (fun k => ∀  (u8 : qM), qAW l G m_X10_boat (q_mq G q_cI) 27 [(0, .ref (q_ad G 0 0)), (1, .int x1), (2, .int x2), (3, .int x3), (4, .int x4)] [.ref (q_ad G 0 0)] u8 (k u8)) ?_ ?_
    · intro u8
      refine aw_iconst (x := 0) dX10_boat_27 28 rfl rfl ?_
      exact hj1 0 u8
    · intro j3 hj3
      refine aw_if_eq dX10_boat_8 11 rfl 27 rfl (fun h1 => ?_) (fun h1 => ?_)
      · exact hj3 u1
      · refine aw_iload (i := 4) dX10_boat_11 13 rfl 4 rfl ?_
        refine aw_iconst (x := 1) dX10_boat_13 14 rfl rfl ?_
        refine aw_sipush (x := 1000) dX10_boat_14 17 rfl rfl ?_
        refine aw_callS (M2 := m_X10_within) (cv := q_cI) dX10_boat_17 20 rfl (k_X10_within l G x4 1 1000  u1) wd_131 wv_X10_within pk_X10_within rfl ⟨by decide, by decide⟩ ⟨Nat.zero_le _, Nat.zero_le _⟩ rfl (Nat.le_of_ble_eq_true rfl) (fun x9 u9 => ?_)
        show qAW l G m_X10_boat (q_mq G q_cI) 20 [(0, .ref (q_ad G 0 0)), (1, .int x1), (2, .int x2), (3, .int x3), (4, .int x4)] [.int x9, .ref (q_ad G 0 0)] u9 _
        refine aw_if_eq dX10_boat_20 23 rfl 27 rfl (fun h8 => ?_) (fun h8 => ?_)
        · exact hj3 u9
        · refine aw_iconst (x := 1) dX10_boat_23 24 rfl rfl ?_
          refine aw_goto dX10_boat_24 28 rfl ?_
          exact hj1 1 u9
theorem dX10_where_0 : decode cX10_where 0 = .ok (.iload_n 1, 1) := by decide +kernel
theorem dX10_where_1 : decode cX10_where 1 = .ok (.iconst 0, 1) := by decide +kernel
theorem dX10_where_2 : decode cX10_where 2 = .ok (.bipush 7, 2) := by decide +kernel
theorem dX10_where_4 : decode cX10_where 4 = .ok (.invokestatic 101, 3) := by decide +kernel
theorem dX10_where_7 : decode cX10_where 7 = .ok (.ifCond .ne 5, 3) := by decide +kernel
theorem dX10_where_10 : decode cX10_where 10 = .ok (.iconst (-1), 1) := by decide +kernel
theorem dX10_where_11 : decode cX10_where 11 = .ok (.ireturn, 1) := by decide +kernel
theorem dX10_where_12 : decode cX10_where 12 = .ok (.aload_n 0, 1) := by decide +kernel
theorem dX10_where_13 : decode cX10_where 13 = .ok (.getfield 55, 3) := by decide +kernel
theorem dX10_where_16 : decode cX10_where 16 = .ok (.iload_n 1, 1) := by decide +kernel
theorem dX10_where_17 : decode cX10_where 17 = .ok (.aaload, 1) := by decide +kernel
theorem dX10_where_18 : decode cX10_where 18 = .ok (.getfield 285, 3) := by decide +kernel
theorem dX10_where_21 : decode cX10_where 21 = .ok (.bipush (-9), 2) := by decide +kernel
theorem dX10_where_23 : decode cX10_where 23 = .ok (.if_icmp .ne 8, 3) := by decide +kernel
theorem dX10_where_26 : decode cX10_where 26 = .ok (.bipush (-9), 2) := by decide +kernel
theorem dX10_where_28 : decode cX10_where 28 = .ok (.goto 12, 3) := by decide +kernel
theorem dX10_where_31 : decode cX10_where 31 = .ok (.aload_n 0, 1) := by decide +kernel
theorem dX10_where_32 : decode cX10_where 32 = .ok (.getfield 55, 3) := by decide +kernel
theorem dX10_where_35 : decode cX10_where 35 = .ok (.iload_n 1, 1) := by decide +kernel
theorem dX10_where_36 : decode cX10_where 36 = .ok (.aaload, 1) := by decide +kernel
theorem dX10_where_37 : decode cX10_where 37 = .ok (.getfield 288, 3) := by decide +kernel
theorem dX10_where_40 : decode cX10_where 40 = .ok (.ireturn, 1) := by decide +kernel
noncomputable def f_X10_where (x1 : Int32) (u0 : qM) : Option (Int32 × qM) :=
  q_bd (f_X10_within x1 0 7 u0) (fun (x2 : Int32) (u1 : qM) => if x2 = 0 then some ((-1), u1) else q_ck (q_in x1 8) (q_jn (fun (x3 : Int32) (u2 : qM) => some (x3, u2)) (fun j1 => if (u1.1 8 (Int32.toNatClampNeg x1) 0) = (-9) then j1 (-9) u1 else q_ck (q_in x1 8) (j1 (u1.1 8 (Int32.toNatClampNeg x1) 1) u1))))
set_option maxRecDepth 100000 in
set_option maxHeartbeats 4000000 in
theorem k_X10_where (l : Launch) (G : qG) (x1 : Int32)  (u0 : qM) : qCt l G m_X10_where q_cI [.ref (q_ad G 0 0), .int x1] u0 (f_X10_where x1 u0) := by
  refine q_entry pk_X10_where (Nat.le_of_ble_eq_true rfl) ?_
  show qAW l G m_X10_where (q_mq G q_cI) 0 [(0, .ref (q_ad G 0 0)), (1, .int x1)] [] u0 (f_X10_where x1 u0)
  unfold f_X10_where
  refine aw_iload_n (i := 1) dX10_where_0 1 rfl rfl 1 rfl ?_
  refine aw_iconst (x := 0) dX10_where_1 2 rfl rfl ?_
  refine aw_bipush (x := 7) dX10_where_2 4 rfl rfl ?_
  refine aw_callS (M2 := m_X10_within) (cv := q_cI) dX10_where_4 7 rfl (k_X10_within l G x1 0 7  u0) wd_131 wv_X10_within pk_X10_within rfl ⟨by decide, by decide⟩ ⟨Nat.zero_le _, Nat.zero_le _⟩ rfl (Nat.le_of_ble_eq_true rfl) (fun x2 u1 => ?_)
  show qAW l G m_X10_where (q_mq G q_cI) 7 [(0, .ref (q_ad G 0 0)), (1, .int x1)] [.int x2] u1 _
  refine aw_if_ne dX10_where_7 10 rfl 12 rfl (fun h1 => ?_) (fun h1 => ?_)
  · refine aw_aload_n (i := 0) dX10_where_12 13 rfl rfl 0 rfl ?_
    refine gf_X10_8 dX10_where_13 16 rfl wd_147 (ok_0 (by decide)) ?_
    refine aw_iload_n (i := 1) dX10_where_16 17 rfl rfl 1 rfl ?_
    refine aw_aald dX10_where_17 18 rfl at_22 (by decide) (by decide) rfl rfl (al_22 _) (ok_22 (by decide)) rfl (fun h2 => ?_)
    refine gfN_X1_0 dX10_where_18 21 rfl "SeaCells" (ns_65) (ok_8 (q_in_lt h2)) ?_
    refine aw_bipush (x := (-9)) dX10_where_21 23 rfl rfl ?_
    refine aw_jn (fun k => ∀ (x3 : Int32) (u2 : qM), qAW l G m_X10_where (q_mq G q_cI) 40 [] [.int x3] u2 (k x3 u2)) ?_ ?_
    · intro x3 u2
      exact aw_iret dX10_where_40 rfl
    · intro j1 hj1
      refine aw_icmp_ne dX10_where_23 26 rfl 31 rfl (fun h3 => ?_) (fun h3 => ?_)
      · refine aw_aload_n (i := 0) dX10_where_31 32 rfl rfl 0 rfl ?_
        refine gf_X10_8 dX10_where_32 35 rfl wd_147 (ok_0 (by decide)) ?_
        refine aw_iload_n (i := 1) dX10_where_35 36 rfl rfl 1 rfl ?_
        refine aw_aald dX10_where_36 37 rfl at_22 (by decide) (by decide) rfl rfl (al_22 _) (ok_22 (by decide)) rfl (fun h4 => ?_)
        refine gfN_X1_1 dX10_where_37 40 rfl "SeaCells" (ns_66) (ok_8 (q_in_lt h4)) ?_
        exact aw_conv [] rfl (hj1 (u1.1 8 (Int32.toNatClampNeg x1) 1) u1)
      · refine aw_bipush (x := (-9)) dX10_where_26 28 rfl rfl ?_
        refine aw_goto dX10_where_28 40 rfl ?_
        exact aw_conv [] rfl (hj1 (-9) u1)
  · refine aw_iconst (x := (-1)) dX10_where_10 11 rfl rfl ?_
    exact aw_iret dX10_where_11 rfl
theorem dX10_isGauge_0 : decode cX10_isGauge 0 = .ok (.iload_n 0, 1) := by decide +kernel
theorem dX10_isGauge_1 : decode cX10_isGauge 1 = .ok (.ifCond .lt 13, 3) := by decide +kernel
theorem dX10_isGauge_4 : decode cX10_isGauge 4 = .ok (.iload_n 0, 1) := by decide +kernel
theorem dX10_isGauge_5 : decode cX10_isGauge 5 = .ok (.bipush 8, 2) := by decide +kernel
theorem dX10_isGauge_7 : decode cX10_isGauge 7 = .ok (.if_icmp .ge 7, 3) := by decide +kernel
theorem dX10_isGauge_10 : decode cX10_isGauge 10 = .ok (.iconst 1, 1) := by decide +kernel
theorem dX10_isGauge_11 : decode cX10_isGauge 11 = .ok (.goto 4, 3) := by decide +kernel
theorem dX10_isGauge_14 : decode cX10_isGauge 14 = .ok (.iconst 0, 1) := by decide +kernel
theorem dX10_isGauge_15 : decode cX10_isGauge 15 = .ok (.ireturn, 1) := by decide +kernel
noncomputable def f_X10_isGauge (x1 : Int32) (u0 : qM) : Option (Int32 × qM) :=
  q_jn (fun (x2 : Int32) (u1 : qM) => q_ck (q_b x2) (some (x2, u1))) (fun j1 => q_jn (fun  (u2 : qM) => j1 0 u2) (fun j2 => if x1 < 0 then j2 u0 else if 8 ≤ x1 then j2 u0 else j1 1 u0))
set_option maxRecDepth 100000 in
set_option maxHeartbeats 4000000 in
theorem k_X10_isGauge (l : Launch) (G : qG) (x1 : Int32)  (u0 : qM) : qCt l G m_X10_isGauge q_cI [.int x1] u0 (f_X10_isGauge x1 u0) := by
  refine q_entry pk_X10_isGauge (Nat.le_of_ble_eq_true rfl) ?_
  show qAW l G m_X10_isGauge (q_mq G q_cI) 0 [(0, .int x1)] [] u0 (f_X10_isGauge x1 u0)
  unfold f_X10_isGauge
  refine aw_iload_n (i := 0) dX10_isGauge_0 1 rfl rfl 0 rfl ?_
  refine aw_jn (fun k => ∀ (x2 : Int32) (u1 : qM), qAW l G m_X10_isGauge (q_mq G q_cI) 15 [] [.int x2] u1 (k x2 u1)) ?_ ?_
  · intro x2 u1
    refine aw_ck (fun h2 => ?_)
    exact aw_zret dX10_isGauge_15 rfl h2
  · intro j1 hj1
    refine aw_jn (fun k => ∀  (u2 : qM), qAW l G m_X10_isGauge (q_mq G q_cI) 14 [] [] u2 (k u2)) ?_ ?_
    · intro u2
      refine aw_iconst (x := 0) dX10_isGauge_14 15 rfl rfl ?_
      exact hj1 0 u2
    · intro j2 hj2
      refine aw_if_lt dX10_isGauge_1 4 rfl 14 rfl (fun h1 => ?_) (fun h1 => ?_)
      · exact aw_conv [] rfl (hj2 u0)
      · refine aw_iload_n (i := 0) dX10_isGauge_4 5 rfl rfl 0 rfl ?_
        refine aw_bipush (x := 8) dX10_isGauge_5 7 rfl rfl ?_
        refine aw_icmp_ge dX10_isGauge_7 10 rfl 14 rfl (fun h3 => ?_) (fun h3 => ?_)
        · exact aw_conv [] rfl (hj2 u0)
        · refine aw_iconst (x := 1) dX10_isGauge_10 11 rfl rfl ?_
          refine aw_goto dX10_isGauge_11 15 rfl ?_
          exact aw_conv [] rfl (hj1 1 u0)
theorem dX10_gauge_0 : decode cX10_gauge 0 = .ok (.aload_n 0, 1) := by decide +kernel
theorem dX10_gauge_1 : decode cX10_gauge 1 = .ok (.iload_n 1, 1) := by decide +kernel
theorem dX10_gauge_2 : decode cX10_gauge 2 = .ok (.invokestatic 327, 3) := by decide +kernel
theorem dX10_gauge_5 : decode cX10_gauge 5 = .ok (.iload_n 2, 1) := by decide +kernel
theorem dX10_gauge_6 : decode cX10_gauge 6 = .ok (.iload_n 3, 1) := by decide +kernel
theorem dX10_gauge_7 : decode cX10_gauge 7 = .ok (.invokevirtual 174, 3) := by decide +kernel
theorem dX10_gauge_10 : decode cX10_gauge 10 = .ok (.istore 4, 2) := by decide +kernel
theorem dX10_gauge_12 : decode cX10_gauge 12 = .ok (.iload 4, 2) := by decide +kernel
theorem dX10_gauge_14 : decode cX10_gauge 14 = .ok (.ifCond .eq 6, 3) := by decide +kernel
theorem dX10_gauge_17 : decode cX10_gauge 17 = .ok (.iload 4, 2) := by decide +kernel
theorem dX10_gauge_19 : decode cX10_gauge 19 = .ok (.ireturn, 1) := by decide +kernel
theorem dX10_gauge_20 : decode cX10_gauge 20 = .ok (.aload_n 0, 1) := by decide +kernel
theorem dX10_gauge_21 : decode cX10_gauge 21 = .ok (.getfield 61, 3) := by decide +kernel
theorem dX10_gauge_24 : decode cX10_gauge 24 = .ok (.iload_n 1, 1) := by decide +kernel
theorem dX10_gauge_25 : decode cX10_gauge 25 = .ok (.aaload, 1) := by decide +kernel
theorem dX10_gauge_26 : decode cX10_gauge 26 = .ok (.getfield 293, 3) := by decide +kernel
theorem dX10_gauge_29 : decode cX10_gauge 29 = .ok (.bipush (-9), 2) := by decide +kernel
theorem dX10_gauge_31 : decode cX10_gauge 31 = .ok (.if_icmp .ne 7, 3) := by decide +kernel
theorem dX10_gauge_34 : decode cX10_gauge 34 = .ok (.iconst 0, 1) := by decide +kernel
theorem dX10_gauge_35 : decode cX10_gauge 35 = .ok (.goto 4, 3) := by decide +kernel
theorem dX10_gauge_38 : decode cX10_gauge 38 = .ok (.iconst 1, 1) := by decide +kernel
theorem dX10_gauge_39 : decode cX10_gauge 39 = .ok (.istore 5, 2) := by decide +kernel
theorem dX10_gauge_41 : decode cX10_gauge 41 = .ok (.aload_n 0, 1) := by decide +kernel
theorem dX10_gauge_42 : decode cX10_gauge 42 = .ok (.getfield 61, 3) := by decide +kernel
theorem dX10_gauge_45 : decode cX10_gauge 45 = .ok (.iload_n 1, 1) := by decide +kernel
theorem dX10_gauge_46 : decode cX10_gauge 46 = .ok (.aaload, 1) := by decide +kernel
theorem dX10_gauge_47 : decode cX10_gauge 47 = .ok (.iload_n 2, 1) := by decide +kernel
theorem dX10_gauge_48 : decode cX10_gauge 48 = .ok (.iload_n 3, 1) := by decide +kernel
theorem dX10_gauge_49 : decode cX10_gauge 49 = .ok (.invokevirtual 330, 3) := by decide +kernel
theorem dX10_gauge_52 : decode cX10_gauge 52 = .ok (.iload 5, 2) := by decide +kernel
theorem dX10_gauge_54 : decode cX10_gauge 54 = .ok (.ireturn, 1) := by decide +kernel
noncomputable def f_X10_gauge (x1 : Int32) (x2 : Int32) (x3 : Int32) (u0 : qM) : Option (Int32 × qM) :=
  q_bd (f_X10_isGauge x1 u0) (fun (x4 : Int32) (u1 : qM) => q_bd (f_X10_cellRefused x4 x2 x3 u1) (fun (x5 : Int32) (u2 : qM) => if x5 = 0 then q_ck (q_in x1 8) (q_jn (fun (x6 : Int32) (u3 : qM) => q_ck (q_in x1 8) (q_bd (f_X2_place (Int32.toNatClampNeg x1) x2 x3 u3) (fun (_z : Unit) (u4 : qM) => some (x6, u4)))) (fun j1 => if (u2.1 9 (Int32.toNatClampNeg x1) 2) = (-9) then j1 0 u2 else j1 1 u2)) else some (x5, u2)))
set_option maxRecDepth 100000 in
set_option maxHeartbeats 4000000 in
theorem k_X10_gauge (l : Launch) (G : qG) (x1 : Int32) (x2 : Int32) (x3 : Int32)  (u0 : qM) : qCt l G m_X10_gauge q_cI [.ref (q_ad G 0 0), .int x1, .int x2, .int x3] u0 (f_X10_gauge x1 x2 x3 u0) := by
  refine q_entry pk_X10_gauge (Nat.le_of_ble_eq_true rfl) ?_
  show qAW l G m_X10_gauge (q_mq G q_cI) 0 [(0, .ref (q_ad G 0 0)), (1, .int x1), (2, .int x2), (3, .int x3)] [] u0 (f_X10_gauge x1 x2 x3 u0)
  unfold f_X10_gauge
  refine aw_aload_n (i := 0) dX10_gauge_0 1 rfl rfl 0 rfl ?_
  refine aw_iload_n (i := 1) dX10_gauge_1 2 rfl rfl 1 rfl ?_
  refine aw_callS (M2 := m_X10_isGauge) (cv := q_cI) dX10_gauge_2 5 rfl (k_X10_isGauge l G x1  u0) wd_177 wv_X10_isGauge pk_X10_isGauge rfl ⟨by decide, by decide⟩ ⟨Nat.zero_le _, Nat.zero_le _⟩ rfl (Nat.le_of_ble_eq_true rfl) (fun x4 u1 => ?_)
  show qAW l G m_X10_gauge (q_mq G q_cI) 5 [(0, .ref (q_ad G 0 0)), (1, .int x1), (2, .int x2), (3, .int x3)] [.int x4, .ref (q_ad G 0 0)] u1 _
  refine aw_iload_n (i := 2) dX10_gauge_5 6 rfl rfl 2 rfl ?_
  refine aw_iload_n (i := 3) dX10_gauge_6 7 rfl rfl 3 rfl ?_
  refine aw_callV (M2 := m_X10_cellRefused) (cv := q_cI) dX10_gauge_7 10 rfl (k_X10_cellRefused l G x4 x2 x3  u1) wd_156 wv_X10_cellRefused pk_X10_cellRefused rfl rfl ⟨by decide, by decide⟩ ⟨Nat.zero_le _, Nat.zero_le _⟩ at_0 (ok_0 (by decide)) rfl rfl rfl (Nat.le_of_ble_eq_true rfl) (fun x5 u2 => ?_)
  show qAW l G m_X10_gauge (q_mq G q_cI) 10 [(0, .ref (q_ad G 0 0)), (1, .int x1), (2, .int x2), (3, .int x3)] [.int x5] u2 _
  refine aw_istore dX10_gauge_10 12 rfl [(4, .int x5), (0, .ref (q_ad G 0 0)), (1, .int x1), (2, .int x2), (3, .int x3)] (by decide) rfl ?_
  refine aw_iload (i := 4) dX10_gauge_12 14 rfl 0 rfl ?_
  refine aw_if_eq dX10_gauge_14 17 rfl 20 rfl (fun h1 => ?_) (fun h1 => ?_)
  · refine aw_aload_n (i := 0) dX10_gauge_20 21 rfl rfl 1 rfl ?_
    refine gf_X10_9 dX10_gauge_21 24 rfl wd_148 (ok_0 (by decide)) ?_
    refine aw_iload_n (i := 1) dX10_gauge_24 25 rfl rfl 2 rfl ?_
    refine aw_aald dX10_gauge_25 26 rfl at_23 (by decide) (by decide) rfl rfl (al_23 _) (ok_23 (by decide)) rfl (fun h2 => ?_)
    refine gfN_X2_2 dX10_gauge_26 29 rfl "SeaCells" (ns_72) (ok_9 (q_in_lt h2)) ?_
    refine aw_bipush (x := (-9)) dX10_gauge_29 31 rfl rfl ?_
    refine aw_jn (fun k => ∀ (x6 : Int32) (u3 : qM), qAW l G m_X10_gauge (q_mq G q_cI) 39 [(0, .ref (q_ad G 0 0)), (1, .int x1), (2, .int x2), (3, .int x3)] [.int x6] u3 (k x6 u3)) ?_ ?_
    · intro x6 u3
      refine aw_istore dX10_gauge_39 41 rfl [(5, .int x6), (0, .ref (q_ad G 0 0)), (1, .int x1), (2, .int x2), (3, .int x3)] (by decide) rfl ?_
      refine aw_aload_n (i := 0) dX10_gauge_41 42 rfl rfl 1 rfl ?_
      refine gf_X10_9 dX10_gauge_42 45 rfl wd_148 (ok_0 (by decide)) ?_
      refine aw_iload_n (i := 1) dX10_gauge_45 46 rfl rfl 2 rfl ?_
      refine aw_aald dX10_gauge_46 47 rfl at_23 (by decide) (by decide) rfl rfl (al_23 _) (ok_23 (by decide)) rfl (fun h4 => ?_)
      refine aw_iload_n (i := 2) dX10_gauge_47 48 rfl rfl 3 rfl ?_
      refine aw_iload_n (i := 3) dX10_gauge_48 49 rfl rfl 4 rfl ?_
      refine aw_callV (M2 := m_X2_place) (cv := q_cU) dX10_gauge_49 52 rfl (k_X2_place l G (Int32.toNatClampNeg x1) x2 x3 (q_in_lt h4) u3) wd_178 wv_X2_place pk_X2_place rfl rfl ⟨by decide, by decide⟩ ⟨Nat.zero_le _, Nat.zero_le _⟩ at_9 (ok_9 (q_in_lt h4)) rfl rfl rfl (Nat.le_of_ble_eq_true rfl) (fun _z u4 => ?_)
      show qAW l G m_X10_gauge (q_mq G q_cI) 52 [(5, .int x6), (0, .ref (q_ad G 0 0)), (1, .int x1), (2, .int x2), (3, .int x3)] [] u4 _
      refine aw_iload (i := 5) dX10_gauge_52 54 rfl 0 rfl ?_
      exact aw_iret dX10_gauge_54 rfl
    · intro j1 hj1
      refine aw_icmp_ne dX10_gauge_31 34 rfl 38 rfl (fun h3 => ?_) (fun h3 => ?_)
      · refine aw_iconst (x := 1) dX10_gauge_38 39 rfl rfl ?_
        exact aw_conv [1, 2, 3, 4] rfl (hj1 1 u2)
      · refine aw_iconst (x := 0) dX10_gauge_34 35 rfl rfl ?_
        refine aw_goto dX10_gauge_35 39 rfl ?_
        exact aw_conv [1, 2, 3, 4] rfl (hj1 0 u2)
  · refine aw_iload (i := 4) dX10_gauge_17 19 rfl 0 rfl ?_
    exact aw_iret dX10_gauge_19 rfl
theorem dX10_reading_0 : decode cX10_reading 0 = .ok (.iload_n 1, 1) := by decide +kernel
theorem dX10_reading_1 : decode cX10_reading 1 = .ok (.invokestatic 327, 3) := by decide +kernel
theorem dX10_reading_4 : decode cX10_reading 4 = .ok (.ifCond .ne 5, 3) := by decide +kernel
theorem dX10_reading_7 : decode cX10_reading 7 = .ok (.iconst (-1), 1) := by decide +kernel
theorem dX10_reading_8 : decode cX10_reading 8 = .ok (.ireturn, 1) := by decide +kernel
theorem dX10_reading_9 : decode cX10_reading 9 = .ok (.aload_n 0, 1) := by decide +kernel
theorem dX10_reading_10 : decode cX10_reading 10 = .ok (.getfield 61, 3) := by decide +kernel
theorem dX10_reading_13 : decode cX10_reading 13 = .ok (.iload_n 1, 1) := by decide +kernel
theorem dX10_reading_14 : decode cX10_reading 14 = .ok (.aaload, 1) := by decide +kernel
theorem dX10_reading_15 : decode cX10_reading 15 = .ok (.iload_n 2, 1) := by decide +kernel
theorem dX10_reading_16 : decode cX10_reading 16 = .ok (.invokevirtual 333, 3) := by decide +kernel
theorem dX10_reading_19 : decode cX10_reading 19 = .ok (.istore_n 3, 1) := by decide +kernel
theorem dX10_reading_20 : decode cX10_reading 20 = .ok (.iload_n 3, 1) := by decide +kernel
theorem dX10_reading_21 : decode cX10_reading 21 = .ok (.ifCond .ge 6, 3) := by decide +kernel
theorem dX10_reading_24 : decode cX10_reading 24 = .ok (.bipush (-9), 2) := by decide +kernel
theorem dX10_reading_26 : decode cX10_reading 26 = .ok (.ireturn, 1) := by decide +kernel
theorem dX10_reading_27 : decode cX10_reading 27 = .ok (.aload_n 0, 1) := by decide +kernel
theorem dX10_reading_28 : decode cX10_reading 28 = .ok (.aload_n 0, 1) := by decide +kernel
theorem dX10_reading_29 : decode cX10_reading 29 = .ok (.getfield 61, 3) := by decide +kernel
theorem dX10_reading_32 : decode cX10_reading 32 = .ok (.iload_n 1, 1) := by decide +kernel
theorem dX10_reading_33 : decode cX10_reading 33 = .ok (.aaload, 1) := by decide +kernel
theorem dX10_reading_34 : decode cX10_reading 34 = .ok (.getfield 336, 3) := by decide +kernel
theorem dX10_reading_37 : decode cX10_reading 37 = .ok (.iload_n 3, 1) := by decide +kernel
theorem dX10_reading_38 : decode cX10_reading 38 = .ok (.iaload, 1) := by decide +kernel
theorem dX10_reading_39 : decode cX10_reading 39 = .ok (.putfield 116, 3) := by decide +kernel
theorem dX10_reading_42 : decode cX10_reading 42 = .ok (.iconst 1, 1) := by decide +kernel
theorem dX10_reading_43 : decode cX10_reading 43 = .ok (.ireturn, 1) := by decide +kernel
noncomputable def f_X10_reading (x1 : Int32) (x2 : Int32) (u0 : qM) : Option (Int32 × qM) :=
  q_bd (f_X10_isGauge x1 u0) (fun (x3 : Int32) (u1 : qM) => if x3 = 0 then some ((-1), u1) else q_ck (q_in x1 8) (q_bd (f_X2_placeOf (Int32.toNatClampNeg x1) x2 u1) (fun (x4 : Int32) (u2 : qM) => if (0 : Int32) ≤ x4 then q_ck (q_in x1 8) (q_ck (q_in x4 48) (q_lt (q_si u2 0 0 15 (u2.1 52 (Int32.toNatClampNeg x1) (Int32.toNatClampNeg x4))) (fun (u3 : qM) => some (1, u3)))) else some ((-9), u2))))
set_option maxRecDepth 100000 in
set_option maxHeartbeats 4000000 in
theorem k_X10_reading (l : Launch) (G : qG) (x1 : Int32) (x2 : Int32)  (u0 : qM) : qCt l G m_X10_reading q_cI [.ref (q_ad G 0 0), .int x1, .int x2] u0 (f_X10_reading x1 x2 u0) := by
  refine q_entry pk_X10_reading (Nat.le_of_ble_eq_true rfl) ?_
  show qAW l G m_X10_reading (q_mq G q_cI) 0 [(0, .ref (q_ad G 0 0)), (1, .int x1), (2, .int x2)] [] u0 (f_X10_reading x1 x2 u0)
  unfold f_X10_reading
  refine aw_iload_n (i := 1) dX10_reading_0 1 rfl rfl 1 rfl ?_
  refine aw_callS (M2 := m_X10_isGauge) (cv := q_cI) dX10_reading_1 4 rfl (k_X10_isGauge l G x1  u0) wd_177 wv_X10_isGauge pk_X10_isGauge rfl ⟨by decide, by decide⟩ ⟨Nat.zero_le _, Nat.zero_le _⟩ rfl (Nat.le_of_ble_eq_true rfl) (fun x3 u1 => ?_)
  show qAW l G m_X10_reading (q_mq G q_cI) 4 [(0, .ref (q_ad G 0 0)), (1, .int x1), (2, .int x2)] [.int x3] u1 _
  refine aw_if_ne dX10_reading_4 7 rfl 9 rfl (fun h1 => ?_) (fun h1 => ?_)
  · refine aw_aload_n (i := 0) dX10_reading_9 10 rfl rfl 0 rfl ?_
    refine gf_X10_9 dX10_reading_10 13 rfl wd_148 (ok_0 (by decide)) ?_
    refine aw_iload_n (i := 1) dX10_reading_13 14 rfl rfl 1 rfl ?_
    refine aw_aald dX10_reading_14 15 rfl at_23 (by decide) (by decide) rfl rfl (al_23 _) (ok_23 (by decide)) rfl (fun h2 => ?_)
    refine aw_iload_n (i := 2) dX10_reading_15 16 rfl rfl 2 rfl ?_
    refine aw_callV (M2 := m_X2_placeOf) (cv := q_cI) dX10_reading_16 19 rfl (k_X2_placeOf l G (Int32.toNatClampNeg x1) x2 (q_in_lt h2) u1) wd_179 wv_X2_placeOf pk_X2_placeOf rfl rfl ⟨by decide, by decide⟩ ⟨Nat.zero_le _, Nat.zero_le _⟩ at_9 (ok_9 (q_in_lt h2)) rfl rfl rfl (Nat.le_of_ble_eq_true rfl) (fun x4 u2 => ?_)
    show qAW l G m_X10_reading (q_mq G q_cI) 19 [(0, .ref (q_ad G 0 0)), (1, .int x1), (2, .int x2)] [.int x4] u2 _
    refine aw_istore_n dX10_reading_19 20 rfl rfl [(3, .int x4), (0, .ref (q_ad G 0 0)), (1, .int x1), (2, .int x2)] (by decide) rfl ?_
    refine aw_iload_n (i := 3) dX10_reading_20 21 rfl rfl 0 rfl ?_
    refine aw_if_ge dX10_reading_21 24 rfl 27 rfl (fun h3 => ?_) (fun h3 => ?_)
    · refine aw_aload_n (i := 0) dX10_reading_27 28 rfl rfl 1 rfl ?_
      refine aw_aload_n (i := 0) dX10_reading_28 29 rfl rfl 1 rfl ?_
      refine gf_X10_9 dX10_reading_29 32 rfl wd_148 (ok_0 (by decide)) ?_
      refine aw_iload_n (i := 1) dX10_reading_32 33 rfl rfl 2 rfl ?_
      refine aw_aald dX10_reading_33 34 rfl at_23 (by decide) (by decide) rfl rfl (al_23 _) (ok_23 (by decide)) rfl (fun h4 => ?_)
      refine gfN_X2_0 dX10_reading_34 37 rfl "SeaCells" (ns_69) (ok_9 (q_in_lt h4)) ?_
      refine aw_iload_n (i := 3) dX10_reading_37 38 rfl rfl 0 rfl ?_
      refine aw_iald dX10_reading_38 39 rfl at_52 (al_52 _) (ok_52 (q_in_lt h4)) (fun h5 => ?_)
      refine pf_X10_15 dX10_reading_39 42 rfl wd_134 (ok_0 (by decide)) ?_
      refine aw_ltm (fun u3 => ?_)
      refine aw_iconst (x := 1) dX10_reading_42 43 rfl rfl ?_
      exact aw_iret dX10_reading_43 rfl
    · refine aw_bipush (x := (-9)) dX10_reading_24 26 rfl rfl ?_
      exact aw_iret dX10_reading_26 rfl
  · refine aw_iconst (x := (-1)) dX10_reading_7 8 rfl rfl ?_
    exact aw_iret dX10_reading_8 rfl
theorem dX10_lose_0 : decode cX10_lose 0 = .ok (.iload_n 1, 1) := by decide +kernel
theorem dX10_lose_1 : decode cX10_lose 1 = .ok (.invokestatic 327, 3) := by decide +kernel
theorem dX10_lose_4 : decode cX10_lose 4 = .ok (.ifCond .ne 5, 3) := by decide +kernel
theorem dX10_lose_7 : decode cX10_lose 7 = .ok (.iconst (-1), 1) := by decide +kernel
theorem dX10_lose_8 : decode cX10_lose 8 = .ok (.ireturn, 1) := by decide +kernel
theorem dX10_lose_9 : decode cX10_lose 9 = .ok (.aload_n 0, 1) := by decide +kernel
theorem dX10_lose_10 : decode cX10_lose 10 = .ok (.getfield 61, 3) := by decide +kernel
theorem dX10_lose_13 : decode cX10_lose 13 = .ok (.iload_n 1, 1) := by decide +kernel
theorem dX10_lose_14 : decode cX10_lose 14 = .ok (.aaload, 1) := by decide +kernel
theorem dX10_lose_15 : decode cX10_lose 15 = .ok (.iload_n 2, 1) := by decide +kernel
theorem dX10_lose_16 : decode cX10_lose 16 = .ok (.invokevirtual 333, 3) := by decide +kernel
theorem dX10_lose_19 : decode cX10_lose 19 = .ok (.istore_n 3, 1) := by decide +kernel
theorem dX10_lose_20 : decode cX10_lose 20 = .ok (.iload_n 3, 1) := by decide +kernel
theorem dX10_lose_21 : decode cX10_lose 21 = .ok (.ifCond .ge 6, 3) := by decide +kernel
theorem dX10_lose_24 : decode cX10_lose 24 = .ok (.bipush (-4), 2) := by decide +kernel
theorem dX10_lose_26 : decode cX10_lose 26 = .ok (.ireturn, 1) := by decide +kernel
theorem dX10_lose_27 : decode cX10_lose 27 = .ok (.aload_n 0, 1) := by decide +kernel
theorem dX10_lose_28 : decode cX10_lose 28 = .ok (.getfield 61, 3) := by decide +kernel
theorem dX10_lose_31 : decode cX10_lose 31 = .ok (.iload_n 1, 1) := by decide +kernel
theorem dX10_lose_32 : decode cX10_lose 32 = .ok (.aaload, 1) := by decide +kernel
theorem dX10_lose_33 : decode cX10_lose 33 = .ok (.getfield 339, 3) := by decide +kernel
theorem dX10_lose_36 : decode cX10_lose 36 = .ok (.iload_n 3, 1) := by decide +kernel
theorem dX10_lose_37 : decode cX10_lose 37 = .ok (.iconst 1, 1) := by decide +kernel
theorem dX10_lose_38 : decode cX10_lose 38 = .ok (.bastore, 1) := by decide +kernel
theorem dX10_lose_39 : decode cX10_lose 39 = .ok (.iconst 1, 1) := by decide +kernel
theorem dX10_lose_40 : decode cX10_lose 40 = .ok (.ireturn, 1) := by decide +kernel
noncomputable def f_X10_lose (x1 : Int32) (x2 : Int32) (u0 : qM) : Option (Int32 × qM) :=
  q_bd (f_X10_isGauge x1 u0) (fun (x3 : Int32) (u1 : qM) => if x3 = 0 then some ((-1), u1) else q_ck (q_in x1 8) (q_bd (f_X2_placeOf (Int32.toNatClampNeg x1) x2 u1) (fun (x4 : Int32) (u2 : qM) => if (0 : Int32) ≤ x4 then q_ck (q_in x1 8) (q_ck (q_in x4 48) (q_lt (q_si u2 53 (Int32.toNatClampNeg x1) (Int32.toNatClampNeg x4) (vp_nar .boolean 1)) (fun (u3 : qM) => some (1, u3)))) else some ((-4), u2))))
set_option maxRecDepth 100000 in
set_option maxHeartbeats 4000000 in
theorem k_X10_lose (l : Launch) (G : qG) (x1 : Int32) (x2 : Int32)  (u0 : qM) : qCt l G m_X10_lose q_cI [.ref (q_ad G 0 0), .int x1, .int x2] u0 (f_X10_lose x1 x2 u0) := by
  refine q_entry pk_X10_lose (Nat.le_of_ble_eq_true rfl) ?_
  show qAW l G m_X10_lose (q_mq G q_cI) 0 [(0, .ref (q_ad G 0 0)), (1, .int x1), (2, .int x2)] [] u0 (f_X10_lose x1 x2 u0)
  unfold f_X10_lose
  refine aw_iload_n (i := 1) dX10_lose_0 1 rfl rfl 1 rfl ?_
  refine aw_callS (M2 := m_X10_isGauge) (cv := q_cI) dX10_lose_1 4 rfl (k_X10_isGauge l G x1  u0) wd_177 wv_X10_isGauge pk_X10_isGauge rfl ⟨by decide, by decide⟩ ⟨Nat.zero_le _, Nat.zero_le _⟩ rfl (Nat.le_of_ble_eq_true rfl) (fun x3 u1 => ?_)
  show qAW l G m_X10_lose (q_mq G q_cI) 4 [(0, .ref (q_ad G 0 0)), (1, .int x1), (2, .int x2)] [.int x3] u1 _
  refine aw_if_ne dX10_lose_4 7 rfl 9 rfl (fun h1 => ?_) (fun h1 => ?_)
  · refine aw_aload_n (i := 0) dX10_lose_9 10 rfl rfl 0 rfl ?_
    refine gf_X10_9 dX10_lose_10 13 rfl wd_148 (ok_0 (by decide)) ?_
    refine aw_iload_n (i := 1) dX10_lose_13 14 rfl rfl 1 rfl ?_
    refine aw_aald dX10_lose_14 15 rfl at_23 (by decide) (by decide) rfl rfl (al_23 _) (ok_23 (by decide)) rfl (fun h2 => ?_)
    refine aw_iload_n (i := 2) dX10_lose_15 16 rfl rfl 2 rfl ?_
    refine aw_callV (M2 := m_X2_placeOf) (cv := q_cI) dX10_lose_16 19 rfl (k_X2_placeOf l G (Int32.toNatClampNeg x1) x2 (q_in_lt h2) u1) wd_179 wv_X2_placeOf pk_X2_placeOf rfl rfl ⟨by decide, by decide⟩ ⟨Nat.zero_le _, Nat.zero_le _⟩ at_9 (ok_9 (q_in_lt h2)) rfl rfl rfl (Nat.le_of_ble_eq_true rfl) (fun x4 u2 => ?_)
    show qAW l G m_X10_lose (q_mq G q_cI) 19 [(0, .ref (q_ad G 0 0)), (1, .int x1), (2, .int x2)] [.int x4] u2 _
    refine aw_istore_n dX10_lose_19 20 rfl rfl [(3, .int x4), (0, .ref (q_ad G 0 0)), (1, .int x1), (2, .int x2)] (by decide) rfl ?_
    refine aw_iload_n (i := 3) dX10_lose_20 21 rfl rfl 0 rfl ?_
    refine aw_if_ge dX10_lose_21 24 rfl 27 rfl (fun h3 => ?_) (fun h3 => ?_)
    · refine aw_aload_n (i := 0) dX10_lose_27 28 rfl rfl 1 rfl ?_
      refine gf_X10_9 dX10_lose_28 31 rfl wd_148 (ok_0 (by decide)) ?_
      refine aw_iload_n (i := 1) dX10_lose_31 32 rfl rfl 2 rfl ?_
      refine aw_aald dX10_lose_32 33 rfl at_23 (by decide) (by decide) rfl rfl (al_23 _) (ok_23 (by decide)) rfl (fun h4 => ?_)
      refine gfN_X2_1 dX10_lose_33 36 rfl "SeaCells" (ns_71) (ok_9 (q_in_lt h4)) ?_
      refine aw_iload_n (i := 3) dX10_lose_36 37 rfl rfl 0 rfl ?_
      refine aw_iconst (x := 1) dX10_lose_37 38 rfl rfl ?_
      refine aw_zast dX10_lose_38 39 rfl at_53 (al_53 _) (ok_53 (q_in_lt h4)) (fun h5 => ?_)
      refine aw_ltm (fun u3 => ?_)
      refine aw_iconst (x := 1) dX10_lose_39 40 rfl rfl ?_
      exact aw_iret dX10_lose_40 rfl
    · refine aw_bipush (x := (-4)) dX10_lose_24 26 rfl rfl ?_
      exact aw_iret dX10_lose_26 rfl
  · refine aw_iconst (x := (-1)) dX10_lose_7 8 rfl rfl ?_
    exact aw_iret dX10_lose_8 rfl
theorem dX10_toneRefused_0 : decode cX10_toneRefused 0 = .ok (.iload_n 1, 1) := by decide +kernel
theorem dX10_toneRefused_1 : decode cX10_toneRefused 1 = .ok (.ifCond .eq 10, 3) := by decide +kernel
theorem dX10_toneRefused_4 : decode cX10_toneRefused 4 = .ok (.iload_n 2, 1) := by decide +kernel
theorem dX10_toneRefused_5 : decode cX10_toneRefused 5 = .ok (.invokestatic 327, 3) := by decide +kernel
theorem dX10_toneRefused_8 : decode cX10_toneRefused 8 = .ok (.ifCond .ne 5, 3) := by decide +kernel
theorem dX10_toneRefused_11 : decode cX10_toneRefused 11 = .ok (.iconst (-1), 1) := by decide +kernel
theorem dX10_toneRefused_12 : decode cX10_toneRefused 12 = .ok (.ireturn, 1) := by decide +kernel
theorem dX10_toneRefused_13 : decode cX10_toneRefused 13 = .ok (.aload_n 0, 1) := by decide +kernel
theorem dX10_toneRefused_14 : decode cX10_toneRefused 14 = .ok (.getfield 61, 3) := by decide +kernel
theorem dX10_toneRefused_17 : decode cX10_toneRefused 17 = .ok (.iload_n 2, 1) := by decide +kernel
theorem dX10_toneRefused_18 : decode cX10_toneRefused 18 = .ok (.aaload, 1) := by decide +kernel
theorem dX10_toneRefused_19 : decode cX10_toneRefused 19 = .ok (.getfield 293, 3) := by decide +kernel
theorem dX10_toneRefused_22 : decode cX10_toneRefused 22 = .ok (.bipush (-9), 2) := by decide +kernel
theorem dX10_toneRefused_24 : decode cX10_toneRefused 24 = .ok (.if_icmp .ne 6, 3) := by decide +kernel
theorem dX10_toneRefused_27 : decode cX10_toneRefused 27 = .ok (.bipush (-4), 2) := by decide +kernel
theorem dX10_toneRefused_29 : decode cX10_toneRefused 29 = .ok (.ireturn, 1) := by decide +kernel
theorem dX10_toneRefused_30 : decode cX10_toneRefused 30 = .ok (.aload_n 0, 1) := by decide +kernel
theorem dX10_toneRefused_31 : decode cX10_toneRefused 31 = .ok (.getfield 61, 3) := by decide +kernel
theorem dX10_toneRefused_34 : decode cX10_toneRefused 34 = .ok (.iload_n 2, 1) := by decide +kernel
theorem dX10_toneRefused_35 : decode cX10_toneRefused 35 = .ok (.aaload, 1) := by decide +kernel
theorem dX10_toneRefused_36 : decode cX10_toneRefused 36 = .ok (.invokevirtual 389, 3) := by decide +kernel
theorem dX10_toneRefused_39 : decode cX10_toneRefused 39 = .ok (.ifCond .ne 11, 3) := by decide +kernel
theorem dX10_toneRefused_42 : decode cX10_toneRefused 42 = .ok (.aload_n 0, 1) := by decide +kernel
theorem dX10_toneRefused_43 : decode cX10_toneRefused 43 = .ok (.iconst 4, 1) := by decide +kernel
theorem dX10_toneRefused_44 : decode cX10_toneRefused 44 = .ok (.invokevirtual 91, 3) := by decide +kernel
theorem dX10_toneRefused_47 : decode cX10_toneRefused 47 = .ok (.goto 4, 3) := by decide +kernel
theorem dX10_toneRefused_50 : decode cX10_toneRefused 50 = .ok (.iconst 0, 1) := by decide +kernel
theorem dX10_toneRefused_51 : decode cX10_toneRefused 51 = .ok (.ireturn, 1) := by decide +kernel
noncomputable def f_X10_toneRefused (x1 : Int32) (x2 : Int32) (u0 : qM) : Option (Int32 × qM) :=
  q_jn (fun  (u1 : qM) => some ((-1), u1)) (fun j1 => if x1 = 0 then j1 u0 else q_bd (f_X10_isGauge x2 u0) (fun (x3 : Int32) (u2 : qM) => if x3 = 0 then j1 u2 else q_ck (q_in x2 8) (if (u2.1 9 (Int32.toNatClampNeg x2) 2) = (-9) then some ((-4), u2) else q_ck (q_in x2 8) (q_bd (f_X2_kept (Int32.toNatClampNeg x2) u2) (fun (x4 : Int32) (u3 : qM) => q_jn (fun (x5 : Int32) (u4 : qM) => some (x5, u4)) (fun j2 => if x4 = 0 then q_bd (f_X10_found 4 u3) (fun (x6 : Int32) (u5 : qM) => j2 x6 u5) else j2 0 u3))))))
set_option maxRecDepth 100000 in
set_option maxHeartbeats 4000000 in
theorem k_X10_toneRefused (l : Launch) (G : qG) (x1 : Int32) (x2 : Int32)  (u0 : qM) : qCt l G m_X10_toneRefused q_cI [.ref (q_ad G 0 0), .int x1, .int x2] u0 (f_X10_toneRefused x1 x2 u0) := by
  refine q_entry pk_X10_toneRefused (Nat.le_of_ble_eq_true rfl) ?_
  show qAW l G m_X10_toneRefused (q_mq G q_cI) 0 [(0, .ref (q_ad G 0 0)), (1, .int x1), (2, .int x2)] [] u0 (f_X10_toneRefused x1 x2 u0)
  unfold f_X10_toneRefused
  refine aw_iload_n (i := 1) dX10_toneRefused_0 1 rfl rfl 1 rfl ?_
  refine aw_jn (fun k => ∀  (u1 : qM), qAW l G m_X10_toneRefused (q_mq G q_cI) 11 [] [] u1 (k u1)) ?_ ?_
  · intro u1
    refine aw_iconst (x := (-1)) dX10_toneRefused_11 12 rfl rfl ?_
    exact aw_iret dX10_toneRefused_12 rfl
  · intro j1 hj1
    refine aw_if_eq dX10_toneRefused_1 4 rfl 11 rfl (fun h1 => ?_) (fun h1 => ?_)
    · exact aw_conv [] rfl (hj1 u0)
    · refine aw_iload_n (i := 2) dX10_toneRefused_4 5 rfl rfl 2 rfl ?_
      refine aw_callS (M2 := m_X10_isGauge) (cv := q_cI) dX10_toneRefused_5 8 rfl (k_X10_isGauge l G x2  u0) wd_177 wv_X10_isGauge pk_X10_isGauge rfl ⟨by decide, by decide⟩ ⟨Nat.zero_le _, Nat.zero_le _⟩ rfl (Nat.le_of_ble_eq_true rfl) (fun x3 u2 => ?_)
      show qAW l G m_X10_toneRefused (q_mq G q_cI) 8 [(0, .ref (q_ad G 0 0)), (1, .int x1), (2, .int x2)] [.int x3] u2 _
      refine aw_if_ne dX10_toneRefused_8 11 rfl 13 rfl (fun h2 => ?_) (fun h2 => ?_)
      · refine aw_aload_n (i := 0) dX10_toneRefused_13 14 rfl rfl 0 rfl ?_
        refine gf_X10_9 dX10_toneRefused_14 17 rfl wd_148 (ok_0 (by decide)) ?_
        refine aw_iload_n (i := 2) dX10_toneRefused_17 18 rfl rfl 2 rfl ?_
        refine aw_aald dX10_toneRefused_18 19 rfl at_23 (by decide) (by decide) rfl rfl (al_23 _) (ok_23 (by decide)) rfl (fun h3 => ?_)
        refine gfN_X2_2 dX10_toneRefused_19 22 rfl "SeaCells" (ns_72) (ok_9 (q_in_lt h3)) ?_
        refine aw_bipush (x := (-9)) dX10_toneRefused_22 24 rfl rfl ?_
        refine aw_icmp_ne dX10_toneRefused_24 27 rfl 30 rfl (fun h4 => ?_) (fun h4 => ?_)
        · refine aw_aload_n (i := 0) dX10_toneRefused_30 31 rfl rfl 0 rfl ?_
          refine gf_X10_9 dX10_toneRefused_31 34 rfl wd_148 (ok_0 (by decide)) ?_
          refine aw_iload_n (i := 2) dX10_toneRefused_34 35 rfl rfl 2 rfl ?_
          refine aw_aald dX10_toneRefused_35 36 rfl at_23 (by decide) (by decide) rfl rfl (al_23 _) (ok_23 (by decide)) rfl (fun h5 => ?_)
          refine aw_callV (M2 := m_X2_kept) (cv := q_cI) dX10_toneRefused_36 39 rfl (k_X2_kept l G (Int32.toNatClampNeg x2) (q_in_lt h5) u2) wd_180 wv_X2_kept pk_X2_kept rfl rfl ⟨by decide, by decide⟩ ⟨Nat.zero_le _, Nat.zero_le _⟩ at_9 (ok_9 (q_in_lt h5)) rfl rfl rfl (Nat.le_of_ble_eq_true rfl) (fun x4 u3 => ?_)
          show qAW l G m_X10_toneRefused (q_mq G q_cI) 39 [(0, .ref (q_ad G 0 0)), (1, .int x1), (2, .int x2)] [.int x4] u3 _
          refine aw_jn (fun k => ∀ (x5 : Int32) (u4 : qM), qAW l G m_X10_toneRefused (q_mq G q_cI) 51 [] [.int x5] u4 (k x5 u4)) ?_ ?_
          · intro x5 u4
            exact aw_iret dX10_toneRefused_51 rfl
          · intro j2 hj2
            refine aw_if_ne dX10_toneRefused_39 42 rfl 50 rfl (fun h6 => ?_) (fun h6 => ?_)
            · refine aw_iconst (x := 0) dX10_toneRefused_50 51 rfl rfl ?_
              exact aw_conv [] rfl (hj2 0 u3)
            · refine aw_aload_n (i := 0) dX10_toneRefused_42 43 rfl rfl 0 rfl ?_
              refine aw_iconst (x := 4) dX10_toneRefused_43 44 rfl rfl ?_
              refine aw_callV (M2 := m_X10_found) (cv := q_cI) dX10_toneRefused_44 47 rfl (k_X10_found l G 4  u3) wd_128 wv_X10_found pk_X10_found rfl rfl ⟨by decide, by decide⟩ ⟨Nat.zero_le _, Nat.zero_le _⟩ at_0 (ok_0 (by decide)) rfl rfl rfl (Nat.le_of_ble_eq_true rfl) (fun x6 u5 => ?_)
              show qAW l G m_X10_toneRefused (q_mq G q_cI) 47 [(0, .ref (q_ad G 0 0)), (1, .int x1), (2, .int x2)] [.int x6] u5 _
              refine aw_goto dX10_toneRefused_47 51 rfl ?_
              exact aw_conv [] rfl (hj2 x6 u5)
        · refine aw_bipush (x := (-4)) dX10_toneRefused_27 29 rfl rfl ?_
          exact aw_iret dX10_toneRefused_29 rfl
      · exact aw_conv [] rfl (hj1 u2)
theorem dX10_tone_0 : decode cX10_tone 0 = .ok (.aload_n 0, 1) := by decide +kernel
theorem dX10_tone_1 : decode cX10_tone 1 = .ok (.iload_n 2, 1) := by decide +kernel
theorem dX10_tone_2 : decode cX10_tone 2 = .ok (.iconst 4, 1) := by decide +kernel
theorem dX10_tone_3 : decode cX10_tone 3 = .ok (.bipush 48, 2) := by decide +kernel
theorem dX10_tone_5 : decode cX10_tone 5 = .ok (.invokestatic 101, 3) := by decide +kernel
theorem dX10_tone_8 : decode cX10_tone 8 = .ok (.ifCond .eq 13, 3) := by decide +kernel
theorem dX10_tone_11 : decode cX10_tone 11 = .ok (.iload_n 2, 1) := by decide +kernel
theorem dX10_tone_12 : decode cX10_tone 12 = .ok (.iconst 4, 1) := by decide +kernel
theorem dX10_tone_13 : decode cX10_tone 13 = .ok (.irem, 1) := by decide +kernel
theorem dX10_tone_14 : decode cX10_tone 14 = .ok (.ifCond .ne 7, 3) := by decide +kernel
theorem dX10_tone_17 : decode cX10_tone 17 = .ok (.iconst 1, 1) := by decide +kernel
theorem dX10_tone_18 : decode cX10_tone 18 = .ok (.goto 4, 3) := by decide +kernel
theorem dX10_tone_21 : decode cX10_tone 21 = .ok (.iconst 0, 1) := by decide +kernel
theorem dX10_tone_22 : decode cX10_tone 22 = .ok (.iload_n 1, 1) := by decide +kernel
theorem dX10_tone_23 : decode cX10_tone 23 = .ok (.invokevirtual 342, 3) := by decide +kernel
theorem dX10_tone_26 : decode cX10_tone 26 = .ok (.istore_n 3, 1) := by decide +kernel
theorem dX10_tone_27 : decode cX10_tone 27 = .ok (.iload_n 3, 1) := by decide +kernel
theorem dX10_tone_28 : decode cX10_tone 28 = .ok (.ifCond .eq 5, 3) := by decide +kernel
theorem dX10_tone_31 : decode cX10_tone 31 = .ok (.iload_n 3, 1) := by decide +kernel
theorem dX10_tone_32 : decode cX10_tone 32 = .ok (.ireturn, 1) := by decide +kernel
theorem dX10_tone_33 : decode cX10_tone 33 = .ok (.aload_n 0, 1) := by decide +kernel
theorem dX10_tone_34 : decode cX10_tone 34 = .ok (.getfield 68, 3) := by decide +kernel
theorem dX10_tone_37 : decode cX10_tone 37 = .ok (.aload_n 0, 1) := by decide +kernel
theorem dX10_tone_38 : decode cX10_tone 38 = .ok (.getfield 61, 3) := by decide +kernel
theorem dX10_tone_41 : decode cX10_tone 41 = .ok (.iload_n 1, 1) := by decide +kernel
theorem dX10_tone_42 : decode cX10_tone 42 = .ok (.aaload, 1) := by decide +kernel
theorem dX10_tone_43 : decode cX10_tone 43 = .ok (.iload_n 2, 1) := by decide +kernel
theorem dX10_tone_44 : decode cX10_tone 44 = .ok (.invokevirtual 345, 3) := by decide +kernel
theorem dX10_tone_47 : decode cX10_tone 47 = .ok (.iconst 1, 1) := by decide +kernel
theorem dX10_tone_48 : decode cX10_tone 48 = .ok (.ireturn, 1) := by decide +kernel
noncomputable def f_X10_tone (x1 : Int32) (x2 : Int32) (u0 : qM) : Option (Int32 × qM) :=
  q_bd (f_X10_within x2 4 48 u0) (fun (x3 : Int32) (u1 : qM) => q_jn (fun (x4 : Int32) (u2 : qM) => q_bd (f_X10_toneRefused x4 x1 u2) (fun (x5 : Int32) (u3 : qM) => if x5 = 0 then q_ck (q_in x1 8) (q_bd (f_X9_hear 0 (Int32.toNatClampNeg x1) x2 u3) (fun (_z : Unit) (u4 : qM) => some (1, u4))) else some (x5, u3))) (fun j1 => q_jn (fun  (u5 : qM) => j1 0 u5) (fun j2 => if x3 = 0 then j2 u1 else if (x2 - x2 / 4 * 4) = 0 then j1 1 u1 else j2 u1)))
set_option maxRecDepth 100000 in
set_option maxHeartbeats 4000000 in
theorem k_X10_tone (l : Launch) (G : qG) (x1 : Int32) (x2 : Int32)  (u0 : qM) : qCt l G m_X10_tone q_cI [.ref (q_ad G 0 0), .int x1, .int x2] u0 (f_X10_tone x1 x2 u0) := by
  refine q_entry pk_X10_tone (Nat.le_of_ble_eq_true rfl) ?_
  show qAW l G m_X10_tone (q_mq G q_cI) 0 [(0, .ref (q_ad G 0 0)), (1, .int x1), (2, .int x2)] [] u0 (f_X10_tone x1 x2 u0)
  unfold f_X10_tone
  refine aw_aload_n (i := 0) dX10_tone_0 1 rfl rfl 0 rfl ?_
  refine aw_iload_n (i := 2) dX10_tone_1 2 rfl rfl 2 rfl ?_
  refine aw_iconst (x := 4) dX10_tone_2 3 rfl rfl ?_
  refine aw_bipush (x := 48) dX10_tone_3 5 rfl rfl ?_
  refine aw_callS (M2 := m_X10_within) (cv := q_cI) dX10_tone_5 8 rfl (k_X10_within l G x2 4 48  u0) wd_131 wv_X10_within pk_X10_within rfl ⟨by decide, by decide⟩ ⟨Nat.zero_le _, Nat.zero_le _⟩ rfl (Nat.le_of_ble_eq_true rfl) (fun x3 u1 => ?_)
  show qAW l G m_X10_tone (q_mq G q_cI) 8 [(0, .ref (q_ad G 0 0)), (1, .int x1), (2, .int x2)] [.int x3, .ref (q_ad G 0 0)] u1 _
  refine aw_jn (fun k => ∀ (x4 : Int32) (u2 : qM), qAW l G m_X10_tone (q_mq G q_cI) 22 [(0, .ref (q_ad G 0 0)), (1, .int x1), (2, .int x2)] [.int x4, .ref (q_ad G 0 0)] u2 (k x4 u2)) ?_ ?_
  · intro x4 u2
    refine aw_iload_n (i := 1) dX10_tone_22 23 rfl rfl 1 rfl ?_
    refine aw_callV (M2 := m_X10_toneRefused) (cv := q_cI) dX10_tone_23 26 rfl (k_X10_toneRefused l G x4 x1  u2) wd_181 wv_X10_toneRefused pk_X10_toneRefused rfl rfl ⟨by decide, by decide⟩ ⟨Nat.zero_le _, Nat.zero_le _⟩ at_0 (ok_0 (by decide)) rfl rfl rfl (Nat.le_of_ble_eq_true rfl) (fun x5 u3 => ?_)
    show qAW l G m_X10_tone (q_mq G q_cI) 26 [(0, .ref (q_ad G 0 0)), (1, .int x1), (2, .int x2)] [.int x5] u3 _
    refine aw_istore_n dX10_tone_26 27 rfl rfl [(3, .int x5), (0, .ref (q_ad G 0 0)), (1, .int x1), (2, .int x2)] (by decide) rfl ?_
    refine aw_iload_n (i := 3) dX10_tone_27 28 rfl rfl 0 rfl ?_
    refine aw_if_eq dX10_tone_28 31 rfl 33 rfl (fun h2 => ?_) (fun h2 => ?_)
    · refine aw_aload_n (i := 0) dX10_tone_33 34 rfl rfl 1 rfl ?_
      refine gf_X10_10 dX10_tone_34 37 rfl wd_182 (ok_0 (by decide)) ?_
      refine aw_aload_n (i := 0) dX10_tone_37 38 rfl rfl 1 rfl ?_
      refine gf_X10_9 dX10_tone_38 41 rfl wd_148 (ok_0 (by decide)) ?_
      refine aw_iload_n (i := 1) dX10_tone_41 42 rfl rfl 2 rfl ?_
      refine aw_aald dX10_tone_42 43 rfl at_23 (by decide) (by decide) rfl rfl (al_23 _) (ok_23 (by decide)) rfl (fun h3 => ?_)
      refine aw_iload_n (i := 2) dX10_tone_43 44 rfl rfl 3 rfl ?_
      refine aw_callV (M2 := m_X9_hear) (cv := q_cU) dX10_tone_44 47 rfl (k_X9_hear l G 0 (Int32.toNatClampNeg x1) x2 (by decide) (q_in_lt h3) u3) wd_183 wv_X9_hear pk_X9_hear rfl rfl ⟨by decide, by decide⟩ ⟨Nat.zero_le _, Nat.zero_le _⟩ at_10 (ok_10 (by decide)) rfl rfl rfl (Nat.le_of_ble_eq_true rfl) (fun _z u4 => ?_)
      show qAW l G m_X10_tone (q_mq G q_cI) 47 [(3, .int x5), (0, .ref (q_ad G 0 0)), (1, .int x1), (2, .int x2)] [] u4 _
      refine aw_iconst (x := 1) dX10_tone_47 48 rfl rfl ?_
      exact aw_iret dX10_tone_48 rfl
    · refine aw_iload_n (i := 3) dX10_tone_31 32 rfl rfl 0 rfl ?_
      exact aw_iret dX10_tone_32 rfl
  · intro j1 hj1
    refine aw_jn (fun k => ∀  (u5 : qM), qAW l G m_X10_tone (q_mq G q_cI) 21 [(0, .ref (q_ad G 0 0)), (1, .int x1), (2, .int x2)] [.ref (q_ad G 0 0)] u5 (k u5)) ?_ ?_
    · intro u5
      refine aw_iconst (x := 0) dX10_tone_21 22 rfl rfl ?_
      exact hj1 0 u5
    · intro j2 hj2
      refine aw_if_eq dX10_tone_8 11 rfl 21 rfl (fun h1 => ?_) (fun h1 => ?_)
      · exact hj2 u1
      · refine aw_iload_n (i := 2) dX10_tone_11 12 rfl rfl 2 rfl ?_
        refine aw_iconst (x := 4) dX10_tone_12 13 rfl rfl ?_
        refine aw_irem dX10_tone_13 14 rfl (by decide) ?_
        refine aw_if_ne dX10_tone_14 17 rfl 21 rfl (fun h4 => ?_) (fun h4 => ?_)
        · exact hj2 u1
        · refine aw_iconst (x := 1) dX10_tone_17 18 rfl rfl ?_
          refine aw_goto dX10_tone_18 22 rfl ?_
          exact hj1 1 u1
theorem dX10_theTone_0 : decode cX10_theTone 0 = .ok (.aload_n 0, 1) := by decide +kernel
theorem dX10_theTone_1 : decode cX10_theTone 1 = .ok (.iconst 1, 1) := by decide +kernel
theorem dX10_theTone_2 : decode cX10_theTone 2 = .ok (.iload_n 1, 1) := by decide +kernel
theorem dX10_theTone_3 : decode cX10_theTone 3 = .ok (.invokevirtual 342, 3) := by decide +kernel
theorem dX10_theTone_6 : decode cX10_theTone 6 = .ok (.istore_n 2, 1) := by decide +kernel
theorem dX10_theTone_7 : decode cX10_theTone 7 = .ok (.iload_n 2, 1) := by decide +kernel
theorem dX10_theTone_8 : decode cX10_theTone 8 = .ok (.ifCond .eq 5, 3) := by decide +kernel
theorem dX10_theTone_11 : decode cX10_theTone 11 = .ok (.iload_n 2, 1) := by decide +kernel
theorem dX10_theTone_12 : decode cX10_theTone 12 = .ok (.ireturn, 1) := by decide +kernel
theorem dX10_theTone_13 : decode cX10_theTone 13 = .ok (.iconst 4, 1) := by decide +kernel
theorem dX10_theTone_14 : decode cX10_theTone 14 = .ok (.istore_n 3, 1) := by decide +kernel
theorem dX10_theTone_15 : decode cX10_theTone 15 = .ok (.ldc2_w 349, 3) := by decide +kernel
theorem dX10_theTone_18 : decode cX10_theTone 18 = .ok (.lstore 4, 2) := by decide +kernel
theorem dX10_theTone_20 : decode cX10_theTone 20 = .ok (.iconst 4, 1) := by decide +kernel
theorem dX10_theTone_21 : decode cX10_theTone 21 = .ok (.istore 6, 2) := by decide +kernel
theorem dX10_theTone_23 : decode cX10_theTone 23 = .ok (.iload 6, 2) := by decide +kernel
theorem dX10_theTone_25 : decode cX10_theTone 25 = .ok (.bipush 48, 2) := by decide +kernel
theorem dX10_theTone_27 : decode cX10_theTone 27 = .ok (.if_icmp .gt 49, 3) := by decide +kernel
theorem dX10_theTone_30 : decode cX10_theTone 30 = .ok (.aload_n 0, 1) := by decide +kernel
theorem dX10_theTone_31 : decode cX10_theTone 31 = .ok (.getfield 72, 3) := by decide +kernel
theorem dX10_theTone_34 : decode cX10_theTone 34 = .ok (.aload_n 0, 1) := by decide +kernel
theorem dX10_theTone_35 : decode cX10_theTone 35 = .ok (.getfield 61, 3) := by decide +kernel
theorem dX10_theTone_38 : decode cX10_theTone 38 = .ok (.iload_n 1, 1) := by decide +kernel
theorem dX10_theTone_39 : decode cX10_theTone 39 = .ok (.aaload, 1) := by decide +kernel
theorem dX10_theTone_40 : decode cX10_theTone 40 = .ok (.iload 6, 2) := by decide +kernel
theorem dX10_theTone_42 : decode cX10_theTone 42 = .ok (.invokevirtual 345, 3) := by decide +kernel
theorem dX10_theTone_45 : decode cX10_theTone 45 = .ok (.aload_n 0, 1) := by decide +kernel
theorem dX10_theTone_46 : decode cX10_theTone 46 = .ok (.getfield 72, 3) := by decide +kernel
theorem dX10_theTone_49 : decode cX10_theTone 49 = .ok (.invokevirtual 351, 3) := by decide +kernel
theorem dX10_theTone_52 : decode cX10_theTone 52 = .ok (.lload 4, 2) := by decide +kernel
theorem dX10_theTone_54 : decode cX10_theTone 54 = .ok (.lcmp, 1) := by decide +kernel
theorem dX10_theTone_55 : decode cX10_theTone 55 = .ok (.ifCond .le 15, 3) := by decide +kernel
theorem dX10_theTone_58 : decode cX10_theTone 58 = .ok (.aload_n 0, 1) := by decide +kernel
theorem dX10_theTone_59 : decode cX10_theTone 59 = .ok (.getfield 72, 3) := by decide +kernel
theorem dX10_theTone_62 : decode cX10_theTone 62 = .ok (.invokevirtual 351, 3) := by decide +kernel
theorem dX10_theTone_65 : decode cX10_theTone 65 = .ok (.lstore 4, 2) := by decide +kernel
theorem dX10_theTone_67 : decode cX10_theTone 67 = .ok (.iload 6, 2) := by decide +kernel
theorem dX10_theTone_69 : decode cX10_theTone 69 = .ok (.istore_n 3, 1) := by decide +kernel
theorem dX10_theTone_70 : decode cX10_theTone 70 = .ok (.iinc 6 4, 3) := by decide +kernel
theorem dX10_theTone_73 : decode cX10_theTone 73 = .ok (.goto (-50), 3) := by decide +kernel
theorem dX10_theTone_76 : decode cX10_theTone 76 = .ok (.iload_n 3, 1) := by decide +kernel
theorem dX10_theTone_77 : decode cX10_theTone 77 = .ok (.ireturn, 1) := by decide +kernel
noncomputable def L_X10_theTone_23 (x1 : Int32) : Nat → Int32 → Int64 → Int32 → qM → (Int32 → qM → Option (Int32 × qM)) → Option (Int32 × qM)
  | 0, _, _, _, _, _ => none
  | n + 1, x3, w1, x4, u2, e1 => if 48 < x4 then e1 x3 u2 else q_ck (q_in x1 8) (q_bd (f_X9_hear 1 (Int32.toNatClampNeg x1) x4 u2) (fun (_z : Unit) (u3 : qM) => q_bd (f_X9_power 1 u3) (fun (w2 : Int64) (u4 : qM) => q_jn (fun (x5 : Int32) (w3 : Int64) (u5 : qM) => q_lt (x4 + 4) (fun (x6 : Int32) => L_X10_theTone_23 x1 n x5 w3 x6 u5 e1)) (fun j1 => if (lg_cmp w2 w1) ≤ 0 then j1 x3 w1 u4 else q_bd (f_X9_power 1 u4) (fun (w4 : Int64) (u6 : qM) => j1 x4 w4 u6)))))
noncomputable def f_X10_theTone (x1 : Int32) (u0 : qM) : Option (Int32 × qM) :=
  q_bd (f_X10_toneRefused 1 x1 u0) (fun (x2 : Int32) (u1 : qM) => if x2 = 0 then L_X10_theTone_23 x1 q_fu 4 (-1) 4 u1 (fun x7 u7 => some (x7, u7)) else some (x2, u1))
set_option maxRecDepth 100000 in
set_option maxHeartbeats 4000000 in
theorem TL_X10_theTone_23 (l : Launch) (G : qG) (x1 : Int32)  (e1 : Int32 → qM → Option (Int32 × qM)) (he1 : ∀ (y1 : Int32) (v : qM), qAW l G m_X10_theTone (q_mq G q_cI) 76 [(3, .int y1)] [] v (e1 y1 v)) : ∀ (n : Nat) (x3 : Int32) (w1 : Int64) (x4 : Int32) (u2 : qM), qAW l G m_X10_theTone (q_mq G q_cI) 23 [(0, .ref (q_ad G 0 0)), (1, .int x1), (3, .int x3), (4, .long w1), (6, .int x4)] [] u2 (L_X10_theTone_23 x1 n x3 w1 x4 u2 e1) := by
  intro n
  induction n with
  | zero => intros; exact aw_none
  | succ n ih =>
    intro x3 w1 x4 u2
    unfold L_X10_theTone_23
    refine aw_iload (i := 6) dX10_theTone_23 25 rfl 4 rfl ?_
    refine aw_bipush (x := 48) dX10_theTone_25 27 rfl rfl ?_
    refine aw_icmp_gt dX10_theTone_27 30 rfl 76 rfl (fun h2 => ?_) (fun h2 => ?_)
    · exact aw_conv [2] rfl (he1 x3 u2)
    · refine aw_aload_n (i := 0) dX10_theTone_30 31 rfl rfl 0 rfl ?_
      refine gf_X10_11 dX10_theTone_31 34 rfl wd_185 (ok_0 (by decide)) ?_
      refine aw_aload_n (i := 0) dX10_theTone_34 35 rfl rfl 0 rfl ?_
      refine gf_X10_9 dX10_theTone_35 38 rfl wd_148 (ok_0 (by decide)) ?_
      refine aw_iload_n (i := 1) dX10_theTone_38 39 rfl rfl 1 rfl ?_
      refine aw_aald dX10_theTone_39 40 rfl at_23 (by decide) (by decide) rfl rfl (al_23 _) (ok_23 (by decide)) rfl (fun h3 => ?_)
      refine aw_iload (i := 6) dX10_theTone_40 42 rfl 4 rfl ?_
      refine aw_callV (M2 := m_X9_hear) (cv := q_cU) dX10_theTone_42 45 rfl (k_X9_hear l G 1 (Int32.toNatClampNeg x1) x4 (by decide) (q_in_lt h3) u2) wd_183 wv_X9_hear pk_X9_hear rfl rfl ⟨by decide, by decide⟩ ⟨Nat.zero_le _, Nat.zero_le _⟩ at_10 (ok_10 (by decide)) rfl rfl rfl (Nat.le_of_ble_eq_true rfl) (fun _z u3 => ?_)
      show qAW l G m_X10_theTone (q_mq G q_cI) 45 [(0, .ref (q_ad G 0 0)), (1, .int x1), (3, .int x3), (4, .long w1), (6, .int x4)] [] u3 _
      refine aw_aload_n (i := 0) dX10_theTone_45 46 rfl rfl 0 rfl ?_
      refine gf_X10_11 dX10_theTone_46 49 rfl wd_185 (ok_0 (by decide)) ?_
      refine aw_callV (M2 := m_X9_power) (cv := q_cL) dX10_theTone_49 52 rfl (k_X9_power l G 1 (by decide) u3) wd_186 wv_X9_power pk_X9_power rfl rfl ⟨by decide, by decide⟩ ⟨Nat.zero_le _, Nat.zero_le _⟩ at_10 (ok_10 (by decide)) rfl rfl rfl (Nat.le_of_ble_eq_true rfl) (fun w2 u4 => ?_)
      show qAW l G m_X10_theTone (q_mq G q_cI) 52 [(0, .ref (q_ad G 0 0)), (1, .int x1), (3, .int x3), (4, .long w1), (6, .int x4)] [.long w2] u4 _
      refine aw_lload (i := 4) dX10_theTone_52 54 rfl 3 rfl ?_
      refine aw_lcmp dX10_theTone_54 55 rfl ?_
      refine aw_jn (fun k => ∀ (x5 : Int32) (w3 : Int64) (u5 : qM), qAW l G m_X10_theTone (q_mq G q_cI) 70 [(0, .ref (q_ad G 0 0)), (1, .int x1), (3, .int x5), (4, .long w3), (6, .int x4)] [] u5 (k x5 w3 u5)) ?_ ?_
      · intro x5 w3 u5
        refine aw_iincx (i := 6) dX10_theTone_70 73 rfl 4 rfl 4 rfl (fun x6 => [(6, .int x6), (0, .ref (q_ad G 0 0)), (1, .int x1), (3, .int x5), (4, .long w3)]) (by decide) (fun _ => rfl) (fun x6 => ?_)
        refine aw_goto dX10_theTone_73 23 rfl ?_
        exact aw_conv [1, 2, 3, 4, 0] rfl (ih x5 w3 x6 u5)
      · intro j1 hj1
        refine aw_if_le dX10_theTone_55 58 rfl 70 rfl (fun h4 => ?_) (fun h4 => ?_)
        · exact hj1 x3 w1 u4
        · refine aw_aload_n (i := 0) dX10_theTone_58 59 rfl rfl 0 rfl ?_
          refine gf_X10_11 dX10_theTone_59 62 rfl wd_185 (ok_0 (by decide)) ?_
          refine aw_callV (M2 := m_X9_power) (cv := q_cL) dX10_theTone_62 65 rfl (k_X9_power l G 1 (by decide) u4) wd_186 wv_X9_power pk_X9_power rfl rfl ⟨by decide, by decide⟩ ⟨Nat.zero_le _, Nat.zero_le _⟩ at_10 (ok_10 (by decide)) rfl rfl rfl (Nat.le_of_ble_eq_true rfl) (fun w4 u6 => ?_)
          show qAW l G m_X10_theTone (q_mq G q_cI) 65 [(0, .ref (q_ad G 0 0)), (1, .int x1), (3, .int x3), (4, .long w1), (6, .int x4)] [.long w4] u6 _
          refine aw_lstore dX10_theTone_65 67 rfl [(4, .long w4), (0, .ref (q_ad G 0 0)), (1, .int x1), (3, .int x3), (6, .int x4)] (by decide) rfl ?_
          refine aw_iload (i := 6) dX10_theTone_67 69 rfl 4 rfl ?_
          refine aw_istore_n dX10_theTone_69 70 rfl rfl [(3, .int x4), (4, .long w4), (0, .ref (q_ad G 0 0)), (1, .int x1), (6, .int x4)] (by decide) rfl ?_
          exact aw_conv [2, 3, 0, 1, 4] rfl (hj1 x4 w4 u6)
set_option maxRecDepth 100000 in
set_option maxHeartbeats 4000000 in
theorem k_X10_theTone (l : Launch) (G : qG) (x1 : Int32)  (u0 : qM) : qCt l G m_X10_theTone q_cI [.ref (q_ad G 0 0), .int x1] u0 (f_X10_theTone x1 u0) := by
  refine q_entry pk_X10_theTone (Nat.le_of_ble_eq_true rfl) ?_
  show qAW l G m_X10_theTone (q_mq G q_cI) 0 [(0, .ref (q_ad G 0 0)), (1, .int x1)] [] u0 (f_X10_theTone x1 u0)
  unfold f_X10_theTone
  refine aw_aload_n (i := 0) dX10_theTone_0 1 rfl rfl 0 rfl ?_
  refine aw_iconst (x := 1) dX10_theTone_1 2 rfl rfl ?_
  refine aw_iload_n (i := 1) dX10_theTone_2 3 rfl rfl 1 rfl ?_
  refine aw_callV (M2 := m_X10_toneRefused) (cv := q_cI) dX10_theTone_3 6 rfl (k_X10_toneRefused l G 1 x1  u0) wd_181 wv_X10_toneRefused pk_X10_toneRefused rfl rfl ⟨by decide, by decide⟩ ⟨Nat.zero_le _, Nat.zero_le _⟩ at_0 (ok_0 (by decide)) rfl rfl rfl (Nat.le_of_ble_eq_true rfl) (fun x2 u1 => ?_)
  show qAW l G m_X10_theTone (q_mq G q_cI) 6 [(0, .ref (q_ad G 0 0)), (1, .int x1)] [.int x2] u1 _
  refine aw_istore_n dX10_theTone_6 7 rfl rfl [(2, .int x2), (0, .ref (q_ad G 0 0)), (1, .int x1)] (by decide) rfl ?_
  refine aw_iload_n (i := 2) dX10_theTone_7 8 rfl rfl 0 rfl ?_
  refine aw_if_eq dX10_theTone_8 11 rfl 13 rfl (fun h1 => ?_) (fun h1 => ?_)
  · refine aw_iconst (x := 4) dX10_theTone_13 14 rfl rfl ?_
    refine aw_istore_n dX10_theTone_14 15 rfl rfl [(3, .int 4), (2, .int x2), (0, .ref (q_ad G 0 0)), (1, .int x1)] (by decide) rfl ?_
    refine aw_ldc2 (x := (-1)) dX10_theTone_15 18 rfl wd_184 ?_
    refine aw_lstore dX10_theTone_18 20 rfl [(4, .long (-1)), (3, .int 4), (2, .int x2), (0, .ref (q_ad G 0 0)), (1, .int x1)] (by decide) rfl ?_
    refine aw_iconst (x := 4) dX10_theTone_20 21 rfl rfl ?_
    refine aw_istore dX10_theTone_21 23 rfl [(6, .int 4), (4, .long (-1)), (3, .int 4), (2, .int x2), (0, .ref (q_ad G 0 0)), (1, .int x1)] (by decide) rfl ?_
    refine aw_conv [4, 5, 2, 1, 0] rfl (TL_X10_theTone_23 l G x1  _ ?_ _ 4 (-1) 4 u1)
    · intro x7 u7
      refine aw_iload_n (i := 3) dX10_theTone_76 77 rfl rfl 0 rfl ?_
      exact aw_iret dX10_theTone_77 rfl
  · refine aw_iload_n (i := 2) dX10_theTone_11 12 rfl rfl 0 rfl ?_
    exact aw_iret dX10_theTone_12 rfl
theorem dX10_part_0 : decode cX10_part 0 = .ok (.aload_n 0, 1) := by decide +kernel
theorem dX10_part_1 : decode cX10_part 1 = .ok (.getfield 68, 3) := by decide +kernel
theorem dX10_part_4 : decode cX10_part 4 = .ok (.getfield 355, 3) := by decide +kernel
theorem dX10_part_7 : decode cX10_part 7 = .ok (.ifCond .ne 6, 3) := by decide +kernel
theorem dX10_part_10 : decode cX10_part 10 = .ok (.bipush (-4), 2) := by decide +kernel
theorem dX10_part_12 : decode cX10_part 12 = .ok (.ireturn, 1) := by decide +kernel
theorem dX10_part_13 : decode cX10_part 13 = .ok (.aload_n 0, 1) := by decide +kernel
theorem dX10_part_14 : decode cX10_part 14 = .ok (.iload_n 1, 1) := by decide +kernel
theorem dX10_part_15 : decode cX10_part 15 = .ok (.ifCond .eq 13, 3) := by decide +kernel
theorem dX10_part_18 : decode cX10_part 18 = .ok (.aload_n 0, 1) := by decide +kernel
theorem dX10_part_19 : decode cX10_part 19 = .ok (.getfield 68, 3) := by decide +kernel
theorem dX10_part_22 : decode cX10_part 22 = .ok (.getfield 358, 3) := by decide +kernel
theorem dX10_part_25 : decode cX10_part 25 = .ok (.goto 10, 3) := by decide +kernel
theorem dX10_part_28 : decode cX10_part 28 = .ok (.aload_n 0, 1) := by decide +kernel
theorem dX10_part_29 : decode cX10_part 29 = .ok (.getfield 68, 3) := by decide +kernel
theorem dX10_part_32 : decode cX10_part 32 = .ok (.getfield 361, 3) := by decide +kernel
theorem dX10_part_35 : decode cX10_part 35 = .ok (.l2i, 1) := by decide +kernel
theorem dX10_part_36 : decode cX10_part 36 = .ok (.putfield 116, 3) := by decide +kernel
theorem dX10_part_39 : decode cX10_part 39 = .ok (.iconst 1, 1) := by decide +kernel
theorem dX10_part_40 : decode cX10_part 40 = .ok (.ireturn, 1) := by decide +kernel
noncomputable def f_X10_part (x1 : Int32) (u0 : qM) : Option (Int32 × qM) :=
  if (u0.1 10 0 2) = 0 then some ((-4), u0) else q_jn (fun (w1 : Int64) (u1 : qM) => q_lt (q_si u1 0 0 15 (Int64.toInt32 w1)) (fun (u2 : qM) => some (1, u2))) (fun j1 => if x1 = 0 then j1 (u0.2.1 10 0 0) u0 else j1 (u0.2.1 10 0 1) u0)
set_option maxRecDepth 100000 in
set_option maxHeartbeats 4000000 in
theorem k_X10_part (l : Launch) (G : qG) (x1 : Int32)  (u0 : qM) : qCt l G m_X10_part q_cI [.ref (q_ad G 0 0), .int x1] u0 (f_X10_part x1 u0) := by
  refine q_entry pk_X10_part (Nat.le_of_ble_eq_true rfl) ?_
  show qAW l G m_X10_part (q_mq G q_cI) 0 [(0, .ref (q_ad G 0 0)), (1, .int x1)] [] u0 (f_X10_part x1 u0)
  unfold f_X10_part
  refine aw_aload_n (i := 0) dX10_part_0 1 rfl rfl 0 rfl ?_
  refine gf_X10_10 dX10_part_1 4 rfl wd_182 (ok_0 (by decide)) ?_
  refine gfN_X9_2 dX10_part_4 7 rfl "SeaCells" (ns_64) (ok_10 (by decide)) ?_
  refine aw_if_ne dX10_part_7 10 rfl 13 rfl (fun h1 => ?_) (fun h1 => ?_)
  · refine aw_aload_n (i := 0) dX10_part_13 14 rfl rfl 0 rfl ?_
    refine aw_iload_n (i := 1) dX10_part_14 15 rfl rfl 1 rfl ?_
    refine aw_jn (fun k => ∀ (w1 : Int64) (u1 : qM), qAW l G m_X10_part (q_mq G q_cI) 35 [] [.long w1, .ref (q_ad G 0 0)] u1 (k w1 u1)) ?_ ?_
    · intro w1 u1
      refine aw_l2i dX10_part_35 36 rfl ?_
      refine pf_X10_15 dX10_part_36 39 rfl wd_134 (ok_0 (by decide)) ?_
      refine aw_ltm (fun u2 => ?_)
      refine aw_iconst (x := 1) dX10_part_39 40 rfl rfl ?_
      exact aw_iret dX10_part_40 rfl
    · intro j1 hj1
      refine aw_if_eq dX10_part_15 18 rfl 28 rfl (fun h2 => ?_) (fun h2 => ?_)
      · refine aw_aload_n (i := 0) dX10_part_28 29 rfl rfl 0 rfl ?_
        refine gf_X10_10 dX10_part_29 32 rfl wd_182 (ok_0 (by decide)) ?_
        refine gfN_X9_0 dX10_part_32 35 rfl "SeaCells" (ns_62) (ok_10 (by decide)) ?_
        exact aw_conv [] rfl (hj1 (u0.2.1 10 0 0) u0)
      · refine aw_aload_n (i := 0) dX10_part_18 19 rfl rfl 0 rfl ?_
        refine gf_X10_10 dX10_part_19 22 rfl wd_182 (ok_0 (by decide)) ?_
        refine gfN_X9_1 dX10_part_22 25 rfl "SeaCells" (ns_63) (ok_10 (by decide)) ?_
        refine aw_goto dX10_part_25 35 rfl ?_
        exact aw_conv [] rfl (hj1 (u0.2.1 10 0 1) u0)
  · refine aw_bipush (x := (-4)) dX10_part_10 12 rfl rfl ?_
    exact aw_iret dX10_part_12 rfl
theorem dX10_nest_0 : decode cX10_nest 0 = .ok (.iload_n 1, 1) := by decide +kernel
theorem dX10_nest_1 : decode cX10_nest 1 = .ok (.invokestatic 157, 3) := by decide +kernel
theorem dX10_nest_4 : decode cX10_nest 4 = .ok (.ifCond .eq 21, 3) := by decide +kernel
theorem dX10_nest_7 : decode cX10_nest 7 = .ok (.iload_n 1, 1) := by decide +kernel
theorem dX10_nest_8 : decode cX10_nest 8 = .ok (.iload_n 2, 1) := by decide +kernel
theorem dX10_nest_9 : decode cX10_nest 9 = .ok (.if_icmp .eq 16, 3) := by decide +kernel
theorem dX10_nest_12 : decode cX10_nest 12 = .ok (.iload_n 3, 1) := by decide +kernel
theorem dX10_nest_13 : decode cX10_nest 13 = .ok (.ifCond .lt 12, 3) := by decide +kernel
theorem dX10_nest_16 : decode cX10_nest 16 = .ok (.iload 4, 2) := by decide +kernel
theorem dX10_nest_18 : decode cX10_nest 18 = .ok (.ifCond .lt 7, 3) := by decide +kernel
theorem dX10_nest_21 : decode cX10_nest 21 = .ok (.iconst 1, 1) := by decide +kernel
theorem dX10_nest_22 : decode cX10_nest 22 = .ok (.goto 4, 3) := by decide +kernel
theorem dX10_nest_25 : decode cX10_nest 25 = .ok (.iconst 0, 1) := by decide +kernel
theorem dX10_nest_26 : decode cX10_nest 26 = .ok (.istore 7, 2) := by decide +kernel
theorem dX10_nest_28 : decode cX10_nest 28 = .ok (.aload_n 0, 1) := by decide +kernel
theorem dX10_nest_29 : decode cX10_nest 29 = .ok (.iload 7, 2) := by decide +kernel
theorem dX10_nest_31 : decode cX10_nest 31 = .ok (.ifCond .eq 27, 3) := by decide +kernel
theorem dX10_nest_34 : decode cX10_nest 34 = .ok (.iload 5, 2) := by decide +kernel
theorem dX10_nest_36 : decode cX10_nest 36 = .ok (.iconst 1, 1) := by decide +kernel
theorem dX10_nest_37 : decode cX10_nest 37 = .ok (.iconst 4, 1) := by decide +kernel
theorem dX10_nest_38 : decode cX10_nest 38 = .ok (.invokestatic 101, 3) := by decide +kernel
theorem dX10_nest_41 : decode cX10_nest 41 = .ok (.ifCond .eq 17, 3) := by decide +kernel
theorem dX10_nest_44 : decode cX10_nest 44 = .ok (.iload 6, 2) := by decide +kernel
theorem dX10_nest_46 : decode cX10_nest 46 = .ok (.iconst 1, 1) := by decide +kernel
theorem dX10_nest_47 : decode cX10_nest 47 = .ok (.iconst 3, 1) := by decide +kernel
theorem dX10_nest_48 : decode cX10_nest 48 = .ok (.invokestatic 101, 3) := by decide +kernel
theorem dX10_nest_51 : decode cX10_nest 51 = .ok (.ifCond .eq 7, 3) := by decide +kernel
theorem dX10_nest_54 : decode cX10_nest 54 = .ok (.iconst 1, 1) := by decide +kernel
theorem dX10_nest_55 : decode cX10_nest 55 = .ok (.goto 4, 3) := by decide +kernel
theorem dX10_nest_58 : decode cX10_nest 58 = .ok (.iconst 0, 1) := by decide +kernel
theorem dX10_nest_59 : decode cX10_nest 59 = .ok (.iload_n 2, 1) := by decide +kernel
theorem dX10_nest_60 : decode cX10_nest 60 = .ok (.invokevirtual 170, 3) := by decide +kernel
theorem dX10_nest_63 : decode cX10_nest 63 = .ok (.istore 8, 2) := by decide +kernel
theorem dX10_nest_65 : decode cX10_nest 65 = .ok (.iload 8, 2) := by decide +kernel
theorem dX10_nest_67 : decode cX10_nest 67 = .ok (.ifCond .eq 6, 3) := by decide +kernel
theorem dX10_nest_70 : decode cX10_nest 70 = .ok (.iload 8, 2) := by decide +kernel
theorem dX10_nest_72 : decode cX10_nest 72 = .ok (.ireturn, 1) := by decide +kernel
theorem dX10_nest_73 : decode cX10_nest 73 = .ok (.iload_n 3, 1) := by decide +kernel
theorem dX10_nest_74 : decode cX10_nest 74 = .ok (.aload_n 0, 1) := by decide +kernel
theorem dX10_nest_75 : decode cX10_nest 75 = .ok (.getfield 30, 3) := by decide +kernel
theorem dX10_nest_78 : decode cX10_nest 78 = .ok (.iload_n 2, 1) := by decide +kernel
theorem dX10_nest_79 : decode cX10_nest 79 = .ok (.aaload, 1) := by decide +kernel
theorem dX10_nest_80 : decode cX10_nest 80 = .ok (.getfield 364, 3) := by decide +kernel
theorem dX10_nest_83 : decode cX10_nest 83 = .ok (.iload 5, 2) := by decide +kernel
theorem dX10_nest_85 : decode cX10_nest 85 = .ok (.isub, 1) := by decide +kernel
theorem dX10_nest_86 : decode cX10_nest 86 = .ok (.if_icmp .gt 20, 3) := by decide +kernel
theorem dX10_nest_89 : decode cX10_nest 89 = .ok (.iload 4, 2) := by decide +kernel
theorem dX10_nest_91 : decode cX10_nest 91 = .ok (.aload_n 0, 1) := by decide +kernel
theorem dX10_nest_92 : decode cX10_nest 92 = .ok (.getfield 30, 3) := by decide +kernel
theorem dX10_nest_95 : decode cX10_nest 95 = .ok (.iload_n 2, 1) := by decide +kernel
theorem dX10_nest_96 : decode cX10_nest 96 = .ok (.aaload, 1) := by decide +kernel
theorem dX10_nest_97 : decode cX10_nest 97 = .ok (.getfield 367, 3) := by decide +kernel
theorem dX10_nest_100 : decode cX10_nest 100 = .ok (.iload 6, 2) := by decide +kernel
theorem dX10_nest_102 : decode cX10_nest 102 = .ok (.isub, 1) := by decide +kernel
theorem dX10_nest_103 : decode cX10_nest 103 = .ok (.if_icmp .le 5, 3) := by decide +kernel
theorem dX10_nest_106 : decode cX10_nest 106 = .ok (.iconst (-1), 1) := by decide +kernel
theorem dX10_nest_107 : decode cX10_nest 107 = .ok (.ireturn, 1) := by decide +kernel
theorem dX10_nest_108 : decode cX10_nest 108 = .ok (.aload_n 0, 1) := by decide +kernel
theorem dX10_nest_109 : decode cX10_nest 109 = .ok (.iload_n 2, 1) := by decide +kernel
theorem dX10_nest_110 : decode cX10_nest 110 = .ok (.iload_n 1, 1) := by decide +kernel
theorem dX10_nest_111 : decode cX10_nest 111 = .ok (.invokevirtual 269, 3) := by decide +kernel
theorem dX10_nest_114 : decode cX10_nest 114 = .ok (.ifCond .eq 6, 3) := by decide +kernel
theorem dX10_nest_117 : decode cX10_nest 117 = .ok (.bipush (-4), 2) := by decide +kernel
theorem dX10_nest_119 : decode cX10_nest 119 = .ok (.ireturn, 1) := by decide +kernel
theorem dX10_nest_120 : decode cX10_nest 120 = .ok (.aload_n 0, 1) := by decide +kernel
theorem dX10_nest_121 : decode cX10_nest 121 = .ok (.iload_n 1, 1) := by decide +kernel
theorem dX10_nest_122 : decode cX10_nest 122 = .ok (.invokevirtual 160, 3) := by decide +kernel
theorem dX10_nest_125 : decode cX10_nest 125 = .ok (.aload_n 0, 1) := by decide +kernel
theorem dX10_nest_126 : decode cX10_nest 126 = .ok (.getfield 30, 3) := by decide +kernel
theorem dX10_nest_129 : decode cX10_nest 129 = .ok (.iload_n 1, 1) := by decide +kernel
theorem dX10_nest_130 : decode cX10_nest 130 = .ok (.aaload, 1) := by decide +kernel
theorem dX10_nest_131 : decode cX10_nest 131 = .ok (.iconst 2, 1) := by decide +kernel
theorem dX10_nest_132 : decode cX10_nest 132 = .ok (.iconst 2, 1) := by decide +kernel
theorem dX10_nest_133 : decode cX10_nest 133 = .ok (.iload 5, 2) := by decide +kernel
theorem dX10_nest_135 : decode cX10_nest 135 = .ok (.imul, 1) := by decide +kernel
theorem dX10_nest_136 : decode cX10_nest 136 = .ok (.iconst 2, 1) := by decide +kernel
theorem dX10_nest_137 : decode cX10_nest 137 = .ok (.iload 6, 2) := by decide +kernel
theorem dX10_nest_139 : decode cX10_nest 139 = .ok (.imul, 1) := by decide +kernel
theorem dX10_nest_140 : decode cX10_nest 140 = .ok (.invokevirtual 163, 3) := by decide +kernel
theorem dX10_nest_143 : decode cX10_nest 143 = .ok (.aload_n 0, 1) := by decide +kernel
theorem dX10_nest_144 : decode cX10_nest 144 = .ok (.getfield 30, 3) := by decide +kernel
theorem dX10_nest_147 : decode cX10_nest 147 = .ok (.iload_n 1, 1) := by decide +kernel
theorem dX10_nest_148 : decode cX10_nest 148 = .ok (.aaload, 1) := by decide +kernel
theorem dX10_nest_149 : decode cX10_nest 149 = .ok (.getfield 309, 3) := by decide +kernel
theorem dX10_nest_152 : decode cX10_nest 152 = .ok (.iload_n 2, 1) := by decide +kernel
theorem dX10_nest_153 : decode cX10_nest 153 = .ok (.putfield 313, 3) := by decide +kernel
theorem dX10_nest_156 : decode cX10_nest 156 = .ok (.aload_n 0, 1) := by decide +kernel
theorem dX10_nest_157 : decode cX10_nest 157 = .ok (.getfield 30, 3) := by decide +kernel
theorem dX10_nest_160 : decode cX10_nest 160 = .ok (.iload_n 1, 1) := by decide +kernel
theorem dX10_nest_161 : decode cX10_nest 161 = .ok (.aaload, 1) := by decide +kernel
theorem dX10_nest_162 : decode cX10_nest 162 = .ok (.getfield 309, 3) := by decide +kernel
theorem dX10_nest_165 : decode cX10_nest 165 = .ok (.iload_n 3, 1) := by decide +kernel
theorem dX10_nest_166 : decode cX10_nest 166 = .ok (.putfield 370, 3) := by decide +kernel
theorem dX10_nest_169 : decode cX10_nest 169 = .ok (.aload_n 0, 1) := by decide +kernel
theorem dX10_nest_170 : decode cX10_nest 170 = .ok (.getfield 30, 3) := by decide +kernel
theorem dX10_nest_173 : decode cX10_nest 173 = .ok (.iload_n 1, 1) := by decide +kernel
theorem dX10_nest_174 : decode cX10_nest 174 = .ok (.aaload, 1) := by decide +kernel
theorem dX10_nest_175 : decode cX10_nest 175 = .ok (.getfield 309, 3) := by decide +kernel
theorem dX10_nest_178 : decode cX10_nest 178 = .ok (.iload 4, 2) := by decide +kernel
theorem dX10_nest_180 : decode cX10_nest 180 = .ok (.putfield 373, 3) := by decide +kernel
theorem dX10_nest_183 : decode cX10_nest 183 = .ok (.aload_n 0, 1) := by decide +kernel
theorem dX10_nest_184 : decode cX10_nest 184 = .ok (.getfield 30, 3) := by decide +kernel
theorem dX10_nest_187 : decode cX10_nest 187 = .ok (.iload_n 1, 1) := by decide +kernel
theorem dX10_nest_188 : decode cX10_nest 188 = .ok (.aaload, 1) := by decide +kernel
theorem dX10_nest_189 : decode cX10_nest 189 = .ok (.aload_n 0, 1) := by decide +kernel
theorem dX10_nest_190 : decode cX10_nest 190 = .ok (.getfield 30, 3) := by decide +kernel
theorem dX10_nest_193 : decode cX10_nest 193 = .ok (.iload_n 2, 1) := by decide +kernel
theorem dX10_nest_194 : decode cX10_nest 194 = .ok (.aaload, 1) := by decide +kernel
theorem dX10_nest_195 : decode cX10_nest 195 = .ok (.invokevirtual 376, 3) := by decide +kernel
theorem dX10_nest_198 : decode cX10_nest 198 = .ok (.aload_n 0, 1) := by decide +kernel
theorem dX10_nest_199 : decode cX10_nest 199 = .ok (.getfield 30, 3) := by decide +kernel
theorem dX10_nest_202 : decode cX10_nest 202 = .ok (.iload_n 1, 1) := by decide +kernel
theorem dX10_nest_203 : decode cX10_nest 203 = .ok (.aaload, 1) := by decide +kernel
theorem dX10_nest_204 : decode cX10_nest 204 = .ok (.invokevirtual 166, 3) := by decide +kernel
theorem dX10_nest_207 : decode cX10_nest 207 = .ok (.ireturn, 1) := by decide +kernel
noncomputable def f_X10_nest (x1 : Int32) (x2 : Int32) (x3 : Int32) (x4 : Int32) (x5 : Int32) (x6 : Int32) (u0 : qM) : Option (Int32 × qM) :=
  q_bd (f_X10_isBoard x1 u0) (fun (x7 : Int32) (u1 : qM) => q_jn (fun (x8 : Int32) (u2 : qM) => q_jn (fun (x9 : Int32) (u3 : qM) => q_bd (f_X10_boardRefused x9 x2 u3) (fun (x10 : Int32) (u4 : qM) => if x10 = 0 then q_ck (q_in x2 6) (q_jn (fun  (u5 : qM) => some ((-1), u5)) (fun j3 => if ((u4.1 2 (Int32.toNatClampNeg x2) 12) - x5) < x3 then j3 u4 else q_ck (q_in x2 6) (if x4 ≤ ((u4.1 2 (Int32.toNatClampNeg x2) 13) - x6) then q_bd (f_X10_liesIn x2 x1 u4) (fun (x11 : Int32) (u6 : qM) => if x11 = 0 then q_bd (f_X10_clear x1 u6) (fun (_z : Unit) (u7 : qM) => q_ck (q_in x1 6) (q_bd (f_X0_reset (Int32.toNatClampNeg x1) 2 (2 * x5) (2 * x6) u7) (fun (_z : Unit) (u8 : qM) => q_ck (q_in x1 6) (q_lt (q_si u8 5 (Int32.toNatClampNeg x1) 2 x2) (fun (u9 : qM) => q_ck (q_in x1 6) (q_lt (q_si u9 5 (Int32.toNatClampNeg x1) 3 x3) (fun (u10 : qM) => q_ck (q_in x1 6) (q_lt (q_si u10 5 (Int32.toNatClampNeg x1) 4 x4) (fun (u11 : qM) => q_ck (q_in x1 6) (q_ck (q_in x2 6) (q_bd (f_X0_layOn (Int32.toNatClampNeg x1) (Int32.toNatClampNeg x2) u11) (fun (_z : Unit) (u12 : qM) => q_ck (q_in x1 6) (q_bd (f_X0_cells (Int32.toNatClampNeg x1) u12) (fun (x12 : Int32) (u13 : qM) => some (x12, u13))))))))))))))) else some ((-4), u6)) else j3 u4))) else some (x10, u4))) (fun j2 => q_jn (fun  (u14 : qM) => j2 0 u14) (fun j4 => if x8 = 0 then j4 u2 else q_bd (f_X10_within x5 1 4 u2) (fun (x13 : Int32) (u15 : qM) => if x13 = 0 then j4 u15 else q_bd (f_X10_within x6 1 3 u15) (fun (x14 : Int32) (u16 : qM) => if x14 = 0 then j4 u16 else j2 1 u16))))) (fun j1 => q_jn (fun  (u17 : qM) => j1 0 u17) (fun j5 => if x7 = 0 then j5 u1 else if x1 = x2 then j5 u1 else if x3 < 0 then j5 u1 else if x4 < 0 then j5 u1 else j1 1 u1)))
set_option maxRecDepth 100000 in
set_option maxHeartbeats 4000000 in
theorem k_X10_nest (l : Launch) (G : qG) (x1 : Int32) (x2 : Int32) (x3 : Int32) (x4 : Int32) (x5 : Int32) (x6 : Int32)  (u0 : qM) : qCt l G m_X10_nest q_cI [.ref (q_ad G 0 0), .int x1, .int x2, .int x3, .int x4, .int x5, .int x6] u0 (f_X10_nest x1 x2 x3 x4 x5 x6 u0) := by
  refine q_entry pk_X10_nest (Nat.le_of_ble_eq_true rfl) ?_
  show qAW l G m_X10_nest (q_mq G q_cI) 0 [(0, .ref (q_ad G 0 0)), (1, .int x1), (2, .int x2), (3, .int x3), (4, .int x4), (5, .int x5), (6, .int x6)] [] u0 (f_X10_nest x1 x2 x3 x4 x5 x6 u0)
  unfold f_X10_nest
  refine aw_iload_n (i := 1) dX10_nest_0 1 rfl rfl 1 rfl ?_
  refine aw_callS (M2 := m_X10_isBoard) (cv := q_cI) dX10_nest_1 4 rfl (k_X10_isBoard l G x1  u0) wd_146 wv_X10_isBoard pk_X10_isBoard rfl ⟨by decide, by decide⟩ ⟨Nat.zero_le _, Nat.zero_le _⟩ rfl (Nat.le_of_ble_eq_true rfl) (fun x7 u1 => ?_)
  show qAW l G m_X10_nest (q_mq G q_cI) 4 [(0, .ref (q_ad G 0 0)), (1, .int x1), (2, .int x2), (3, .int x3), (4, .int x4), (5, .int x5), (6, .int x6)] [.int x7] u1 _
  refine aw_jn (fun k => ∀ (x8 : Int32) (u2 : qM), qAW l G m_X10_nest (q_mq G q_cI) 26 [(0, .ref (q_ad G 0 0)), (1, .int x1), (2, .int x2), (3, .int x3), (4, .int x4), (5, .int x5), (6, .int x6)] [.int x8] u2 (k x8 u2)) ?_ ?_
  · intro x8 u2
    refine aw_istore dX10_nest_26 28 rfl [(7, .int x8), (0, .ref (q_ad G 0 0)), (1, .int x1), (2, .int x2), (3, .int x3), (4, .int x4), (5, .int x5), (6, .int x6)] (by decide) rfl ?_
    refine aw_aload_n (i := 0) dX10_nest_28 29 rfl rfl 1 rfl ?_
    refine aw_iload (i := 7) dX10_nest_29 31 rfl 0 rfl ?_
    refine aw_jn (fun k => ∀ (x9 : Int32) (u3 : qM), qAW l G m_X10_nest (q_mq G q_cI) 59 [(0, .ref (q_ad G 0 0)), (1, .int x1), (2, .int x2), (3, .int x3), (4, .int x4), (5, .int x5), (6, .int x6)] [.int x9, .ref (q_ad G 0 0)] u3 (k x9 u3)) ?_ ?_
    · intro x9 u3
      refine aw_iload_n (i := 2) dX10_nest_59 60 rfl rfl 2 rfl ?_
      refine aw_callV (M2 := m_X10_boardRefused) (cv := q_cI) dX10_nest_60 63 rfl (k_X10_boardRefused l G x9 x2  u3) wd_154 wv_X10_boardRefused pk_X10_boardRefused rfl rfl ⟨by decide, by decide⟩ ⟨Nat.zero_le _, Nat.zero_le _⟩ at_0 (ok_0 (by decide)) rfl rfl rfl (Nat.le_of_ble_eq_true rfl) (fun x10 u4 => ?_)
      show qAW l G m_X10_nest (q_mq G q_cI) 63 [(0, .ref (q_ad G 0 0)), (1, .int x1), (2, .int x2), (3, .int x3), (4, .int x4), (5, .int x5), (6, .int x6)] [.int x10] u4 _
      refine aw_istore dX10_nest_63 65 rfl [(8, .int x10), (0, .ref (q_ad G 0 0)), (1, .int x1), (2, .int x2), (3, .int x3), (4, .int x4), (5, .int x5), (6, .int x6)] (by decide) rfl ?_
      refine aw_iload (i := 8) dX10_nest_65 67 rfl 0 rfl ?_
      refine aw_if_eq dX10_nest_67 70 rfl 73 rfl (fun h3 => ?_) (fun h3 => ?_)
      · refine aw_iload_n (i := 3) dX10_nest_73 74 rfl rfl 4 rfl ?_
        refine aw_aload_n (i := 0) dX10_nest_74 75 rfl rfl 1 rfl ?_
        refine gf_X10_4 dX10_nest_75 78 rfl wd_145 (ok_0 (by decide)) ?_
        refine aw_iload_n (i := 2) dX10_nest_78 79 rfl rfl 3 rfl ?_
        refine aw_aald dX10_nest_79 80 rfl at_21 (by decide) (by decide) rfl rfl (al_21 _) (ok_21 (by decide)) rfl (fun h4 => ?_)
        refine gfN_X0_12 dX10_nest_80 83 rfl "SeaCells" (ns_51) (ok_2 (Nat.lt_of_lt_of_le (q_in_lt h4) (by decide))) ?_
        refine aw_iload (i := 5) dX10_nest_83 85 rfl 6 rfl ?_
        refine aw_isub dX10_nest_85 86 rfl ?_
        refine aw_jn (fun k => ∀  (u5 : qM), qAW l G m_X10_nest (q_mq G q_cI) 106 [] [] u5 (k u5)) ?_ ?_
        · intro u5
          refine aw_iconst (x := (-1)) dX10_nest_106 107 rfl rfl ?_
          exact aw_iret dX10_nest_107 rfl
        · intro j3 hj3
          refine aw_icmp_gt dX10_nest_86 89 rfl 106 rfl (fun h5 => ?_) (fun h5 => ?_)
          · exact aw_conv [] rfl (hj3 u4)
          · refine aw_iload (i := 4) dX10_nest_89 91 rfl 5 rfl ?_
            refine aw_aload_n (i := 0) dX10_nest_91 92 rfl rfl 1 rfl ?_
            refine gf_X10_4 dX10_nest_92 95 rfl wd_145 (ok_0 (by decide)) ?_
            refine aw_iload_n (i := 2) dX10_nest_95 96 rfl rfl 3 rfl ?_
            refine aw_aald dX10_nest_96 97 rfl at_21 (by decide) (by decide) rfl rfl (al_21 _) (ok_21 (by decide)) rfl (fun h6 => ?_)
            refine gfN_X0_13 dX10_nest_97 100 rfl "SeaCells" (ns_53) (ok_2 (Nat.lt_of_lt_of_le (q_in_lt h6) (by decide))) ?_
            refine aw_iload (i := 6) dX10_nest_100 102 rfl 7 rfl ?_
            refine aw_isub dX10_nest_102 103 rfl ?_
            refine aw_icmp_le dX10_nest_103 106 rfl 108 rfl (fun h7 => ?_) (fun h7 => ?_)
            · refine aw_aload_n (i := 0) dX10_nest_108 109 rfl rfl 1 rfl ?_
              refine aw_iload_n (i := 2) dX10_nest_109 110 rfl rfl 3 rfl ?_
              refine aw_iload_n (i := 1) dX10_nest_110 111 rfl rfl 2 rfl ?_
              refine aw_callV (M2 := m_X10_liesIn) (cv := q_cI) dX10_nest_111 114 rfl (k_X10_liesIn l G x2 x1  u4) wd_172 wv_X10_liesIn pk_X10_liesIn rfl rfl ⟨by decide, by decide⟩ ⟨Nat.zero_le _, Nat.zero_le _⟩ at_0 (ok_0 (by decide)) rfl rfl rfl (Nat.le_of_ble_eq_true rfl) (fun x11 u6 => ?_)
              show qAW l G m_X10_nest (q_mq G q_cI) 114 [(8, .int x10), (0, .ref (q_ad G 0 0)), (1, .int x1), (2, .int x2), (3, .int x3), (4, .int x4), (5, .int x5), (6, .int x6)] [.int x11] u6 _
              refine aw_if_eq dX10_nest_114 117 rfl 120 rfl (fun h8 => ?_) (fun h8 => ?_)
              · refine aw_aload_n (i := 0) dX10_nest_120 121 rfl rfl 1 rfl ?_
                refine aw_iload_n (i := 1) dX10_nest_121 122 rfl rfl 2 rfl ?_
                refine aw_callV (M2 := m_X10_clear) (cv := q_cU) dX10_nest_122 125 rfl (k_X10_clear l G x1  u6) wd_151 wv_X10_clear pk_X10_clear rfl rfl ⟨by decide, by decide⟩ ⟨Nat.zero_le _, Nat.zero_le _⟩ at_0 (ok_0 (by decide)) rfl rfl rfl (Nat.le_of_ble_eq_true rfl) (fun _z u7 => ?_)
                show qAW l G m_X10_nest (q_mq G q_cI) 125 [(8, .int x10), (0, .ref (q_ad G 0 0)), (1, .int x1), (2, .int x2), (3, .int x3), (4, .int x4), (5, .int x5), (6, .int x6)] [] u7 _
                refine aw_aload_n (i := 0) dX10_nest_125 126 rfl rfl 1 rfl ?_
                refine gf_X10_4 dX10_nest_126 129 rfl wd_145 (ok_0 (by decide)) ?_
                refine aw_iload_n (i := 1) dX10_nest_129 130 rfl rfl 2 rfl ?_
                refine aw_aald dX10_nest_130 131 rfl at_21 (by decide) (by decide) rfl rfl (al_21 _) (ok_21 (by decide)) rfl (fun h9 => ?_)
                refine aw_iconst (x := 2) dX10_nest_131 132 rfl rfl ?_
                refine aw_iconst (x := 2) dX10_nest_132 133 rfl rfl ?_
                refine aw_iload (i := 5) dX10_nest_133 135 rfl 6 rfl ?_
                refine aw_imul dX10_nest_135 136 rfl ?_
                refine aw_iconst (x := 2) dX10_nest_136 137 rfl rfl ?_
                refine aw_iload (i := 6) dX10_nest_137 139 rfl 7 rfl ?_
                refine aw_imul dX10_nest_139 140 rfl ?_
                refine aw_callV (M2 := m_X0_reset) (cv := q_cU) dX10_nest_140 143 rfl (k_X0_reset l G (Int32.toNatClampNeg x1) 2 (2 * x5) (2 * x6) (Nat.lt_of_lt_of_le (q_in_lt h9) (by decide)) u7) wd_152 wv_X0_reset pk_X0_reset rfl rfl ⟨by decide, by decide⟩ ⟨Nat.zero_le _, Nat.zero_le _⟩ at_2 (ok_2 (Nat.lt_of_lt_of_le (q_in_lt h9) (by decide))) rfl rfl rfl (Nat.le_of_ble_eq_true rfl) (fun _z u8 => ?_)
                show qAW l G m_X10_nest (q_mq G q_cI) 143 [(8, .int x10), (0, .ref (q_ad G 0 0)), (1, .int x1), (2, .int x2), (3, .int x3), (4, .int x4), (5, .int x5), (6, .int x6)] [] u8 _
                refine aw_aload_n (i := 0) dX10_nest_143 144 rfl rfl 1 rfl ?_
                refine gf_X10_4 dX10_nest_144 147 rfl wd_145 (ok_0 (by decide)) ?_
                refine aw_iload_n (i := 1) dX10_nest_147 148 rfl rfl 2 rfl ?_
                refine aw_aald dX10_nest_148 149 rfl at_21 (by decide) (by decide) rfl rfl (al_21 _) (ok_21 (by decide)) rfl (fun h10 => ?_)
                refine gfN_X0_7 dX10_nest_149 152 rfl "SeaCells" (ns_44) (ok_2 (Nat.lt_of_lt_of_le (q_in_lt h10) (by decide))) ?_
                refine aw_iload_n (i := 2) dX10_nest_152 153 rfl rfl 3 rfl ?_
                refine pfN_X4_2 dX10_nest_153 156 rfl "SeaCells" (ns_24) (ok_5 (Nat.lt_of_lt_of_le (q_in_lt h10) (by decide))) ?_
                refine aw_ltm (fun u9 => ?_)
                refine aw_aload_n (i := 0) dX10_nest_156 157 rfl rfl 1 rfl ?_
                refine gf_X10_4 dX10_nest_157 160 rfl wd_145 (ok_0 (by decide)) ?_
                refine aw_iload_n (i := 1) dX10_nest_160 161 rfl rfl 2 rfl ?_
                refine aw_aald dX10_nest_161 162 rfl at_21 (by decide) (by decide) rfl rfl (al_21 _) (ok_21 (by decide)) rfl (fun h11 => ?_)
                refine gfN_X0_7 dX10_nest_162 165 rfl "SeaCells" (ns_44) (ok_2 (Nat.lt_of_lt_of_le (q_in_lt h11) (by decide))) ?_
                refine aw_iload_n (i := 3) dX10_nest_165 166 rfl rfl 4 rfl ?_
                refine pfN_X4_3 dX10_nest_166 169 rfl "SeaCells" (ns_26) (ok_5 (Nat.lt_of_lt_of_le (q_in_lt h11) (by decide))) ?_
                refine aw_ltm (fun u10 => ?_)
                refine aw_aload_n (i := 0) dX10_nest_169 170 rfl rfl 1 rfl ?_
                refine gf_X10_4 dX10_nest_170 173 rfl wd_145 (ok_0 (by decide)) ?_
                refine aw_iload_n (i := 1) dX10_nest_173 174 rfl rfl 2 rfl ?_
                refine aw_aald dX10_nest_174 175 rfl at_21 (by decide) (by decide) rfl rfl (al_21 _) (ok_21 (by decide)) rfl (fun h12 => ?_)
                refine gfN_X0_7 dX10_nest_175 178 rfl "SeaCells" (ns_44) (ok_2 (Nat.lt_of_lt_of_le (q_in_lt h12) (by decide))) ?_
                refine aw_iload (i := 4) dX10_nest_178 180 rfl 5 rfl ?_
                refine pfN_X4_4 dX10_nest_180 183 rfl "SeaCells" (ns_28) (ok_5 (Nat.lt_of_lt_of_le (q_in_lt h12) (by decide))) ?_
                refine aw_ltm (fun u11 => ?_)
                refine aw_aload_n (i := 0) dX10_nest_183 184 rfl rfl 1 rfl ?_
                refine gf_X10_4 dX10_nest_184 187 rfl wd_145 (ok_0 (by decide)) ?_
                refine aw_iload_n (i := 1) dX10_nest_187 188 rfl rfl 2 rfl ?_
                refine aw_aald dX10_nest_188 189 rfl at_21 (by decide) (by decide) rfl rfl (al_21 _) (ok_21 (by decide)) rfl (fun h13 => ?_)
                refine aw_aload_n (i := 0) dX10_nest_189 190 rfl rfl 1 rfl ?_
                refine gf_X10_4 dX10_nest_190 193 rfl wd_145 (ok_0 (by decide)) ?_
                refine aw_iload_n (i := 2) dX10_nest_193 194 rfl rfl 3 rfl ?_
                refine aw_aald dX10_nest_194 195 rfl at_21 (by decide) (by decide) rfl rfl (al_21 _) (ok_21 (by decide)) rfl (fun h14 => ?_)
                refine aw_callV (M2 := m_X0_layOn) (cv := q_cU) dX10_nest_195 198 rfl (k_X0_layOn l G (Int32.toNatClampNeg x1) (Int32.toNatClampNeg x2) (Nat.lt_of_lt_of_le (q_in_lt h13) (by decide)) (Nat.lt_of_lt_of_le (q_in_lt h14) (by decide)) u11) wd_187 wv_X0_layOn pk_X0_layOn rfl rfl ⟨by decide, by decide⟩ ⟨Nat.zero_le _, Nat.zero_le _⟩ at_2 (ok_2 (Nat.lt_of_lt_of_le (q_in_lt h13) (by decide))) rfl rfl rfl (Nat.le_of_ble_eq_true rfl) (fun _z u12 => ?_)
                show qAW l G m_X10_nest (q_mq G q_cI) 198 [(8, .int x10), (0, .ref (q_ad G 0 0)), (1, .int x1), (2, .int x2), (3, .int x3), (4, .int x4), (5, .int x5), (6, .int x6)] [] u12 _
                refine aw_aload_n (i := 0) dX10_nest_198 199 rfl rfl 1 rfl ?_
                refine gf_X10_4 dX10_nest_199 202 rfl wd_145 (ok_0 (by decide)) ?_
                refine aw_iload_n (i := 1) dX10_nest_202 203 rfl rfl 2 rfl ?_
                refine aw_aald dX10_nest_203 204 rfl at_21 (by decide) (by decide) rfl rfl (al_21 _) (ok_21 (by decide)) rfl (fun h15 => ?_)
                refine aw_callV (M2 := m_X0_cells) (cv := q_cI) dX10_nest_204 207 rfl (k_X0_cells l G (Int32.toNatClampNeg x1) (Nat.lt_of_lt_of_le (q_in_lt h15) (by decide)) u12) wd_153 wv_X0_cells pk_X0_cells rfl rfl ⟨by decide, by decide⟩ ⟨Nat.zero_le _, Nat.zero_le _⟩ at_2 (ok_2 (Nat.lt_of_lt_of_le (q_in_lt h15) (by decide))) rfl rfl rfl (Nat.le_of_ble_eq_true rfl) (fun x12 u13 => ?_)
                show qAW l G m_X10_nest (q_mq G q_cI) 207 [(8, .int x10), (0, .ref (q_ad G 0 0)), (1, .int x1), (2, .int x2), (3, .int x3), (4, .int x4), (5, .int x5), (6, .int x6)] [.int x12] u13 _
                exact aw_iret dX10_nest_207 rfl
              · refine aw_bipush (x := (-4)) dX10_nest_117 119 rfl rfl ?_
                exact aw_iret dX10_nest_119 rfl
            · exact aw_conv [] rfl (hj3 u4)
      · refine aw_iload (i := 8) dX10_nest_70 72 rfl 0 rfl ?_
        exact aw_iret dX10_nest_72 rfl
    · intro j2 hj2
      refine aw_jn (fun k => ∀  (u14 : qM), qAW l G m_X10_nest (q_mq G q_cI) 58 [(0, .ref (q_ad G 0 0)), (1, .int x1), (2, .int x2), (3, .int x3), (4, .int x4), (5, .int x5), (6, .int x6)] [.ref (q_ad G 0 0)] u14 (k u14)) ?_ ?_
      · intro u14
        refine aw_iconst (x := 0) dX10_nest_58 59 rfl rfl ?_
        exact hj2 0 u14
      · intro j4 hj4
        refine aw_if_eq dX10_nest_31 34 rfl 58 rfl (fun h2 => ?_) (fun h2 => ?_)
        · exact aw_conv [1, 2, 3, 4, 5, 6, 7] rfl (hj4 u2)
        · refine aw_iload (i := 5) dX10_nest_34 36 rfl 6 rfl ?_
          refine aw_iconst (x := 1) dX10_nest_36 37 rfl rfl ?_
          refine aw_iconst (x := 4) dX10_nest_37 38 rfl rfl ?_
          refine aw_callS (M2 := m_X10_within) (cv := q_cI) dX10_nest_38 41 rfl (k_X10_within l G x5 1 4  u2) wd_131 wv_X10_within pk_X10_within rfl ⟨by decide, by decide⟩ ⟨Nat.zero_le _, Nat.zero_le _⟩ rfl (Nat.le_of_ble_eq_true rfl) (fun x13 u15 => ?_)
          show qAW l G m_X10_nest (q_mq G q_cI) 41 [(7, .int x8), (0, .ref (q_ad G 0 0)), (1, .int x1), (2, .int x2), (3, .int x3), (4, .int x4), (5, .int x5), (6, .int x6)] [.int x13, .ref (q_ad G 0 0)] u15 _
          refine aw_if_eq dX10_nest_41 44 rfl 58 rfl (fun h16 => ?_) (fun h16 => ?_)
          · exact aw_conv [1, 2, 3, 4, 5, 6, 7] rfl (hj4 u15)
          · refine aw_iload (i := 6) dX10_nest_44 46 rfl 7 rfl ?_
            refine aw_iconst (x := 1) dX10_nest_46 47 rfl rfl ?_
            refine aw_iconst (x := 3) dX10_nest_47 48 rfl rfl ?_
            refine aw_callS (M2 := m_X10_within) (cv := q_cI) dX10_nest_48 51 rfl (k_X10_within l G x6 1 3  u15) wd_131 wv_X10_within pk_X10_within rfl ⟨by decide, by decide⟩ ⟨Nat.zero_le _, Nat.zero_le _⟩ rfl (Nat.le_of_ble_eq_true rfl) (fun x14 u16 => ?_)
            show qAW l G m_X10_nest (q_mq G q_cI) 51 [(7, .int x8), (0, .ref (q_ad G 0 0)), (1, .int x1), (2, .int x2), (3, .int x3), (4, .int x4), (5, .int x5), (6, .int x6)] [.int x14, .ref (q_ad G 0 0)] u16 _
            refine aw_if_eq dX10_nest_51 54 rfl 58 rfl (fun h17 => ?_) (fun h17 => ?_)
            · exact aw_conv [1, 2, 3, 4, 5, 6, 7] rfl (hj4 u16)
            · refine aw_iconst (x := 1) dX10_nest_54 55 rfl rfl ?_
              refine aw_goto dX10_nest_55 59 rfl ?_
              exact aw_conv [1, 2, 3, 4, 5, 6, 7] rfl (hj2 1 u16)
  · intro j1 hj1
    refine aw_jn (fun k => ∀  (u17 : qM), qAW l G m_X10_nest (q_mq G q_cI) 25 [(0, .ref (q_ad G 0 0)), (1, .int x1), (2, .int x2), (3, .int x3), (4, .int x4), (5, .int x5), (6, .int x6)] [] u17 (k u17)) ?_ ?_
    · intro u17
      refine aw_iconst (x := 0) dX10_nest_25 26 rfl rfl ?_
      exact hj1 0 u17
    · intro j5 hj5
      refine aw_if_eq dX10_nest_4 7 rfl 25 rfl (fun h1 => ?_) (fun h1 => ?_)
      · exact hj5 u1
      · refine aw_iload_n (i := 1) dX10_nest_7 8 rfl rfl 1 rfl ?_
        refine aw_iload_n (i := 2) dX10_nest_8 9 rfl rfl 2 rfl ?_
        refine aw_icmp_eq dX10_nest_9 12 rfl 25 rfl (fun h18 => ?_) (fun h18 => ?_)
        · exact hj5 u1
        · refine aw_iload_n (i := 3) dX10_nest_12 13 rfl rfl 3 rfl ?_
          refine aw_if_lt dX10_nest_13 16 rfl 25 rfl (fun h19 => ?_) (fun h19 => ?_)
          · exact hj5 u1
          · refine aw_iload (i := 4) dX10_nest_16 18 rfl 4 rfl ?_
            refine aw_if_lt dX10_nest_18 21 rfl 25 rfl (fun h20 => ?_) (fun h20 => ?_)
            · exact hj5 u1
            · refine aw_iconst (x := 1) dX10_nest_21 22 rfl rfl ?_
              refine aw_goto dX10_nest_22 26 rfl ?_
              exact hj1 1 u1
theorem dX10_nestRefused_0 : decode cX10_nestRefused 0 = .ok (.aload_n 0, 1) := by decide +kernel
theorem dX10_nestRefused_1 : decode cX10_nestRefused 1 = .ok (.iconst 1, 1) := by decide +kernel
theorem dX10_nestRefused_2 : decode cX10_nestRefused 2 = .ok (.iload_n 1, 1) := by decide +kernel
theorem dX10_nestRefused_3 : decode cX10_nestRefused 3 = .ok (.invokevirtual 170, 3) := by decide +kernel
theorem dX10_nestRefused_6 : decode cX10_nestRefused 6 = .ok (.istore_n 2, 1) := by decide +kernel
theorem dX10_nestRefused_7 : decode cX10_nestRefused 7 = .ok (.iload_n 2, 1) := by decide +kernel
theorem dX10_nestRefused_8 : decode cX10_nestRefused 8 = .ok (.ifCond .eq 5, 3) := by decide +kernel
theorem dX10_nestRefused_11 : decode cX10_nestRefused 11 = .ok (.iload_n 2, 1) := by decide +kernel
theorem dX10_nestRefused_12 : decode cX10_nestRefused 12 = .ok (.ireturn, 1) := by decide +kernel
theorem dX10_nestRefused_13 : decode cX10_nestRefused 13 = .ok (.aload_n 0, 1) := by decide +kernel
theorem dX10_nestRefused_14 : decode cX10_nestRefused 14 = .ok (.getfield 30, 3) := by decide +kernel
theorem dX10_nestRefused_17 : decode cX10_nestRefused 17 = .ok (.iload_n 1, 1) := by decide +kernel
theorem dX10_nestRefused_18 : decode cX10_nestRefused 18 = .ok (.aaload, 1) := by decide +kernel
theorem dX10_nestRefused_19 : decode cX10_nestRefused 19 = .ok (.getfield 276, 3) := by decide +kernel
theorem dX10_nestRefused_22 : decode cX10_nestRefused 22 = .ok (.iconst 2, 1) := by decide +kernel
theorem dX10_nestRefused_23 : decode cX10_nestRefused 23 = .ok (.if_icmp .ne 25, 3) := by decide +kernel
theorem dX10_nestRefused_26 : decode cX10_nestRefused 26 = .ok (.aload_n 0, 1) := by decide +kernel
theorem dX10_nestRefused_27 : decode cX10_nestRefused 27 = .ok (.getfield 30, 3) := by decide +kernel
theorem dX10_nestRefused_30 : decode cX10_nestRefused 30 = .ok (.iload_n 1, 1) := by decide +kernel
theorem dX10_nestRefused_31 : decode cX10_nestRefused 31 = .ok (.aaload, 1) := by decide +kernel
theorem dX10_nestRefused_32 : decode cX10_nestRefused 32 = .ok (.getfield 309, 3) := by decide +kernel
theorem dX10_nestRefused_35 : decode cX10_nestRefused 35 = .ok (.getfield 313, 3) := by decide +kernel
theorem dX10_nestRefused_38 : decode cX10_nestRefused 38 = .ok (.invokestatic 157, 3) := by decide +kernel
theorem dX10_nestRefused_41 : decode cX10_nestRefused 41 = .ok (.ifCond .eq 7, 3) := by decide +kernel
theorem dX10_nestRefused_44 : decode cX10_nestRefused 44 = .ok (.iconst 0, 1) := by decide +kernel
theorem dX10_nestRefused_45 : decode cX10_nestRefused 45 = .ok (.goto 8, 3) := by decide +kernel
theorem dX10_nestRefused_48 : decode cX10_nestRefused 48 = .ok (.aload_n 0, 1) := by decide +kernel
theorem dX10_nestRefused_49 : decode cX10_nestRefused 49 = .ok (.iconst 3, 1) := by decide +kernel
theorem dX10_nestRefused_50 : decode cX10_nestRefused 50 = .ok (.invokevirtual 91, 3) := by decide +kernel
theorem dX10_nestRefused_53 : decode cX10_nestRefused 53 = .ok (.ireturn, 1) := by decide +kernel
noncomputable def f_X10_nestRefused (x1 : Int32) (u0 : qM) : Option (Int32 × qM) :=
  q_bd (f_X10_boardRefused 1 x1 u0) (fun (x2 : Int32) (u1 : qM) => if x2 = 0 then q_ck (q_in x1 6) (q_jn (fun (x3 : Int32) (u2 : qM) => some (x3, u2)) (fun j1 => q_jn (fun  (u3 : qM) => q_bd (f_X10_found 3 u3) (fun (x4 : Int32) (u4 : qM) => j1 x4 u4)) (fun j2 => if (u1.1 2 (Int32.toNatClampNeg x1) 11) = 2 then q_ck (q_in x1 6) (q_bd (f_X10_isBoard (u1.1 5 (Int32.toNatClampNeg x1) 2) u1) (fun (x5 : Int32) (u5 : qM) => if x5 = 0 then j2 u5 else j1 0 u5)) else j2 u1))) else some (x2, u1))
set_option maxRecDepth 100000 in
set_option maxHeartbeats 4000000 in
theorem k_X10_nestRefused (l : Launch) (G : qG) (x1 : Int32)  (u0 : qM) : qCt l G m_X10_nestRefused q_cI [.ref (q_ad G 0 0), .int x1] u0 (f_X10_nestRefused x1 u0) := by
  refine q_entry pk_X10_nestRefused (Nat.le_of_ble_eq_true rfl) ?_
  show qAW l G m_X10_nestRefused (q_mq G q_cI) 0 [(0, .ref (q_ad G 0 0)), (1, .int x1)] [] u0 (f_X10_nestRefused x1 u0)
  unfold f_X10_nestRefused
  refine aw_aload_n (i := 0) dX10_nestRefused_0 1 rfl rfl 0 rfl ?_
  refine aw_iconst (x := 1) dX10_nestRefused_1 2 rfl rfl ?_
  refine aw_iload_n (i := 1) dX10_nestRefused_2 3 rfl rfl 1 rfl ?_
  refine aw_callV (M2 := m_X10_boardRefused) (cv := q_cI) dX10_nestRefused_3 6 rfl (k_X10_boardRefused l G 1 x1  u0) wd_154 wv_X10_boardRefused pk_X10_boardRefused rfl rfl ⟨by decide, by decide⟩ ⟨Nat.zero_le _, Nat.zero_le _⟩ at_0 (ok_0 (by decide)) rfl rfl rfl (Nat.le_of_ble_eq_true rfl) (fun x2 u1 => ?_)
  show qAW l G m_X10_nestRefused (q_mq G q_cI) 6 [(0, .ref (q_ad G 0 0)), (1, .int x1)] [.int x2] u1 _
  refine aw_istore_n dX10_nestRefused_6 7 rfl rfl [(2, .int x2), (0, .ref (q_ad G 0 0)), (1, .int x1)] (by decide) rfl ?_
  refine aw_iload_n (i := 2) dX10_nestRefused_7 8 rfl rfl 0 rfl ?_
  refine aw_if_eq dX10_nestRefused_8 11 rfl 13 rfl (fun h1 => ?_) (fun h1 => ?_)
  · refine aw_aload_n (i := 0) dX10_nestRefused_13 14 rfl rfl 1 rfl ?_
    refine gf_X10_4 dX10_nestRefused_14 17 rfl wd_145 (ok_0 (by decide)) ?_
    refine aw_iload_n (i := 1) dX10_nestRefused_17 18 rfl rfl 2 rfl ?_
    refine aw_aald dX10_nestRefused_18 19 rfl at_21 (by decide) (by decide) rfl rfl (al_21 _) (ok_21 (by decide)) rfl (fun h2 => ?_)
    refine gfN_X0_11 dX10_nestRefused_19 22 rfl "SeaCells" (ns_48) (ok_2 (Nat.lt_of_lt_of_le (q_in_lt h2) (by decide))) ?_
    refine aw_iconst (x := 2) dX10_nestRefused_22 23 rfl rfl ?_
    refine aw_jn (fun k => ∀ (x3 : Int32) (u2 : qM), qAW l G m_X10_nestRefused (q_mq G q_cI) 53 [] [.int x3] u2 (k x3 u2)) ?_ ?_
    · intro x3 u2
      exact aw_iret dX10_nestRefused_53 rfl
    · intro j1 hj1
      refine aw_jn (fun k => ∀  (u3 : qM), qAW l G m_X10_nestRefused (q_mq G q_cI) 48 [(0, .ref (q_ad G 0 0))] [] u3 (k u3)) ?_ ?_
      · intro u3
        refine aw_aload_n (i := 0) dX10_nestRefused_48 49 rfl rfl 0 rfl ?_
        refine aw_iconst (x := 3) dX10_nestRefused_49 50 rfl rfl ?_
        refine aw_callV (M2 := m_X10_found) (cv := q_cI) dX10_nestRefused_50 53 rfl (k_X10_found l G 3  u3) wd_128 wv_X10_found pk_X10_found rfl rfl ⟨by decide, by decide⟩ ⟨Nat.zero_le _, Nat.zero_le _⟩ at_0 (ok_0 (by decide)) rfl rfl rfl (Nat.le_of_ble_eq_true rfl) (fun x4 u4 => ?_)
        show qAW l G m_X10_nestRefused (q_mq G q_cI) 53 [(0, .ref (q_ad G 0 0))] [.int x4] u4 _
        exact aw_conv [] rfl (hj1 x4 u4)
      · intro j2 hj2
        refine aw_icmp_ne dX10_nestRefused_23 26 rfl 48 rfl (fun h3 => ?_) (fun h3 => ?_)
        · exact aw_conv [1] rfl (hj2 u1)
        · refine aw_aload_n (i := 0) dX10_nestRefused_26 27 rfl rfl 1 rfl ?_
          refine gf_X10_4 dX10_nestRefused_27 30 rfl wd_145 (ok_0 (by decide)) ?_
          refine aw_iload_n (i := 1) dX10_nestRefused_30 31 rfl rfl 2 rfl ?_
          refine aw_aald dX10_nestRefused_31 32 rfl at_21 (by decide) (by decide) rfl rfl (al_21 _) (ok_21 (by decide)) rfl (fun h4 => ?_)
          refine gfN_X0_7 dX10_nestRefused_32 35 rfl "SeaCells" (ns_44) (ok_2 (Nat.lt_of_lt_of_le (q_in_lt h4) (by decide))) ?_
          refine gfN_X4_2 dX10_nestRefused_35 38 rfl "SeaCells" (ns_24) (ok_5 (Nat.lt_of_lt_of_le (q_in_lt h4) (by decide))) ?_
          refine aw_callS (M2 := m_X10_isBoard) (cv := q_cI) dX10_nestRefused_38 41 rfl (k_X10_isBoard l G (u1.1 5 (Int32.toNatClampNeg x1) 2)  u1) wd_146 wv_X10_isBoard pk_X10_isBoard rfl ⟨by decide, by decide⟩ ⟨Nat.zero_le _, Nat.zero_le _⟩ rfl (Nat.le_of_ble_eq_true rfl) (fun x5 u5 => ?_)
          show qAW l G m_X10_nestRefused (q_mq G q_cI) 41 [(2, .int x2), (0, .ref (q_ad G 0 0)), (1, .int x1)] [.int x5] u5 _
          refine aw_if_eq dX10_nestRefused_41 44 rfl 48 rfl (fun h5 => ?_) (fun h5 => ?_)
          · exact aw_conv [1] rfl (hj2 u5)
          · refine aw_iconst (x := 0) dX10_nestRefused_44 45 rfl rfl ?_
            refine aw_goto dX10_nestRefused_45 53 rfl ?_
            exact aw_conv [] rfl (hj1 0 u5)
  · refine aw_iload_n (i := 2) dX10_nestRefused_11 12 rfl rfl 0 rfl ?_
    exact aw_iret dX10_nestRefused_12 rfl
theorem dX10_up_0 : decode cX10_up 0 = .ok (.aload_n 0, 1) := by decide +kernel
theorem dX10_up_1 : decode cX10_up 1 = .ok (.iload_n 1, 1) := by decide +kernel
theorem dX10_up_2 : decode cX10_up 2 = .ok (.invokevirtual 379, 3) := by decide +kernel
theorem dX10_up_5 : decode cX10_up 5 = .ok (.istore_n 2, 1) := by decide +kernel
theorem dX10_up_6 : decode cX10_up 6 = .ok (.iload_n 2, 1) := by decide +kernel
theorem dX10_up_7 : decode cX10_up 7 = .ok (.ifCond .eq 5, 3) := by decide +kernel
theorem dX10_up_10 : decode cX10_up 10 = .ok (.iload_n 2, 1) := by decide +kernel
theorem dX10_up_11 : decode cX10_up 11 = .ok (.ireturn, 1) := by decide +kernel
theorem dX10_up_12 : decode cX10_up 12 = .ok (.aload_n 0, 1) := by decide +kernel
theorem dX10_up_13 : decode cX10_up 13 = .ok (.aload_n 0, 1) := by decide +kernel
theorem dX10_up_14 : decode cX10_up 14 = .ok (.getfield 30, 3) := by decide +kernel
theorem dX10_up_17 : decode cX10_up 17 = .ok (.iload_n 1, 1) := by decide +kernel
theorem dX10_up_18 : decode cX10_up 18 = .ok (.aaload, 1) := by decide +kernel
theorem dX10_up_19 : decode cX10_up 19 = .ok (.aload_n 0, 1) := by decide +kernel
theorem dX10_up_20 : decode cX10_up 20 = .ok (.getfield 30, 3) := by decide +kernel
theorem dX10_up_23 : decode cX10_up 23 = .ok (.aload_n 0, 1) := by decide +kernel
theorem dX10_up_24 : decode cX10_up 24 = .ok (.getfield 30, 3) := by decide +kernel
theorem dX10_up_27 : decode cX10_up 27 = .ok (.iload_n 1, 1) := by decide +kernel
theorem dX10_up_28 : decode cX10_up 28 = .ok (.aaload, 1) := by decide +kernel
theorem dX10_up_29 : decode cX10_up 29 = .ok (.getfield 309, 3) := by decide +kernel
theorem dX10_up_32 : decode cX10_up 32 = .ok (.getfield 313, 3) := by decide +kernel
theorem dX10_up_35 : decode cX10_up 35 = .ok (.aaload, 1) := by decide +kernel
theorem dX10_up_36 : decode cX10_up 36 = .ok (.invokevirtual 382, 3) := by decide +kernel
theorem dX10_up_39 : decode cX10_up 39 = .ok (.putfield 116, 3) := by decide +kernel
theorem dX10_up_42 : decode cX10_up 42 = .ok (.iconst 1, 1) := by decide +kernel
theorem dX10_up_43 : decode cX10_up 43 = .ok (.ireturn, 1) := by decide +kernel
noncomputable def f_X10_up (x1 : Int32) (u0 : qM) : Option (Int32 × qM) :=
  q_bd (f_X10_nestRefused x1 u0) (fun (x2 : Int32) (u1 : qM) => if x2 = 0 then q_ck (q_in x1 6) (q_ck (q_in x1 6) (q_ck (q_in (u1.1 5 (Int32.toNatClampNeg x1) 2) 6) (q_bd (f_X0_giveUp (Int32.toNatClampNeg x1) (Int32.toNatClampNeg (u1.1 5 (Int32.toNatClampNeg x1) 2)) u1) (fun (x3 : Int32) (u2 : qM) => q_lt (q_si u2 0 0 15 x3) (fun (u3 : qM) => some (1, u3)))))) else some (x2, u1))
set_option maxRecDepth 100000 in
set_option maxHeartbeats 4000000 in
theorem k_X10_up (l : Launch) (G : qG) (x1 : Int32)  (u0 : qM) : qCt l G m_X10_up q_cI [.ref (q_ad G 0 0), .int x1] u0 (f_X10_up x1 u0) := by
  refine q_entry pk_X10_up (Nat.le_of_ble_eq_true rfl) ?_
  show qAW l G m_X10_up (q_mq G q_cI) 0 [(0, .ref (q_ad G 0 0)), (1, .int x1)] [] u0 (f_X10_up x1 u0)
  unfold f_X10_up
  refine aw_aload_n (i := 0) dX10_up_0 1 rfl rfl 0 rfl ?_
  refine aw_iload_n (i := 1) dX10_up_1 2 rfl rfl 1 rfl ?_
  refine aw_callV (M2 := m_X10_nestRefused) (cv := q_cI) dX10_up_2 5 rfl (k_X10_nestRefused l G x1  u0) wd_188 wv_X10_nestRefused pk_X10_nestRefused rfl rfl ⟨by decide, by decide⟩ ⟨Nat.zero_le _, Nat.zero_le _⟩ at_0 (ok_0 (by decide)) rfl rfl rfl (Nat.le_of_ble_eq_true rfl) (fun x2 u1 => ?_)
  show qAW l G m_X10_up (q_mq G q_cI) 5 [(0, .ref (q_ad G 0 0)), (1, .int x1)] [.int x2] u1 _
  refine aw_istore_n dX10_up_5 6 rfl rfl [(2, .int x2), (0, .ref (q_ad G 0 0)), (1, .int x1)] (by decide) rfl ?_
  refine aw_iload_n (i := 2) dX10_up_6 7 rfl rfl 0 rfl ?_
  refine aw_if_eq dX10_up_7 10 rfl 12 rfl (fun h1 => ?_) (fun h1 => ?_)
  · refine aw_aload_n (i := 0) dX10_up_12 13 rfl rfl 1 rfl ?_
    refine aw_aload_n (i := 0) dX10_up_13 14 rfl rfl 1 rfl ?_
    refine gf_X10_4 dX10_up_14 17 rfl wd_145 (ok_0 (by decide)) ?_
    refine aw_iload_n (i := 1) dX10_up_17 18 rfl rfl 2 rfl ?_
    refine aw_aald dX10_up_18 19 rfl at_21 (by decide) (by decide) rfl rfl (al_21 _) (ok_21 (by decide)) rfl (fun h2 => ?_)
    refine aw_aload_n (i := 0) dX10_up_19 20 rfl rfl 1 rfl ?_
    refine gf_X10_4 dX10_up_20 23 rfl wd_145 (ok_0 (by decide)) ?_
    refine aw_aload_n (i := 0) dX10_up_23 24 rfl rfl 1 rfl ?_
    refine gf_X10_4 dX10_up_24 27 rfl wd_145 (ok_0 (by decide)) ?_
    refine aw_iload_n (i := 1) dX10_up_27 28 rfl rfl 2 rfl ?_
    refine aw_aald dX10_up_28 29 rfl at_21 (by decide) (by decide) rfl rfl (al_21 _) (ok_21 (by decide)) rfl (fun h3 => ?_)
    refine gfN_X0_7 dX10_up_29 32 rfl "SeaCells" (ns_44) (ok_2 (Nat.lt_of_lt_of_le (q_in_lt h3) (by decide))) ?_
    refine gfN_X4_2 dX10_up_32 35 rfl "SeaCells" (ns_24) (ok_5 (Nat.lt_of_lt_of_le (q_in_lt h3) (by decide))) ?_
    refine aw_aald dX10_up_35 36 rfl at_21 (by decide) (by decide) rfl rfl (al_21 _) (ok_21 (by decide)) rfl (fun h4 => ?_)
    refine aw_callV (M2 := m_X0_giveUp) (cv := q_cI) dX10_up_36 39 rfl (k_X0_giveUp l G (Int32.toNatClampNeg x1) (Int32.toNatClampNeg (u1.1 5 (Int32.toNatClampNeg x1) 2)) (Nat.lt_of_lt_of_le (q_in_lt h2) (by decide)) (Nat.lt_of_lt_of_le (q_in_lt h4) (by decide)) u1) wd_189 wv_X0_giveUp pk_X0_giveUp rfl rfl ⟨by decide, by decide⟩ ⟨Nat.zero_le _, Nat.zero_le _⟩ at_2 (ok_2 (Nat.lt_of_lt_of_le (q_in_lt h2) (by decide))) rfl rfl rfl (Nat.le_of_ble_eq_true rfl) (fun x3 u2 => ?_)
    show qAW l G m_X10_up (q_mq G q_cI) 39 [(2, .int x2), (0, .ref (q_ad G 0 0)), (1, .int x1)] [.int x3, .ref (q_ad G 0 0)] u2 _
    refine pf_X10_15 dX10_up_39 42 rfl wd_134 (ok_0 (by decide)) ?_
    refine aw_ltm (fun u3 => ?_)
    refine aw_iconst (x := 1) dX10_up_42 43 rfl rfl ?_
    exact aw_iret dX10_up_43 rfl
  · refine aw_iload_n (i := 2) dX10_up_10 11 rfl rfl 0 rfl ?_
    exact aw_iret dX10_up_11 rfl
theorem dX10_down_0 : decode cX10_down 0 = .ok (.aload_n 0, 1) := by decide +kernel
theorem dX10_down_1 : decode cX10_down 1 = .ok (.iload_n 1, 1) := by decide +kernel
theorem dX10_down_2 : decode cX10_down 2 = .ok (.invokevirtual 379, 3) := by decide +kernel
theorem dX10_down_5 : decode cX10_down 5 = .ok (.istore_n 2, 1) := by decide +kernel
theorem dX10_down_6 : decode cX10_down 6 = .ok (.iload_n 2, 1) := by decide +kernel
theorem dX10_down_7 : decode cX10_down 7 = .ok (.ifCond .eq 5, 3) := by decide +kernel
theorem dX10_down_10 : decode cX10_down 10 = .ok (.iload_n 2, 1) := by decide +kernel
theorem dX10_down_11 : decode cX10_down 11 = .ok (.ireturn, 1) := by decide +kernel
theorem dX10_down_12 : decode cX10_down 12 = .ok (.aload_n 0, 1) := by decide +kernel
theorem dX10_down_13 : decode cX10_down 13 = .ok (.aload_n 0, 1) := by decide +kernel
theorem dX10_down_14 : decode cX10_down 14 = .ok (.getfield 30, 3) := by decide +kernel
theorem dX10_down_17 : decode cX10_down 17 = .ok (.iload_n 1, 1) := by decide +kernel
theorem dX10_down_18 : decode cX10_down 18 = .ok (.aaload, 1) := by decide +kernel
theorem dX10_down_19 : decode cX10_down 19 = .ok (.aload_n 0, 1) := by decide +kernel
theorem dX10_down_20 : decode cX10_down 20 = .ok (.getfield 30, 3) := by decide +kernel
theorem dX10_down_23 : decode cX10_down 23 = .ok (.aload_n 0, 1) := by decide +kernel
theorem dX10_down_24 : decode cX10_down 24 = .ok (.getfield 30, 3) := by decide +kernel
theorem dX10_down_27 : decode cX10_down 27 = .ok (.iload_n 1, 1) := by decide +kernel
theorem dX10_down_28 : decode cX10_down 28 = .ok (.aaload, 1) := by decide +kernel
theorem dX10_down_29 : decode cX10_down 29 = .ok (.getfield 309, 3) := by decide +kernel
theorem dX10_down_32 : decode cX10_down 32 = .ok (.getfield 313, 3) := by decide +kernel
theorem dX10_down_35 : decode cX10_down 35 = .ok (.aaload, 1) := by decide +kernel
theorem dX10_down_36 : decode cX10_down 36 = .ok (.invokevirtual 386, 3) := by decide +kernel
theorem dX10_down_39 : decode cX10_down 39 = .ok (.putfield 116, 3) := by decide +kernel
theorem dX10_down_42 : decode cX10_down 42 = .ok (.iconst 1, 1) := by decide +kernel
theorem dX10_down_43 : decode cX10_down 43 = .ok (.ireturn, 1) := by decide +kernel
noncomputable def f_X10_down (x1 : Int32) (u0 : qM) : Option (Int32 × qM) :=
  q_bd (f_X10_nestRefused x1 u0) (fun (x2 : Int32) (u1 : qM) => if x2 = 0 then q_ck (q_in x1 6) (q_ck (q_in x1 6) (q_ck (q_in (u1.1 5 (Int32.toNatClampNeg x1) 2) 6) (q_bd (f_X0_takeDown (Int32.toNatClampNeg x1) (Int32.toNatClampNeg (u1.1 5 (Int32.toNatClampNeg x1) 2)) u1) (fun (x3 : Int32) (u2 : qM) => q_lt (q_si u2 0 0 15 x3) (fun (u3 : qM) => some (1, u3)))))) else some (x2, u1))
set_option maxRecDepth 100000 in
set_option maxHeartbeats 4000000 in
theorem k_X10_down (l : Launch) (G : qG) (x1 : Int32)  (u0 : qM) : qCt l G m_X10_down q_cI [.ref (q_ad G 0 0), .int x1] u0 (f_X10_down x1 u0) := by
  refine q_entry pk_X10_down (Nat.le_of_ble_eq_true rfl) ?_
  show qAW l G m_X10_down (q_mq G q_cI) 0 [(0, .ref (q_ad G 0 0)), (1, .int x1)] [] u0 (f_X10_down x1 u0)
  unfold f_X10_down
  refine aw_aload_n (i := 0) dX10_down_0 1 rfl rfl 0 rfl ?_
  refine aw_iload_n (i := 1) dX10_down_1 2 rfl rfl 1 rfl ?_
  refine aw_callV (M2 := m_X10_nestRefused) (cv := q_cI) dX10_down_2 5 rfl (k_X10_nestRefused l G x1  u0) wd_188 wv_X10_nestRefused pk_X10_nestRefused rfl rfl ⟨by decide, by decide⟩ ⟨Nat.zero_le _, Nat.zero_le _⟩ at_0 (ok_0 (by decide)) rfl rfl rfl (Nat.le_of_ble_eq_true rfl) (fun x2 u1 => ?_)
  show qAW l G m_X10_down (q_mq G q_cI) 5 [(0, .ref (q_ad G 0 0)), (1, .int x1)] [.int x2] u1 _
  refine aw_istore_n dX10_down_5 6 rfl rfl [(2, .int x2), (0, .ref (q_ad G 0 0)), (1, .int x1)] (by decide) rfl ?_
  refine aw_iload_n (i := 2) dX10_down_6 7 rfl rfl 0 rfl ?_
  refine aw_if_eq dX10_down_7 10 rfl 12 rfl (fun h1 => ?_) (fun h1 => ?_)
  · refine aw_aload_n (i := 0) dX10_down_12 13 rfl rfl 1 rfl ?_
    refine aw_aload_n (i := 0) dX10_down_13 14 rfl rfl 1 rfl ?_
    refine gf_X10_4 dX10_down_14 17 rfl wd_145 (ok_0 (by decide)) ?_
    refine aw_iload_n (i := 1) dX10_down_17 18 rfl rfl 2 rfl ?_
    refine aw_aald dX10_down_18 19 rfl at_21 (by decide) (by decide) rfl rfl (al_21 _) (ok_21 (by decide)) rfl (fun h2 => ?_)
    refine aw_aload_n (i := 0) dX10_down_19 20 rfl rfl 1 rfl ?_
    refine gf_X10_4 dX10_down_20 23 rfl wd_145 (ok_0 (by decide)) ?_
    refine aw_aload_n (i := 0) dX10_down_23 24 rfl rfl 1 rfl ?_
    refine gf_X10_4 dX10_down_24 27 rfl wd_145 (ok_0 (by decide)) ?_
    refine aw_iload_n (i := 1) dX10_down_27 28 rfl rfl 2 rfl ?_
    refine aw_aald dX10_down_28 29 rfl at_21 (by decide) (by decide) rfl rfl (al_21 _) (ok_21 (by decide)) rfl (fun h3 => ?_)
    refine gfN_X0_7 dX10_down_29 32 rfl "SeaCells" (ns_44) (ok_2 (Nat.lt_of_lt_of_le (q_in_lt h3) (by decide))) ?_
    refine gfN_X4_2 dX10_down_32 35 rfl "SeaCells" (ns_24) (ok_5 (Nat.lt_of_lt_of_le (q_in_lt h3) (by decide))) ?_
    refine aw_aald dX10_down_35 36 rfl at_21 (by decide) (by decide) rfl rfl (al_21 _) (ok_21 (by decide)) rfl (fun h4 => ?_)
    refine aw_callV (M2 := m_X0_takeDown) (cv := q_cI) dX10_down_36 39 rfl (k_X0_takeDown l G (Int32.toNatClampNeg x1) (Int32.toNatClampNeg (u1.1 5 (Int32.toNatClampNeg x1) 2)) (Nat.lt_of_lt_of_le (q_in_lt h2) (by decide)) (Nat.lt_of_lt_of_le (q_in_lt h4) (by decide)) u1) wd_190 wv_X0_takeDown pk_X0_takeDown rfl rfl ⟨by decide, by decide⟩ ⟨Nat.zero_le _, Nat.zero_le _⟩ at_2 (ok_2 (Nat.lt_of_lt_of_le (q_in_lt h2) (by decide))) rfl rfl rfl (Nat.le_of_ble_eq_true rfl) (fun x3 u2 => ?_)
    show qAW l G m_X10_down (q_mq G q_cI) 39 [(2, .int x2), (0, .ref (q_ad G 0 0)), (1, .int x1)] [.int x3, .ref (q_ad G 0 0)] u2 _
    refine pf_X10_15 dX10_down_39 42 rfl wd_134 (ok_0 (by decide)) ?_
    refine aw_ltm (fun u3 => ?_)
    refine aw_iconst (x := 1) dX10_down_42 43 rfl rfl ?_
    exact aw_iret dX10_down_43 rfl
  · refine aw_iload_n (i := 2) dX10_down_10 11 rfl rfl 0 rfl ?_
    exact aw_iret dX10_down_11 rfl
theorem dX10_misfitOfTrial_0 : decode cX10_misfitOfTrial 0 = .ok (.iconst 0, 1) := by decide +kernel
theorem dX10_misfitOfTrial_1 : decode cX10_misfitOfTrial 1 = .ok (.istore_n 3, 1) := by decide +kernel
theorem dX10_misfitOfTrial_2 : decode cX10_misfitOfTrial 2 = .ok (.iconst 0, 1) := by decide +kernel
theorem dX10_misfitOfTrial_3 : decode cX10_misfitOfTrial 3 = .ok (.istore 4, 2) := by decide +kernel
theorem dX10_misfitOfTrial_5 : decode cX10_misfitOfTrial 5 = .ok (.iload 4, 2) := by decide +kernel
theorem dX10_misfitOfTrial_7 : decode cX10_misfitOfTrial 7 = .ok (.aload_n 0, 1) := by decide +kernel
theorem dX10_misfitOfTrial_8 : decode cX10_misfitOfTrial 8 = .ok (.getfield 14, 3) := by decide +kernel
theorem dX10_misfitOfTrial_11 : decode cX10_misfitOfTrial 11 = .ok (.getfield 136, 3) := by decide +kernel
theorem dX10_misfitOfTrial_14 : decode cX10_misfitOfTrial 14 = .ok (.iload_n 2, 1) := by decide +kernel
theorem dX10_misfitOfTrial_15 : decode cX10_misfitOfTrial 15 = .ok (.iaload, 1) := by decide +kernel
theorem dX10_misfitOfTrial_16 : decode cX10_misfitOfTrial 16 = .ok (.if_icmp .ge 68, 3) := by decide +kernel
theorem dX10_misfitOfTrial_19 : decode cX10_misfitOfTrial 19 = .ok (.aload_n 0, 1) := by decide +kernel
theorem dX10_misfitOfTrial_20 : decode cX10_misfitOfTrial 20 = .ok (.getfield 42, 3) := by decide +kernel
theorem dX10_misfitOfTrial_23 : decode cX10_misfitOfTrial 23 = .ok (.aload_n 0, 1) := by decide +kernel
theorem dX10_misfitOfTrial_24 : decode cX10_misfitOfTrial 24 = .ok (.getfield 35, 3) := by decide +kernel
theorem dX10_misfitOfTrial_27 : decode cX10_misfitOfTrial 27 = .ok (.aload_n 0, 1) := by decide +kernel
theorem dX10_misfitOfTrial_28 : decode cX10_misfitOfTrial 28 = .ok (.getfield 14, 3) := by decide +kernel
theorem dX10_misfitOfTrial_31 : decode cX10_misfitOfTrial 31 = .ok (.invokevirtual 295, 3) := by decide +kernel
theorem dX10_misfitOfTrial_34 : decode cX10_misfitOfTrial 34 = .ok (.ifCond .ne 6, 3) := by decide +kernel
theorem dX10_misfitOfTrial_37 : decode cX10_misfitOfTrial 37 = .ok (.bipush (-9), 2) := by decide +kernel
theorem dX10_misfitOfTrial_39 : decode cX10_misfitOfTrial 39 = .ok (.ireturn, 1) := by decide +kernel
theorem dX10_misfitOfTrial_40 : decode cX10_misfitOfTrial 40 = .ok (.aload_n 0, 1) := by decide +kernel
theorem dX10_misfitOfTrial_41 : decode cX10_misfitOfTrial 41 = .ok (.getfield 14, 3) := by decide +kernel
theorem dX10_misfitOfTrial_44 : decode cX10_misfitOfTrial 44 = .ok (.getfield 112, 3) := by decide +kernel
theorem dX10_misfitOfTrial_47 : decode cX10_misfitOfTrial 47 = .ok (.iload_n 2, 1) := by decide +kernel
theorem dX10_misfitOfTrial_48 : decode cX10_misfitOfTrial 48 = .ok (.aaload, 1) := by decide +kernel
theorem dX10_misfitOfTrial_49 : decode cX10_misfitOfTrial 49 = .ok (.iload 4, 2) := by decide +kernel
theorem dX10_misfitOfTrial_51 : decode cX10_misfitOfTrial 51 = .ok (.iaload, 1) := by decide +kernel
theorem dX10_misfitOfTrial_52 : decode cX10_misfitOfTrial 52 = .ok (.istore 5, 2) := by decide +kernel
theorem dX10_misfitOfTrial_54 : decode cX10_misfitOfTrial 54 = .ok (.iload 5, 2) := by decide +kernel
theorem dX10_misfitOfTrial_56 : decode cX10_misfitOfTrial 56 = .ok (.bipush (-9), 2) := by decide +kernel
theorem dX10_misfitOfTrial_58 : decode cX10_misfitOfTrial 58 = .ok (.if_icmp .eq 20, 3) := by decide +kernel
theorem dX10_misfitOfTrial_61 : decode cX10_misfitOfTrial 61 = .ok (.iload_n 3, 1) := by decide +kernel
theorem dX10_misfitOfTrial_62 : decode cX10_misfitOfTrial 62 = .ok (.aload_n 0, 1) := by decide +kernel
theorem dX10_misfitOfTrial_63 : decode cX10_misfitOfTrial 63 = .ok (.getfield 35, 3) := by decide +kernel
theorem dX10_misfitOfTrial_66 : decode cX10_misfitOfTrial 66 = .ok (.iload_n 1, 1) := by decide +kernel
theorem dX10_misfitOfTrial_67 : decode cX10_misfitOfTrial 67 = .ok (.invokevirtual 187, 3) := by decide +kernel
theorem dX10_misfitOfTrial_70 : decode cX10_misfitOfTrial 70 = .ok (.iload 5, 2) := by decide +kernel
theorem dX10_misfitOfTrial_72 : decode cX10_misfitOfTrial 72 = .ok (.isub, 1) := by decide +kernel
theorem dX10_misfitOfTrial_73 : decode cX10_misfitOfTrial 73 = .ok (.invokestatic 442, 3) := by decide +kernel
theorem dX10_misfitOfTrial_76 : decode cX10_misfitOfTrial 76 = .ok (.iadd, 1) := by decide +kernel
theorem dX10_misfitOfTrial_77 : decode cX10_misfitOfTrial 77 = .ok (.istore_n 3, 1) := by decide +kernel
theorem dX10_misfitOfTrial_78 : decode cX10_misfitOfTrial 78 = .ok (.iinc 4 1, 3) := by decide +kernel
theorem dX10_misfitOfTrial_81 : decode cX10_misfitOfTrial 81 = .ok (.goto (-76), 3) := by decide +kernel
theorem dX10_misfitOfTrial_84 : decode cX10_misfitOfTrial 84 = .ok (.iload_n 3, 1) := by decide +kernel
theorem dX10_misfitOfTrial_85 : decode cX10_misfitOfTrial 85 = .ok (.ireturn, 1) := by decide +kernel
noncomputable def L_X10_misfitOfTrial_5 (x1 : Int32) (x2 : Int32) : Nat → Int32 → Int32 → qM → (Int32 → qM → Option (Int32 × qM)) → (qM → Option (Int32 × qM)) → Option (Int32 × qM)
  | 0, _, _, _, _, _ => none
  | n + 1, x3, x4, u1, e1, e2 => q_ck (q_in x2 6) (if (u1.1 33 0 (Int32.toNatClampNeg x2)) ≤ x4 then e1 x3 u1 else q_bd (f_X8_advance 6 u1) (fun (x5 : Int32) (u2 : qM) => if x5 = 0 then e2 u2 else q_ck (q_in x2 6) (q_ck (q_in x4 48) (q_lt (u2.1 30 (Int32.toNatClampNeg x2) (Int32.toNatClampNeg x4)) (fun (x6 : Int32) => q_jn (fun (x7 : Int32) (u3 : qM) => q_lt (x4 + 1) (fun (x8 : Int32) => L_X10_misfitOfTrial_5 x1 x2 n x7 x8 u3 e1 e2)) (fun j1 => if x6 = (-9) then j1 x3 u2 else q_bd (f_X0_level 6 x1 u2) (fun (x9 : Int32) (u4 : qM) => q_lt (x3 + (if (0 : Int32) ≤ (x9 - x6) then x9 - x6 else 0 - (x9 - x6))) (fun (x10 : Int32) => j1 x10 u4))))))))
noncomputable def f_X10_misfitOfTrial (x1 : Int32) (x2 : Int32) (u0 : qM) : Option (Int32 × qM) :=
  L_X10_misfitOfTrial_5 x1 x2 q_fu 0 0 u0 (fun x11 u5 => some (x11, u5)) (fun u6 => some ((-9), u6))
set_option maxRecDepth 100000 in
set_option maxHeartbeats 4000000 in
theorem TL_X10_misfitOfTrial_5 (l : Launch) (G : qG) (x1 : Int32) (x2 : Int32)  (e1 : Int32 → qM → Option (Int32 × qM)) (e2 : qM → Option (Int32 × qM)) (he1 : ∀ (y1 : Int32) (v : qM), qAW l G m_X10_misfitOfTrial (q_mq G q_cI) 84 [(3, .int y1)] [] v (e1 y1 v)) (he2 : ∀  (v : qM), qAW l G m_X10_misfitOfTrial (q_mq G q_cI) 37 [] [] v (e2 v)) : ∀ (n : Nat) (x3 : Int32) (x4 : Int32) (u1 : qM), qAW l G m_X10_misfitOfTrial (q_mq G q_cI) 5 [(0, .ref (q_ad G 0 0)), (1, .int x1), (2, .int x2), (3, .int x3), (4, .int x4)] [] u1 (L_X10_misfitOfTrial_5 x1 x2 n x3 x4 u1 e1 e2) := by
  intro n
  induction n with
  | zero => intros; exact aw_none
  | succ n ih =>
    intro x3 x4 u1
    unfold L_X10_misfitOfTrial_5
    refine aw_iload (i := 4) dX10_misfitOfTrial_5 7 rfl 4 rfl ?_
    refine aw_aload_n (i := 0) dX10_misfitOfTrial_7 8 rfl rfl 0 rfl ?_
    refine gf_X10_0 dX10_misfitOfTrial_8 11 rfl wd_125 (ok_0 (by decide)) ?_
    refine gfN_X7_1 dX10_misfitOfTrial_11 14 rfl "SeaCells" (ns_2) (ok_1 (by decide)) ?_
    refine aw_iload_n (i := 2) dX10_misfitOfTrial_14 15 rfl rfl 2 rfl ?_
    refine aw_iald dX10_misfitOfTrial_15 16 rfl at_33 rfl (ok_33 (by decide)) (fun h1 => ?_)
    refine aw_icmp_ge dX10_misfitOfTrial_16 19 rfl 84 rfl (fun h2 => ?_) (fun h2 => ?_)
    · exact aw_conv [3] rfl (he1 x3 u1)
    · refine aw_aload_n (i := 0) dX10_misfitOfTrial_19 20 rfl rfl 0 rfl ?_
      refine gf_X10_6 dX10_misfitOfTrial_20 23 rfl wd_161 (ok_0 (by decide)) ?_
      refine aw_aload_n (i := 0) dX10_misfitOfTrial_23 24 rfl rfl 0 rfl ?_
      refine gf_X10_5 dX10_misfitOfTrial_24 27 rfl wd_191 (ok_0 (by decide)) ?_
      refine aw_aload_n (i := 0) dX10_misfitOfTrial_27 28 rfl rfl 0 rfl ?_
      refine gf_X10_0 dX10_misfitOfTrial_28 31 rfl wd_125 (ok_0 (by decide)) ?_
      refine aw_callV (M2 := m_X8_advance) (cv := q_cI) dX10_misfitOfTrial_31 34 rfl (k_X8_advance l G 6 (by decide) u1) wd_162 wv_X8_advance pk_X8_advance rfl rfl ⟨by decide, by decide⟩ ⟨Nat.zero_le _, Nat.zero_le _⟩ at_6 (ok_6 (by decide)) rfl rfl rfl (Nat.le_of_ble_eq_true rfl) (fun x5 u2 => ?_)
      show qAW l G m_X10_misfitOfTrial (q_mq G q_cI) 34 [(0, .ref (q_ad G 0 0)), (1, .int x1), (2, .int x2), (3, .int x3), (4, .int x4)] [.int x5] u2 _
      refine aw_if_ne dX10_misfitOfTrial_34 37 rfl 40 rfl (fun h3 => ?_) (fun h3 => ?_)
      · refine aw_aload_n (i := 0) dX10_misfitOfTrial_40 41 rfl rfl 0 rfl ?_
        refine gf_X10_0 dX10_misfitOfTrial_41 44 rfl wd_125 (ok_0 (by decide)) ?_
        refine gfN_X7_0 dX10_misfitOfTrial_44 47 rfl "SeaCells" (ns_0) (ok_1 (by decide)) ?_
        refine aw_iload_n (i := 2) dX10_misfitOfTrial_47 48 rfl rfl 2 rfl ?_
        refine aw_aald dX10_misfitOfTrial_48 49 rfl at_20 (by decide) (by decide) rfl rfl rfl (ok_20 (by decide)) rfl (fun h4 => ?_)
        refine aw_iload (i := 4) dX10_misfitOfTrial_49 51 rfl 4 rfl ?_
        refine aw_iald dX10_misfitOfTrial_51 52 rfl at_30 (al_30 _) (ok_30 (q_in_lt h4)) (fun h5 => ?_)
        refine aw_lti (fun x6 => ?_)
        refine aw_istore dX10_misfitOfTrial_52 54 rfl [(5, .int x6), (0, .ref (q_ad G 0 0)), (1, .int x1), (2, .int x2), (3, .int x3), (4, .int x4)] (by decide) rfl ?_
        refine aw_iload (i := 5) dX10_misfitOfTrial_54 56 rfl 0 rfl ?_
        refine aw_bipush (x := (-9)) dX10_misfitOfTrial_56 58 rfl rfl ?_
        refine aw_jn (fun k => ∀ (x7 : Int32) (u3 : qM), qAW l G m_X10_misfitOfTrial (q_mq G q_cI) 78 [(0, .ref (q_ad G 0 0)), (1, .int x1), (2, .int x2), (3, .int x7), (4, .int x4)] [] u3 (k x7 u3)) ?_ ?_
        · intro x7 u3
          refine aw_iincx (i := 4) dX10_misfitOfTrial_78 81 rfl 4 rfl 1 rfl (fun x8 => [(4, .int x8), (0, .ref (q_ad G 0 0)), (1, .int x1), (2, .int x2), (3, .int x7)]) (by decide) (fun _ => rfl) (fun x8 => ?_)
          refine aw_goto dX10_misfitOfTrial_81 5 rfl ?_
          exact aw_conv [1, 2, 3, 4, 0] rfl (ih x7 x8 u3)
        · intro j1 hj1
          refine aw_icmp_eq dX10_misfitOfTrial_58 61 rfl 78 rfl (fun h6 => ?_) (fun h6 => ?_)
          · exact aw_conv [1, 2, 3, 4, 5] rfl (hj1 x3 u2)
          · refine aw_iload_n (i := 3) dX10_misfitOfTrial_61 62 rfl rfl 4 rfl ?_
            refine aw_aload_n (i := 0) dX10_misfitOfTrial_62 63 rfl rfl 1 rfl ?_
            refine gf_X10_5 dX10_misfitOfTrial_63 66 rfl wd_191 (ok_0 (by decide)) ?_
            refine aw_iload_n (i := 1) dX10_misfitOfTrial_66 67 rfl rfl 2 rfl ?_
            refine aw_callV (M2 := m_X0_level) (cv := q_cI) dX10_misfitOfTrial_67 70 rfl (k_X0_level l G 6 x1 (by decide) u2) wd_157 wv_X0_level pk_X0_level rfl rfl ⟨by decide, by decide⟩ ⟨Nat.zero_le _, Nat.zero_le _⟩ at_2 (ok_2 (by decide)) rfl rfl rfl (Nat.le_of_ble_eq_true rfl) (fun x9 u4 => ?_)
            show qAW l G m_X10_misfitOfTrial (q_mq G q_cI) 70 [(5, .int x6), (0, .ref (q_ad G 0 0)), (1, .int x1), (2, .int x2), (3, .int x3), (4, .int x4)] [.int x9, .int x3] u4 _
            refine aw_iload (i := 5) dX10_misfitOfTrial_70 72 rfl 0 rfl ?_
            refine aw_isub dX10_misfitOfTrial_72 73 rfl ?_
            refine aw_abs dX10_misfitOfTrial_73 76 rfl wd_192 wd_98 wd_39 wd_99 (Nat.le_of_ble_eq_true rfl) (Nat.le_of_ble_eq_true rfl) (Nat.zero_le _) (Nat.zero_le _) ?_
            refine aw_iadd dX10_misfitOfTrial_76 77 rfl ?_
            refine aw_lti (fun x10 => ?_)
            refine aw_istore_n dX10_misfitOfTrial_77 78 rfl rfl [(3, .int x10), (5, .int x6), (0, .ref (q_ad G 0 0)), (1, .int x1), (2, .int x2), (4, .int x4)] (by decide) rfl ?_
            exact aw_conv [2, 3, 4, 0, 5] rfl (hj1 x10 u4)
      · exact aw_conv [] rfl (he2 u2)
set_option maxRecDepth 100000 in
set_option maxHeartbeats 4000000 in
theorem k_X10_misfitOfTrial (l : Launch) (G : qG) (x1 : Int32) (x2 : Int32)  (u0 : qM) : qCt l G m_X10_misfitOfTrial q_cI [.ref (q_ad G 0 0), .int x1, .int x2] u0 (f_X10_misfitOfTrial x1 x2 u0) := by
  refine q_entry pk_X10_misfitOfTrial (Nat.le_of_ble_eq_true rfl) ?_
  show qAW l G m_X10_misfitOfTrial (q_mq G q_cI) 0 [(0, .ref (q_ad G 0 0)), (1, .int x1), (2, .int x2)] [] u0 (f_X10_misfitOfTrial x1 x2 u0)
  unfold f_X10_misfitOfTrial
  refine aw_iconst (x := 0) dX10_misfitOfTrial_0 1 rfl rfl ?_
  refine aw_istore_n dX10_misfitOfTrial_1 2 rfl rfl [(3, .int 0), (0, .ref (q_ad G 0 0)), (1, .int x1), (2, .int x2)] (by decide) rfl ?_
  refine aw_iconst (x := 0) dX10_misfitOfTrial_2 3 rfl rfl ?_
  refine aw_istore dX10_misfitOfTrial_3 5 rfl [(4, .int 0), (3, .int 0), (0, .ref (q_ad G 0 0)), (1, .int x1), (2, .int x2)] (by decide) rfl ?_
  refine aw_conv [2, 3, 4, 1, 0] rfl (TL_X10_misfitOfTrial_5 l G x1 x2  _ _ ?_ ?_ _ 0 0 u0)
  · intro x11 u5
    refine aw_iload_n (i := 3) dX10_misfitOfTrial_84 85 rfl rfl 0 rfl ?_
    exact aw_iret dX10_misfitOfTrial_85 rfl
  · intro u6
    refine aw_bipush (x := (-9)) dX10_misfitOfTrial_37 39 rfl rfl ?_
    exact aw_iret dX10_misfitOfTrial_39 rfl
theorem dX10_bestPull_0 : decode cX10_bestPull 0 = .ok (.bipush (-9), 2) := by decide +kernel
theorem dX10_bestPull_2 : decode cX10_bestPull 2 = .ok (.istore 4, 2) := by decide +kernel
theorem dX10_bestPull_4 : decode cX10_bestPull 4 = .ok (.iconst 1, 1) := by decide +kernel
theorem dX10_bestPull_5 : decode cX10_bestPull 5 = .ok (.istore 5, 2) := by decide +kernel
theorem dX10_bestPull_7 : decode cX10_bestPull 7 = .ok (.iload 5, 2) := by decide +kernel
theorem dX10_bestPull_9 : decode cX10_bestPull 9 = .ok (.bipush 8, 2) := by decide +kernel
theorem dX10_bestPull_11 : decode cX10_bestPull 11 = .ok (.if_icmp .gt 99, 3) := by decide +kernel
theorem dX10_bestPull_14 : decode cX10_bestPull 14 = .ok (.aload_n 0, 1) := by decide +kernel
theorem dX10_bestPull_15 : decode cX10_bestPull 15 = .ok (.getfield 35, 3) := by decide +kernel
theorem dX10_bestPull_18 : decode cX10_bestPull 18 = .ok (.aload_n 0, 1) := by decide +kernel
theorem dX10_bestPull_19 : decode cX10_bestPull 19 = .ok (.getfield 30, 3) := by decide +kernel
theorem dX10_bestPull_22 : decode cX10_bestPull 22 = .ok (.iload_n 1, 1) := by decide +kernel
theorem dX10_bestPull_23 : decode cX10_bestPull 23 = .ok (.aaload, 1) := by decide +kernel
theorem dX10_bestPull_24 : decode cX10_bestPull 24 = .ok (.invokevirtual 272, 3) := by decide +kernel
theorem dX10_bestPull_27 : decode cX10_bestPull 27 = .ok (.aload_n 0, 1) := by decide +kernel
theorem dX10_bestPull_28 : decode cX10_bestPull 28 = .ok (.getfield 35, 3) := by decide +kernel
theorem dX10_bestPull_31 : decode cX10_bestPull 31 = .ok (.getfield 201, 3) := by decide +kernel
theorem dX10_bestPull_34 : decode cX10_bestPull 34 = .ok (.iload 5, 2) := by decide +kernel
theorem dX10_bestPull_36 : decode cX10_bestPull 36 = .ok (.putfield 205, 3) := by decide +kernel
theorem dX10_bestPull_39 : decode cX10_bestPull 39 = .ok (.aload_n 0, 1) := by decide +kernel
theorem dX10_bestPull_40 : decode cX10_bestPull 40 = .ok (.getfield 75, 3) := by decide +kernel
theorem dX10_bestPull_43 : decode cX10_bestPull 43 = .ok (.iload 5, 2) := by decide +kernel
theorem dX10_bestPull_45 : decode cX10_bestPull 45 = .ok (.aload_n 0, 1) := by decide +kernel
theorem dX10_bestPull_46 : decode cX10_bestPull 46 = .ok (.iload_n 2, 1) := by decide +kernel
theorem dX10_bestPull_47 : decode cX10_bestPull 47 = .ok (.iload_n 3, 1) := by decide +kernel
theorem dX10_bestPull_48 : decode cX10_bestPull 48 = .ok (.invokevirtual 439, 3) := by decide +kernel
theorem dX10_bestPull_51 : decode cX10_bestPull 51 = .ok (.iastore, 1) := by decide +kernel
theorem dX10_bestPull_52 : decode cX10_bestPull 52 = .ok (.iload 4, 2) := by decide +kernel
theorem dX10_bestPull_54 : decode cX10_bestPull 54 = .ok (.bipush (-9), 2) := by decide +kernel
theorem dX10_bestPull_56 : decode cX10_bestPull 56 = .ok (.if_icmp .eq 20, 3) := by decide +kernel
theorem dX10_bestPull_59 : decode cX10_bestPull 59 = .ok (.aload_n 0, 1) := by decide +kernel
theorem dX10_bestPull_60 : decode cX10_bestPull 60 = .ok (.getfield 75, 3) := by decide +kernel
theorem dX10_bestPull_63 : decode cX10_bestPull 63 = .ok (.iload 5, 2) := by decide +kernel
theorem dX10_bestPull_65 : decode cX10_bestPull 65 = .ok (.iaload, 1) := by decide +kernel
theorem dX10_bestPull_66 : decode cX10_bestPull 66 = .ok (.aload_n 0, 1) := by decide +kernel
theorem dX10_bestPull_67 : decode cX10_bestPull 67 = .ok (.getfield 75, 3) := by decide +kernel
theorem dX10_bestPull_70 : decode cX10_bestPull 70 = .ok (.iload 4, 2) := by decide +kernel
theorem dX10_bestPull_72 : decode cX10_bestPull 72 = .ok (.iaload, 1) := by decide +kernel
theorem dX10_bestPull_73 : decode cX10_bestPull 73 = .ok (.if_icmp .ge 7, 3) := by decide +kernel
theorem dX10_bestPull_76 : decode cX10_bestPull 76 = .ok (.iconst 1, 1) := by decide +kernel
theorem dX10_bestPull_77 : decode cX10_bestPull 77 = .ok (.goto 4, 3) := by decide +kernel
theorem dX10_bestPull_80 : decode cX10_bestPull 80 = .ok (.iconst 0, 1) := by decide +kernel
theorem dX10_bestPull_81 : decode cX10_bestPull 81 = .ok (.istore 6, 2) := by decide +kernel
theorem dX10_bestPull_83 : decode cX10_bestPull 83 = .ok (.aload_n 0, 1) := by decide +kernel
theorem dX10_bestPull_84 : decode cX10_bestPull 84 = .ok (.getfield 75, 3) := by decide +kernel
theorem dX10_bestPull_87 : decode cX10_bestPull 87 = .ok (.iload 5, 2) := by decide +kernel
theorem dX10_bestPull_89 : decode cX10_bestPull 89 = .ok (.iaload, 1) := by decide +kernel
theorem dX10_bestPull_90 : decode cX10_bestPull 90 = .ok (.bipush (-9), 2) := by decide +kernel
theorem dX10_bestPull_92 : decode cX10_bestPull 92 = .ok (.if_icmp .eq 12, 3) := by decide +kernel
theorem dX10_bestPull_95 : decode cX10_bestPull 95 = .ok (.iload 6, 2) := by decide +kernel
theorem dX10_bestPull_97 : decode cX10_bestPull 97 = .ok (.ifCond .eq 7, 3) := by decide +kernel
theorem dX10_bestPull_100 : decode cX10_bestPull 100 = .ok (.iload 5, 2) := by decide +kernel
theorem dX10_bestPull_102 : decode cX10_bestPull 102 = .ok (.istore 4, 2) := by decide +kernel
theorem dX10_bestPull_104 : decode cX10_bestPull 104 = .ok (.iinc 5 1, 3) := by decide +kernel
theorem dX10_bestPull_107 : decode cX10_bestPull 107 = .ok (.goto (-100), 3) := by decide +kernel
theorem dX10_bestPull_110 : decode cX10_bestPull 110 = .ok (.iload 4, 2) := by decide +kernel
theorem dX10_bestPull_112 : decode cX10_bestPull 112 = .ok (.ireturn, 1) := by decide +kernel
noncomputable def L_X10_bestPull_7 (x1 : Int32) (x2 : Int32) (x3 : Int32) : Nat → Int32 → Int32 → qM → (Int32 → qM → Option (Int32 × qM)) → Option (Int32 × qM)
  | 0, _, _, _, _ => none
  | n + 1, x4, x5, u1, e1 => if 8 < x5 then e1 x4 u1 else q_ck (q_in x1 6) (q_bd (f_X0_takeOver 6 (Int32.toNatClampNeg x1) u1) (fun (_z : Unit) (u2 : qM) => q_lt (q_si u2 3 6 0 x5) (fun (u3 : qM) => q_bd (f_X10_misfitOfTrial x2 x3 u3) (fun (x6 : Int32) (u4 : qM) => q_ck (q_in x5 9) (q_lt (q_si u4 35 0 (Int32.toNatClampNeg x5) x6) (fun (u5 : qM) => q_jn (fun (x7 : Int32) (u6 : qM) => q_ck (q_in x5 9) (q_jn (fun (x8 : Int32) (u7 : qM) => q_lt (x5 + 1) (fun (x9 : Int32) => L_X10_bestPull_7 x1 x2 x3 n x8 x9 u7 e1)) (fun j2 => if (u6.1 35 0 (Int32.toNatClampNeg x5)) = (-9) then j2 x4 u6 else if x7 = 0 then j2 x4 u6 else j2 x5 u6))) (fun j1 => q_jn (fun  (u8 : qM) => j1 1 u8) (fun j3 => if x4 = (-9) then j3 u5 else q_ck (q_in x5 9) (q_ck (q_in x4 9) (if (u5.1 35 0 (Int32.toNatClampNeg x4)) ≤ (u5.1 35 0 (Int32.toNatClampNeg x5)) then j1 0 u5 else j3 u5))))))))))
noncomputable def f_X10_bestPull (x1 : Int32) (x2 : Int32) (x3 : Int32) (u0 : qM) : Option (Int32 × qM) :=
  L_X10_bestPull_7 x1 x2 x3 q_fu (-9) 1 u0 (fun x10 u9 => some (x10, u9))
set_option maxRecDepth 100000 in
set_option maxHeartbeats 4000000 in
theorem TL_X10_bestPull_7 (l : Launch) (G : qG) (x1 : Int32) (x2 : Int32) (x3 : Int32)  (e1 : Int32 → qM → Option (Int32 × qM)) (he1 : ∀ (y1 : Int32) (v : qM), qAW l G m_X10_bestPull (q_mq G q_cI) 110 [(4, .int y1)] [] v (e1 y1 v)) : ∀ (n : Nat) (x4 : Int32) (x5 : Int32) (u1 : qM), qAW l G m_X10_bestPull (q_mq G q_cI) 7 [(0, .ref (q_ad G 0 0)), (1, .int x1), (2, .int x2), (3, .int x3), (4, .int x4), (5, .int x5)] [] u1 (L_X10_bestPull_7 x1 x2 x3 n x4 x5 u1 e1) := by
  intro n
  induction n with
  | zero => intros; exact aw_none
  | succ n ih =>
    intro x4 x5 u1
    unfold L_X10_bestPull_7
    refine aw_iload (i := 5) dX10_bestPull_7 9 rfl 5 rfl ?_
    refine aw_bipush (x := 8) dX10_bestPull_9 11 rfl rfl ?_
    refine aw_icmp_gt dX10_bestPull_11 14 rfl 110 rfl (fun h1 => ?_) (fun h1 => ?_)
    · exact aw_conv [4] rfl (he1 x4 u1)
    · refine aw_aload_n (i := 0) dX10_bestPull_14 15 rfl rfl 0 rfl ?_
      refine gf_X10_5 dX10_bestPull_15 18 rfl wd_191 (ok_0 (by decide)) ?_
      refine aw_aload_n (i := 0) dX10_bestPull_18 19 rfl rfl 0 rfl ?_
      refine gf_X10_4 dX10_bestPull_19 22 rfl wd_145 (ok_0 (by decide)) ?_
      refine aw_iload_n (i := 1) dX10_bestPull_22 23 rfl rfl 1 rfl ?_
      refine aw_aald dX10_bestPull_23 24 rfl at_21 (by decide) (by decide) rfl rfl (al_21 _) (ok_21 (by decide)) rfl (fun h2 => ?_)
      refine aw_callV (M2 := m_X0_takeOver) (cv := q_cU) dX10_bestPull_24 27 rfl (k_X0_takeOver l G 6 (Int32.toNatClampNeg x1) (by decide) (Nat.lt_of_lt_of_le (q_in_lt h2) (by decide)) u1) wd_173 wv_X0_takeOver pk_X0_takeOver rfl rfl ⟨by decide, by decide⟩ ⟨Nat.zero_le _, Nat.zero_le _⟩ at_2 (ok_2 (by decide)) rfl rfl rfl (Nat.le_of_ble_eq_true rfl) (fun _z u2 => ?_)
      show qAW l G m_X10_bestPull (q_mq G q_cI) 27 [(0, .ref (q_ad G 0 0)), (1, .int x1), (2, .int x2), (3, .int x3), (4, .int x4), (5, .int x5)] [] u2 _
      refine aw_aload_n (i := 0) dX10_bestPull_27 28 rfl rfl 0 rfl ?_
      refine gf_X10_5 dX10_bestPull_28 31 rfl wd_191 (ok_0 (by decide)) ?_
      refine gfN_X0_5 dX10_bestPull_31 34 rfl "SeaCells" (ns_41) (ok_2 (by decide)) ?_
      refine aw_iload (i := 5) dX10_bestPull_34 36 rfl 5 rfl ?_
      refine pfN_X3_0 dX10_bestPull_36 39 rfl "SeaCells" (ns_6) (ok_3 (by decide)) ?_
      refine aw_ltm (fun u3 => ?_)
      refine aw_aload_n (i := 0) dX10_bestPull_39 40 rfl rfl 0 rfl ?_
      refine gf_X10_12 dX10_bestPull_40 43 rfl wd_193 (ok_0 (by decide)) ?_
      refine aw_iload (i := 5) dX10_bestPull_43 45 rfl 5 rfl ?_
      refine aw_aload_n (i := 0) dX10_bestPull_45 46 rfl rfl 0 rfl ?_
      refine aw_iload_n (i := 2) dX10_bestPull_46 47 rfl rfl 2 rfl ?_
      refine aw_iload_n (i := 3) dX10_bestPull_47 48 rfl rfl 3 rfl ?_
      refine aw_callV (M2 := m_X10_misfitOfTrial) (cv := q_cI) dX10_bestPull_48 51 rfl (k_X10_misfitOfTrial l G x2 x3  u3) wd_194 wv_X10_misfitOfTrial pk_X10_misfitOfTrial rfl rfl ⟨by decide, by decide⟩ ⟨Nat.zero_le _, Nat.zero_le _⟩ at_0 (ok_0 (by decide)) rfl rfl rfl (Nat.le_of_ble_eq_true rfl) (fun x6 u4 => ?_)
      show qAW l G m_X10_bestPull (q_mq G q_cI) 51 [(0, .ref (q_ad G 0 0)), (1, .int x1), (2, .int x2), (3, .int x3), (4, .int x4), (5, .int x5)] [.int x6, .int x5, .ref (q_ad G 35 0)] u4 _
      refine aw_iast dX10_bestPull_51 52 rfl at_35 (al_35 _) (ok_35 (by decide)) (fun h3 => ?_)
      refine aw_ltm (fun u5 => ?_)
      refine aw_iload (i := 4) dX10_bestPull_52 54 rfl 4 rfl ?_
      refine aw_bipush (x := (-9)) dX10_bestPull_54 56 rfl rfl ?_
      refine aw_jn (fun k => ∀ (x7 : Int32) (u6 : qM), qAW l G m_X10_bestPull (q_mq G q_cI) 81 [(0, .ref (q_ad G 0 0)), (1, .int x1), (2, .int x2), (3, .int x3), (4, .int x4), (5, .int x5)] [.int x7] u6 (k x7 u6)) ?_ ?_
      · intro x7 u6
        refine aw_istore dX10_bestPull_81 83 rfl [(6, .int x7), (0, .ref (q_ad G 0 0)), (1, .int x1), (2, .int x2), (3, .int x3), (4, .int x4), (5, .int x5)] (by decide) rfl ?_
        refine aw_aload_n (i := 0) dX10_bestPull_83 84 rfl rfl 1 rfl ?_
        refine gf_X10_12 dX10_bestPull_84 87 rfl wd_193 (ok_0 (by decide)) ?_
        refine aw_iload (i := 5) dX10_bestPull_87 89 rfl 6 rfl ?_
        refine aw_iald dX10_bestPull_89 90 rfl at_35 (al_35 _) (ok_35 (by decide)) (fun h5 => ?_)
        refine aw_bipush (x := (-9)) dX10_bestPull_90 92 rfl rfl ?_
        refine aw_jn (fun k => ∀ (x8 : Int32) (u7 : qM), qAW l G m_X10_bestPull (q_mq G q_cI) 104 [(0, .ref (q_ad G 0 0)), (1, .int x1), (2, .int x2), (3, .int x3), (4, .int x8), (5, .int x5)] [] u7 (k x8 u7)) ?_ ?_
        · intro x8 u7
          refine aw_iincx (i := 5) dX10_bestPull_104 107 rfl 5 rfl 1 rfl (fun x9 => [(5, .int x9), (0, .ref (q_ad G 0 0)), (1, .int x1), (2, .int x2), (3, .int x3), (4, .int x8)]) (by decide) (fun _ => rfl) (fun x9 => ?_)
          refine aw_goto dX10_bestPull_107 7 rfl ?_
          exact aw_conv [1, 2, 3, 4, 5, 0] rfl (ih x8 x9 u7)
        · intro j2 hj2
          refine aw_icmp_eq dX10_bestPull_92 95 rfl 104 rfl (fun h6 => ?_) (fun h6 => ?_)
          · exact aw_conv [1, 2, 3, 4, 5, 6] rfl (hj2 x4 u6)
          · refine aw_iload (i := 6) dX10_bestPull_95 97 rfl 0 rfl ?_
            refine aw_if_eq dX10_bestPull_97 100 rfl 104 rfl (fun h7 => ?_) (fun h7 => ?_)
            · exact aw_conv [1, 2, 3, 4, 5, 6] rfl (hj2 x4 u6)
            · refine aw_iload (i := 5) dX10_bestPull_100 102 rfl 6 rfl ?_
              refine aw_istore dX10_bestPull_102 104 rfl [(4, .int x5), (6, .int x7), (0, .ref (q_ad G 0 0)), (1, .int x1), (2, .int x2), (3, .int x3), (5, .int x5)] (by decide) rfl ?_
              exact aw_conv [2, 3, 4, 5, 0, 6] rfl (hj2 x5 u6)
      · intro j1 hj1
        refine aw_jn (fun k => ∀  (u8 : qM), qAW l G m_X10_bestPull (q_mq G q_cI) 76 [(0, .ref (q_ad G 0 0)), (1, .int x1), (2, .int x2), (3, .int x3), (4, .int x4), (5, .int x5)] [] u8 (k u8)) ?_ ?_
        · intro u8
          refine aw_iconst (x := 1) dX10_bestPull_76 77 rfl rfl ?_
          refine aw_goto dX10_bestPull_77 81 rfl ?_
          exact hj1 1 u8
        · intro j3 hj3
          refine aw_icmp_eq dX10_bestPull_56 59 rfl 76 rfl (fun h4 => ?_) (fun h4 => ?_)
          · exact hj3 u5
          · refine aw_aload_n (i := 0) dX10_bestPull_59 60 rfl rfl 0 rfl ?_
            refine gf_X10_12 dX10_bestPull_60 63 rfl wd_193 (ok_0 (by decide)) ?_
            refine aw_iload (i := 5) dX10_bestPull_63 65 rfl 5 rfl ?_
            refine aw_iald dX10_bestPull_65 66 rfl at_35 (al_35 _) (ok_35 (by decide)) (fun h8 => ?_)
            refine aw_aload_n (i := 0) dX10_bestPull_66 67 rfl rfl 0 rfl ?_
            refine gf_X10_12 dX10_bestPull_67 70 rfl wd_193 (ok_0 (by decide)) ?_
            refine aw_iload (i := 4) dX10_bestPull_70 72 rfl 4 rfl ?_
            refine aw_iald dX10_bestPull_72 73 rfl at_35 (al_35 _) (ok_35 (by decide)) (fun h9 => ?_)
            refine aw_icmp_ge dX10_bestPull_73 76 rfl 80 rfl (fun h10 => ?_) (fun h10 => ?_)
            · refine aw_iconst (x := 0) dX10_bestPull_80 81 rfl rfl ?_
              exact hj1 0 u5
            · exact hj3 u5
set_option maxRecDepth 100000 in
set_option maxHeartbeats 4000000 in
theorem k_X10_bestPull (l : Launch) (G : qG) (x1 : Int32) (x2 : Int32) (x3 : Int32)  (u0 : qM) : qCt l G m_X10_bestPull q_cI [.ref (q_ad G 0 0), .int x1, .int x2, .int x3] u0 (f_X10_bestPull x1 x2 x3 u0) := by
  refine q_entry pk_X10_bestPull (Nat.le_of_ble_eq_true rfl) ?_
  show qAW l G m_X10_bestPull (q_mq G q_cI) 0 [(0, .ref (q_ad G 0 0)), (1, .int x1), (2, .int x2), (3, .int x3)] [] u0 (f_X10_bestPull x1 x2 x3 u0)
  unfold f_X10_bestPull
  refine aw_bipush (x := (-9)) dX10_bestPull_0 2 rfl rfl ?_
  refine aw_istore dX10_bestPull_2 4 rfl [(4, .int (-9)), (0, .ref (q_ad G 0 0)), (1, .int x1), (2, .int x2), (3, .int x3)] (by decide) rfl ?_
  refine aw_iconst (x := 1) dX10_bestPull_4 5 rfl rfl ?_
  refine aw_istore dX10_bestPull_5 7 rfl [(5, .int 1), (4, .int (-9)), (0, .ref (q_ad G 0 0)), (1, .int x1), (2, .int x2), (3, .int x3)] (by decide) rfl ?_
  refine aw_conv [2, 3, 4, 5, 1, 0] rfl (TL_X10_bestPull_7 l G x1 x2 x3  _ ?_ _ (-9) 1 u0)
  · intro x10 u9
    refine aw_iload (i := 4) dX10_bestPull_110 112 rfl 0 rfl ?_
    exact aw_iret dX10_bestPull_112 rfl
theorem dX10_fitRefused_0 : decode cX10_fitRefused 0 = .ok (.iload_n 1, 1) := by decide +kernel
theorem dX10_fitRefused_1 : decode cX10_fitRefused 1 = .ok (.ifCond .eq 10, 3) := by decide +kernel
theorem dX10_fitRefused_4 : decode cX10_fitRefused 4 = .ok (.iload_n 2, 1) := by decide +kernel
theorem dX10_fitRefused_5 : decode cX10_fitRefused 5 = .ok (.invokestatic 157, 3) := by decide +kernel
theorem dX10_fitRefused_8 : decode cX10_fitRefused 8 = .ok (.ifCond .ne 5, 3) := by decide +kernel
theorem dX10_fitRefused_11 : decode cX10_fitRefused 11 = .ok (.iconst (-1), 1) := by decide +kernel
theorem dX10_fitRefused_12 : decode cX10_fitRefused 12 = .ok (.ireturn, 1) := by decide +kernel
theorem dX10_fitRefused_13 : decode cX10_fitRefused 13 = .ok (.aload_n 0, 1) := by decide +kernel
theorem dX10_fitRefused_14 : decode cX10_fitRefused 14 = .ok (.getfield 30, 3) := by decide +kernel
theorem dX10_fitRefused_17 : decode cX10_fitRefused 17 = .ok (.iload_n 2, 1) := by decide +kernel
theorem dX10_fitRefused_18 : decode cX10_fitRefused 18 = .ok (.aaload, 1) := by decide +kernel
theorem dX10_fitRefused_19 : decode cX10_fitRefused 19 = .ok (.getfield 305, 3) := by decide +kernel
theorem dX10_fitRefused_22 : decode cX10_fitRefused 22 = .ok (.ifCond .eq 15, 3) := by decide +kernel
theorem dX10_fitRefused_25 : decode cX10_fitRefused 25 = .ok (.aload_n 0, 1) := by decide +kernel
theorem dX10_fitRefused_26 : decode cX10_fitRefused 26 = .ok (.getfield 14, 3) := by decide +kernel
theorem dX10_fitRefused_29 : decode cX10_fitRefused 29 = .ok (.iload 4, 2) := by decide +kernel
theorem dX10_fitRefused_31 : decode cX10_fitRefused 31 = .ok (.invokevirtual 105, 3) := by decide +kernel
theorem dX10_fitRefused_34 : decode cX10_fitRefused 34 = .ok (.ifCond .ne 9, 3) := by decide +kernel
theorem dX10_fitRefused_37 : decode cX10_fitRefused 37 = .ok (.aload_n 0, 1) := by decide +kernel
theorem dX10_fitRefused_38 : decode cX10_fitRefused 38 = .ok (.iconst 1, 1) := by decide +kernel
theorem dX10_fitRefused_39 : decode cX10_fitRefused 39 = .ok (.invokevirtual 91, 3) := by decide +kernel
theorem dX10_fitRefused_42 : decode cX10_fitRefused 42 = .ok (.ireturn, 1) := by decide +kernel
theorem dX10_fitRefused_43 : decode cX10_fitRefused 43 = .ok (.aload_n 0, 1) := by decide +kernel
theorem dX10_fitRefused_44 : decode cX10_fitRefused 44 = .ok (.getfield 30, 3) := by decide +kernel
theorem dX10_fitRefused_47 : decode cX10_fitRefused 47 = .ok (.iload_n 2, 1) := by decide +kernel
theorem dX10_fitRefused_48 : decode cX10_fitRefused 48 = .ok (.aaload, 1) := by decide +kernel
theorem dX10_fitRefused_49 : decode cX10_fitRefused 49 = .ok (.iload_n 3, 1) := by decide +kernel
theorem dX10_fitRefused_50 : decode cX10_fitRefused 50 = .ok (.invokevirtual 228, 3) := by decide +kernel
theorem dX10_fitRefused_53 : decode cX10_fitRefused 53 = .ok (.ifCond .ne 9, 3) := by decide +kernel
theorem dX10_fitRefused_56 : decode cX10_fitRefused 56 = .ok (.aload_n 0, 1) := by decide +kernel
theorem dX10_fitRefused_57 : decode cX10_fitRefused 57 = .ok (.iconst 2, 1) := by decide +kernel
theorem dX10_fitRefused_58 : decode cX10_fitRefused 58 = .ok (.invokevirtual 91, 3) := by decide +kernel
theorem dX10_fitRefused_61 : decode cX10_fitRefused 61 = .ok (.ireturn, 1) := by decide +kernel
theorem dX10_fitRefused_62 : decode cX10_fitRefused 62 = .ok (.aload_n 0, 1) := by decide +kernel
theorem dX10_fitRefused_63 : decode cX10_fitRefused 63 = .ok (.iload 4, 2) := by decide +kernel
theorem dX10_fitRefused_65 : decode cX10_fitRefused 65 = .ok (.invokevirtual 133, 3) := by decide +kernel
theorem dX10_fitRefused_68 : decode cX10_fitRefused 68 = .ok (.ifCond .ne 11, 3) := by decide +kernel
theorem dX10_fitRefused_71 : decode cX10_fitRefused 71 = .ok (.aload_n 0, 1) := by decide +kernel
theorem dX10_fitRefused_72 : decode cX10_fitRefused 72 = .ok (.iconst 4, 1) := by decide +kernel
theorem dX10_fitRefused_73 : decode cX10_fitRefused 73 = .ok (.invokevirtual 91, 3) := by decide +kernel
theorem dX10_fitRefused_76 : decode cX10_fitRefused 76 = .ok (.goto 4, 3) := by decide +kernel
theorem dX10_fitRefused_79 : decode cX10_fitRefused 79 = .ok (.iconst 0, 1) := by decide +kernel
theorem dX10_fitRefused_80 : decode cX10_fitRefused 80 = .ok (.ireturn, 1) := by decide +kernel
noncomputable def f_X10_fitRefused (x1 : Int32) (x2 : Int32) (x3 : Int32) (x4 : Int32) (u0 : qM) : Option (Int32 × qM) :=
  q_jn (fun  (u1 : qM) => some ((-1), u1)) (fun j1 => if x1 = 0 then j1 u0 else q_bd (f_X10_isBoard x2 u0) (fun (x5 : Int32) (u2 : qM) => if x5 = 0 then j1 u2 else q_ck (q_in x2 6) (q_jn (fun  (u3 : qM) => q_bd (f_X10_found 1 u3) (fun (x6 : Int32) (u4 : qM) => some (x6, u4))) (fun j2 => if (u2.1 2 (Int32.toNatClampNeg x2) 10) = 0 then j2 u2 else q_bd (f_X7_isThere 0 x4 u2) (fun (x7 : Int32) (u5 : qM) => if x7 = 0 then j2 u5 else q_ck (q_in x2 6) (q_bd (f_X0_hasCell (Int32.toNatClampNeg x2) x3 u5) (fun (x8 : Int32) (u6 : qM) => if x8 = 0 then q_bd (f_X10_found 2 u6) (fun (x12 : Int32) (u10 : qM) => some (x12, u10)) else q_bd (f_X10_knownPlaces x4 u6) (fun (x9 : Int32) (u7 : qM) => q_jn (fun (x10 : Int32) (u8 : qM) => some (x10, u8)) (fun j3 => if x9 = 0 then q_bd (f_X10_found 4 u7) (fun (x11 : Int32) (u9 : qM) => j3 x11 u9) else j3 0 u7)))))))))
set_option maxRecDepth 100000 in
set_option maxHeartbeats 4000000 in
theorem k_X10_fitRefused (l : Launch) (G : qG) (x1 : Int32) (x2 : Int32) (x3 : Int32) (x4 : Int32)  (u0 : qM) : qCt l G m_X10_fitRefused q_cI [.ref (q_ad G 0 0), .int x1, .int x2, .int x3, .int x4] u0 (f_X10_fitRefused x1 x2 x3 x4 u0) := by
  refine q_entry pk_X10_fitRefused (Nat.le_of_ble_eq_true rfl) ?_
  show qAW l G m_X10_fitRefused (q_mq G q_cI) 0 [(0, .ref (q_ad G 0 0)), (1, .int x1), (2, .int x2), (3, .int x3), (4, .int x4)] [] u0 (f_X10_fitRefused x1 x2 x3 x4 u0)
  unfold f_X10_fitRefused
  refine aw_iload_n (i := 1) dX10_fitRefused_0 1 rfl rfl 1 rfl ?_
  refine aw_jn (fun k => ∀  (u1 : qM), qAW l G m_X10_fitRefused (q_mq G q_cI) 11 [] [] u1 (k u1)) ?_ ?_
  · intro u1
    refine aw_iconst (x := (-1)) dX10_fitRefused_11 12 rfl rfl ?_
    exact aw_iret dX10_fitRefused_12 rfl
  · intro j1 hj1
    refine aw_if_eq dX10_fitRefused_1 4 rfl 11 rfl (fun h1 => ?_) (fun h1 => ?_)
    · exact aw_conv [] rfl (hj1 u0)
    · refine aw_iload_n (i := 2) dX10_fitRefused_4 5 rfl rfl 2 rfl ?_
      refine aw_callS (M2 := m_X10_isBoard) (cv := q_cI) dX10_fitRefused_5 8 rfl (k_X10_isBoard l G x2  u0) wd_146 wv_X10_isBoard pk_X10_isBoard rfl ⟨by decide, by decide⟩ ⟨Nat.zero_le _, Nat.zero_le _⟩ rfl (Nat.le_of_ble_eq_true rfl) (fun x5 u2 => ?_)
      show qAW l G m_X10_fitRefused (q_mq G q_cI) 8 [(0, .ref (q_ad G 0 0)), (1, .int x1), (2, .int x2), (3, .int x3), (4, .int x4)] [.int x5] u2 _
      refine aw_if_ne dX10_fitRefused_8 11 rfl 13 rfl (fun h2 => ?_) (fun h2 => ?_)
      · refine aw_aload_n (i := 0) dX10_fitRefused_13 14 rfl rfl 0 rfl ?_
        refine gf_X10_4 dX10_fitRefused_14 17 rfl wd_145 (ok_0 (by decide)) ?_
        refine aw_iload_n (i := 2) dX10_fitRefused_17 18 rfl rfl 2 rfl ?_
        refine aw_aald dX10_fitRefused_18 19 rfl at_21 (by decide) (by decide) rfl rfl (al_21 _) (ok_21 (by decide)) rfl (fun h3 => ?_)
        refine gfN_X0_10 dX10_fitRefused_19 22 rfl "SeaCells" (ns_47) (ok_2 (Nat.lt_of_lt_of_le (q_in_lt h3) (by decide))) ?_
        refine aw_jn (fun k => ∀  (u3 : qM), qAW l G m_X10_fitRefused (q_mq G q_cI) 37 [(0, .ref (q_ad G 0 0))] [] u3 (k u3)) ?_ ?_
        · intro u3
          refine aw_aload_n (i := 0) dX10_fitRefused_37 38 rfl rfl 0 rfl ?_
          refine aw_iconst (x := 1) dX10_fitRefused_38 39 rfl rfl ?_
          refine aw_callV (M2 := m_X10_found) (cv := q_cI) dX10_fitRefused_39 42 rfl (k_X10_found l G 1  u3) wd_128 wv_X10_found pk_X10_found rfl rfl ⟨by decide, by decide⟩ ⟨Nat.zero_le _, Nat.zero_le _⟩ at_0 (ok_0 (by decide)) rfl rfl rfl (Nat.le_of_ble_eq_true rfl) (fun x6 u4 => ?_)
          show qAW l G m_X10_fitRefused (q_mq G q_cI) 42 [(0, .ref (q_ad G 0 0))] [.int x6] u4 _
          exact aw_iret dX10_fitRefused_42 rfl
        · intro j2 hj2
          refine aw_if_eq dX10_fitRefused_22 25 rfl 37 rfl (fun h4 => ?_) (fun h4 => ?_)
          · exact aw_conv [0] rfl (hj2 u2)
          · refine aw_aload_n (i := 0) dX10_fitRefused_25 26 rfl rfl 0 rfl ?_
            refine gf_X10_0 dX10_fitRefused_26 29 rfl wd_125 (ok_0 (by decide)) ?_
            refine aw_iload (i := 4) dX10_fitRefused_29 31 rfl 4 rfl ?_
            refine aw_callV (M2 := m_X7_isThere) (cv := q_cI) dX10_fitRefused_31 34 rfl (k_X7_isThere l G 0 x4 (by decide) u2) wd_132 wv_X7_isThere pk_X7_isThere rfl rfl ⟨by decide, by decide⟩ ⟨Nat.zero_le _, Nat.zero_le _⟩ at_1 (ok_1 (by decide)) rfl rfl rfl (Nat.le_of_ble_eq_true rfl) (fun x7 u5 => ?_)
            show qAW l G m_X10_fitRefused (q_mq G q_cI) 34 [(0, .ref (q_ad G 0 0)), (1, .int x1), (2, .int x2), (3, .int x3), (4, .int x4)] [.int x7] u5 _
            refine aw_if_ne dX10_fitRefused_34 37 rfl 43 rfl (fun h5 => ?_) (fun h5 => ?_)
            · refine aw_aload_n (i := 0) dX10_fitRefused_43 44 rfl rfl 0 rfl ?_
              refine gf_X10_4 dX10_fitRefused_44 47 rfl wd_145 (ok_0 (by decide)) ?_
              refine aw_iload_n (i := 2) dX10_fitRefused_47 48 rfl rfl 2 rfl ?_
              refine aw_aald dX10_fitRefused_48 49 rfl at_21 (by decide) (by decide) rfl rfl (al_21 _) (ok_21 (by decide)) rfl (fun h6 => ?_)
              refine aw_iload_n (i := 3) dX10_fitRefused_49 50 rfl rfl 3 rfl ?_
              refine aw_callV (M2 := m_X0_hasCell) (cv := q_cI) dX10_fitRefused_50 53 rfl (k_X0_hasCell l G (Int32.toNatClampNeg x2) x3 (Nat.lt_of_lt_of_le (q_in_lt h6) (by decide)) u5) wd_155 wv_X0_hasCell pk_X0_hasCell rfl rfl ⟨by decide, by decide⟩ ⟨Nat.zero_le _, Nat.zero_le _⟩ at_2 (ok_2 (Nat.lt_of_lt_of_le (q_in_lt h6) (by decide))) rfl rfl rfl (Nat.le_of_ble_eq_true rfl) (fun x8 u6 => ?_)
              show qAW l G m_X10_fitRefused (q_mq G q_cI) 53 [(0, .ref (q_ad G 0 0)), (1, .int x1), (2, .int x2), (3, .int x3), (4, .int x4)] [.int x8] u6 _
              refine aw_if_ne dX10_fitRefused_53 56 rfl 62 rfl (fun h7 => ?_) (fun h7 => ?_)
              · refine aw_aload_n (i := 0) dX10_fitRefused_62 63 rfl rfl 0 rfl ?_
                refine aw_iload (i := 4) dX10_fitRefused_63 65 rfl 4 rfl ?_
                refine aw_callV (M2 := m_X10_knownPlaces) (cv := q_cI) dX10_fitRefused_65 68 rfl (k_X10_knownPlaces l G x4  u6) wd_139 wv_X10_knownPlaces pk_X10_knownPlaces rfl rfl ⟨by decide, by decide⟩ ⟨Nat.zero_le _, Nat.zero_le _⟩ at_0 (ok_0 (by decide)) rfl rfl rfl (Nat.le_of_ble_eq_true rfl) (fun x9 u7 => ?_)
                show qAW l G m_X10_fitRefused (q_mq G q_cI) 68 [(0, .ref (q_ad G 0 0)), (1, .int x1), (2, .int x2), (3, .int x3), (4, .int x4)] [.int x9] u7 _
                refine aw_jn (fun k => ∀ (x10 : Int32) (u8 : qM), qAW l G m_X10_fitRefused (q_mq G q_cI) 80 [] [.int x10] u8 (k x10 u8)) ?_ ?_
                · intro x10 u8
                  exact aw_iret dX10_fitRefused_80 rfl
                · intro j3 hj3
                  refine aw_if_ne dX10_fitRefused_68 71 rfl 79 rfl (fun h8 => ?_) (fun h8 => ?_)
                  · refine aw_iconst (x := 0) dX10_fitRefused_79 80 rfl rfl ?_
                    exact aw_conv [] rfl (hj3 0 u7)
                  · refine aw_aload_n (i := 0) dX10_fitRefused_71 72 rfl rfl 0 rfl ?_
                    refine aw_iconst (x := 4) dX10_fitRefused_72 73 rfl rfl ?_
                    refine aw_callV (M2 := m_X10_found) (cv := q_cI) dX10_fitRefused_73 76 rfl (k_X10_found l G 4  u7) wd_128 wv_X10_found pk_X10_found rfl rfl ⟨by decide, by decide⟩ ⟨Nat.zero_le _, Nat.zero_le _⟩ at_0 (ok_0 (by decide)) rfl rfl rfl (Nat.le_of_ble_eq_true rfl) (fun x11 u9 => ?_)
                    show qAW l G m_X10_fitRefused (q_mq G q_cI) 76 [(0, .ref (q_ad G 0 0)), (1, .int x1), (2, .int x2), (3, .int x3), (4, .int x4)] [.int x11] u9 _
                    refine aw_goto dX10_fitRefused_76 80 rfl ?_
                    exact aw_conv [] rfl (hj3 x11 u9)
              · refine aw_aload_n (i := 0) dX10_fitRefused_56 57 rfl rfl 0 rfl ?_
                refine aw_iconst (x := 2) dX10_fitRefused_57 58 rfl rfl ?_
                refine aw_callV (M2 := m_X10_found) (cv := q_cI) dX10_fitRefused_58 61 rfl (k_X10_found l G 2  u6) wd_128 wv_X10_found pk_X10_found rfl rfl ⟨by decide, by decide⟩ ⟨Nat.zero_le _, Nat.zero_le _⟩ at_0 (ok_0 (by decide)) rfl rfl rfl (Nat.le_of_ble_eq_true rfl) (fun x12 u10 => ?_)
                show qAW l G m_X10_fitRefused (q_mq G q_cI) 61 [(0, .ref (q_ad G 0 0)), (1, .int x1), (2, .int x2), (3, .int x3), (4, .int x4)] [.int x12] u10 _
                exact aw_iret dX10_fitRefused_61 rfl
            · exact aw_conv [0] rfl (hj2 u5)
      · exact aw_conv [] rfl (hj1 u2)
theorem dX10_fit_0 : decode cX10_fit 0 = .ok (.aload_n 0, 1) := by decide +kernel
theorem dX10_fit_1 : decode cX10_fit 1 = .ok (.aload_n 0, 1) := by decide +kernel
theorem dX10_fit_2 : decode cX10_fit 2 = .ok (.getfield 14, 3) := by decide +kernel
theorem dX10_fit_5 : decode cX10_fit 5 = .ok (.iload_n 3, 1) := by decide +kernel
theorem dX10_fit_6 : decode cX10_fit 6 = .ok (.invokevirtual 87, 3) := by decide +kernel
theorem dX10_fit_9 : decode cX10_fit 9 = .ok (.iload_n 1, 1) := by decide +kernel
theorem dX10_fit_10 : decode cX10_fit 10 = .ok (.iload_n 2, 1) := by decide +kernel
theorem dX10_fit_11 : decode cX10_fit 11 = .ok (.iload_n 3, 1) := by decide +kernel
theorem dX10_fit_12 : decode cX10_fit 12 = .ok (.invokevirtual 392, 3) := by decide +kernel
theorem dX10_fit_15 : decode cX10_fit 15 = .ok (.istore 4, 2) := by decide +kernel
theorem dX10_fit_17 : decode cX10_fit 17 = .ok (.iload 4, 2) := by decide +kernel
theorem dX10_fit_19 : decode cX10_fit 19 = .ok (.ifCond .eq 6, 3) := by decide +kernel
theorem dX10_fit_22 : decode cX10_fit 22 = .ok (.iload 4, 2) := by decide +kernel
theorem dX10_fit_24 : decode cX10_fit 24 = .ok (.ireturn, 1) := by decide +kernel
theorem dX10_fit_25 : decode cX10_fit 25 = .ok (.aload_n 0, 1) := by decide +kernel
theorem dX10_fit_26 : decode cX10_fit 26 = .ok (.iload_n 1, 1) := by decide +kernel
theorem dX10_fit_27 : decode cX10_fit 27 = .ok (.iload_n 2, 1) := by decide +kernel
theorem dX10_fit_28 : decode cX10_fit 28 = .ok (.iload_n 3, 1) := by decide +kernel
theorem dX10_fit_29 : decode cX10_fit 29 = .ok (.invokevirtual 396, 3) := by decide +kernel
theorem dX10_fit_32 : decode cX10_fit 32 = .ok (.istore 5, 2) := by decide +kernel
theorem dX10_fit_34 : decode cX10_fit 34 = .ok (.iload 5, 2) := by decide +kernel
theorem dX10_fit_36 : decode cX10_fit 36 = .ok (.bipush (-9), 2) := by decide +kernel
theorem dX10_fit_38 : decode cX10_fit 38 = .ok (.if_icmp .ne 6, 3) := by decide +kernel
theorem dX10_fit_41 : decode cX10_fit 41 = .ok (.bipush (-9), 2) := by decide +kernel
theorem dX10_fit_43 : decode cX10_fit 43 = .ok (.ireturn, 1) := by decide +kernel
theorem dX10_fit_44 : decode cX10_fit 44 = .ok (.aload_n 0, 1) := by decide +kernel
theorem dX10_fit_45 : decode cX10_fit 45 = .ok (.aload_n 0, 1) := by decide +kernel
theorem dX10_fit_46 : decode cX10_fit 46 = .ok (.getfield 75, 3) := by decide +kernel
theorem dX10_fit_49 : decode cX10_fit 49 = .ok (.iload 5, 2) := by decide +kernel
theorem dX10_fit_51 : decode cX10_fit 51 = .ok (.iaload, 1) := by decide +kernel
theorem dX10_fit_52 : decode cX10_fit 52 = .ok (.putfield 116, 3) := by decide +kernel
theorem dX10_fit_55 : decode cX10_fit 55 = .ok (.iload 5, 2) := by decide +kernel
theorem dX10_fit_57 : decode cX10_fit 57 = .ok (.ireturn, 1) := by decide +kernel
noncomputable def f_X10_fit (x1 : Int32) (x2 : Int32) (x3 : Int32) (u0 : qM) : Option (Int32 × qM) :=
  q_bd (f_X7_isNumber 0 x3 u0) (fun (x4 : Int32) (u1 : qM) => q_bd (f_X10_fitRefused x4 x1 x2 x3 u1) (fun (x5 : Int32) (u2 : qM) => if x5 = 0 then q_bd (f_X10_bestPull x1 x2 x3 u2) (fun (x6 : Int32) (u3 : qM) => if x6 = (-9) then some ((-9), u3) else q_ck (q_in x6 9) (q_lt (q_si u3 0 0 15 (u3.1 35 0 (Int32.toNatClampNeg x6))) (fun (u4 : qM) => some (x6, u4)))) else some (x5, u2)))
set_option maxRecDepth 100000 in
set_option maxHeartbeats 4000000 in
theorem k_X10_fit (l : Launch) (G : qG) (x1 : Int32) (x2 : Int32) (x3 : Int32)  (u0 : qM) : qCt l G m_X10_fit q_cI [.ref (q_ad G 0 0), .int x1, .int x2, .int x3] u0 (f_X10_fit x1 x2 x3 u0) := by
  refine q_entry pk_X10_fit (Nat.le_of_ble_eq_true rfl) ?_
  show qAW l G m_X10_fit (q_mq G q_cI) 0 [(0, .ref (q_ad G 0 0)), (1, .int x1), (2, .int x2), (3, .int x3)] [] u0 (f_X10_fit x1 x2 x3 u0)
  unfold f_X10_fit
  refine aw_aload_n (i := 0) dX10_fit_0 1 rfl rfl 0 rfl ?_
  refine aw_aload_n (i := 0) dX10_fit_1 2 rfl rfl 0 rfl ?_
  refine gf_X10_0 dX10_fit_2 5 rfl wd_125 (ok_0 (by decide)) ?_
  refine aw_iload_n (i := 3) dX10_fit_5 6 rfl rfl 3 rfl ?_
  refine aw_callV (M2 := m_X7_isNumber) (cv := q_cI) dX10_fit_6 9 rfl (k_X7_isNumber l G 0 x3 (by decide) u0) wd_126 wv_X7_isNumber pk_X7_isNumber rfl rfl ⟨by decide, by decide⟩ ⟨Nat.zero_le _, Nat.zero_le _⟩ at_1 (ok_1 (by decide)) rfl rfl rfl (Nat.le_of_ble_eq_true rfl) (fun x4 u1 => ?_)
  show qAW l G m_X10_fit (q_mq G q_cI) 9 [(0, .ref (q_ad G 0 0)), (1, .int x1), (2, .int x2), (3, .int x3)] [.int x4, .ref (q_ad G 0 0)] u1 _
  refine aw_iload_n (i := 1) dX10_fit_9 10 rfl rfl 1 rfl ?_
  refine aw_iload_n (i := 2) dX10_fit_10 11 rfl rfl 2 rfl ?_
  refine aw_iload_n (i := 3) dX10_fit_11 12 rfl rfl 3 rfl ?_
  refine aw_callV (M2 := m_X10_fitRefused) (cv := q_cI) dX10_fit_12 15 rfl (k_X10_fitRefused l G x4 x1 x2 x3  u1) wd_195 wv_X10_fitRefused pk_X10_fitRefused rfl rfl ⟨by decide, by decide⟩ ⟨Nat.zero_le _, Nat.zero_le _⟩ at_0 (ok_0 (by decide)) rfl rfl rfl (Nat.le_of_ble_eq_true rfl) (fun x5 u2 => ?_)
  show qAW l G m_X10_fit (q_mq G q_cI) 15 [(0, .ref (q_ad G 0 0)), (1, .int x1), (2, .int x2), (3, .int x3)] [.int x5] u2 _
  refine aw_istore dX10_fit_15 17 rfl [(4, .int x5), (0, .ref (q_ad G 0 0)), (1, .int x1), (2, .int x2), (3, .int x3)] (by decide) rfl ?_
  refine aw_iload (i := 4) dX10_fit_17 19 rfl 0 rfl ?_
  refine aw_if_eq dX10_fit_19 22 rfl 25 rfl (fun h1 => ?_) (fun h1 => ?_)
  · refine aw_aload_n (i := 0) dX10_fit_25 26 rfl rfl 1 rfl ?_
    refine aw_iload_n (i := 1) dX10_fit_26 27 rfl rfl 2 rfl ?_
    refine aw_iload_n (i := 2) dX10_fit_27 28 rfl rfl 3 rfl ?_
    refine aw_iload_n (i := 3) dX10_fit_28 29 rfl rfl 4 rfl ?_
    refine aw_callV (M2 := m_X10_bestPull) (cv := q_cI) dX10_fit_29 32 rfl (k_X10_bestPull l G x1 x2 x3  u2) wd_196 wv_X10_bestPull pk_X10_bestPull rfl rfl ⟨by decide, by decide⟩ ⟨Nat.zero_le _, Nat.zero_le _⟩ at_0 (ok_0 (by decide)) rfl rfl rfl (Nat.le_of_ble_eq_true rfl) (fun x6 u3 => ?_)
    show qAW l G m_X10_fit (q_mq G q_cI) 32 [(4, .int x5), (0, .ref (q_ad G 0 0)), (1, .int x1), (2, .int x2), (3, .int x3)] [.int x6] u3 _
    refine aw_istore dX10_fit_32 34 rfl [(5, .int x6), (4, .int x5), (0, .ref (q_ad G 0 0)), (1, .int x1), (2, .int x2), (3, .int x3)] (by decide) rfl ?_
    refine aw_iload (i := 5) dX10_fit_34 36 rfl 0 rfl ?_
    refine aw_bipush (x := (-9)) dX10_fit_36 38 rfl rfl ?_
    refine aw_icmp_ne dX10_fit_38 41 rfl 44 rfl (fun h2 => ?_) (fun h2 => ?_)
    · refine aw_aload_n (i := 0) dX10_fit_44 45 rfl rfl 2 rfl ?_
      refine aw_aload_n (i := 0) dX10_fit_45 46 rfl rfl 2 rfl ?_
      refine gf_X10_12 dX10_fit_46 49 rfl wd_193 (ok_0 (by decide)) ?_
      refine aw_iload (i := 5) dX10_fit_49 51 rfl 0 rfl ?_
      refine aw_iald dX10_fit_51 52 rfl at_35 (al_35 _) (ok_35 (by decide)) (fun h3 => ?_)
      refine pf_X10_15 dX10_fit_52 55 rfl wd_134 (ok_0 (by decide)) ?_
      refine aw_ltm (fun u4 => ?_)
      refine aw_iload (i := 5) dX10_fit_55 57 rfl 0 rfl ?_
      exact aw_iret dX10_fit_57 rfl
    · refine aw_bipush (x := (-9)) dX10_fit_41 43 rfl rfl ?_
      exact aw_iret dX10_fit_43 rfl
  · refine aw_iload (i := 4) dX10_fit_22 24 rfl 0 rfl ?_
    exact aw_iret dX10_fit_24 rfl
theorem dX10_ends_0 : decode cX10_ends 0 = .ok (.aload_n 0, 1) := by decide +kernel
theorem dX10_ends_1 : decode cX10_ends 1 = .ok (.aload_n 0, 1) := by decide +kernel
theorem dX10_ends_2 : decode cX10_ends 2 = .ok (.getfield 14, 3) := by decide +kernel
theorem dX10_ends_5 : decode cX10_ends 5 = .ok (.iload_n 3, 1) := by decide +kernel
theorem dX10_ends_6 : decode cX10_ends 6 = .ok (.invokevirtual 87, 3) := by decide +kernel
theorem dX10_ends_9 : decode cX10_ends 9 = .ok (.ifCond .eq 18, 3) := by decide +kernel
theorem dX10_ends_12 : decode cX10_ends 12 = .ok (.iload 4, 2) := by decide +kernel
theorem dX10_ends_14 : decode cX10_ends 14 = .ok (.iconst 0, 1) := by decide +kernel
theorem dX10_ends_15 : decode cX10_ends 15 = .ok (.ldc 100, 2) := by decide +kernel
theorem dX10_ends_17 : decode cX10_ends 17 = .ok (.invokestatic 101, 3) := by decide +kernel
theorem dX10_ends_20 : decode cX10_ends 20 = .ok (.ifCond .eq 7, 3) := by decide +kernel
theorem dX10_ends_23 : decode cX10_ends 23 = .ok (.iconst 1, 1) := by decide +kernel
theorem dX10_ends_24 : decode cX10_ends 24 = .ok (.goto 4, 3) := by decide +kernel
theorem dX10_ends_27 : decode cX10_ends 27 = .ok (.iconst 0, 1) := by decide +kernel
theorem dX10_ends_28 : decode cX10_ends 28 = .ok (.iload_n 1, 1) := by decide +kernel
theorem dX10_ends_29 : decode cX10_ends 29 = .ok (.iload_n 2, 1) := by decide +kernel
theorem dX10_ends_30 : decode cX10_ends 30 = .ok (.iload_n 3, 1) := by decide +kernel
theorem dX10_ends_31 : decode cX10_ends 31 = .ok (.invokevirtual 392, 3) := by decide +kernel
theorem dX10_ends_34 : decode cX10_ends 34 = .ok (.istore 5, 2) := by decide +kernel
theorem dX10_ends_36 : decode cX10_ends 36 = .ok (.iload 5, 2) := by decide +kernel
theorem dX10_ends_38 : decode cX10_ends 38 = .ok (.ifCond .eq 6, 3) := by decide +kernel
theorem dX10_ends_41 : decode cX10_ends 41 = .ok (.iload 5, 2) := by decide +kernel
theorem dX10_ends_43 : decode cX10_ends 43 = .ok (.ireturn, 1) := by decide +kernel
theorem dX10_ends_44 : decode cX10_ends 44 = .ok (.aload_n 0, 1) := by decide +kernel
theorem dX10_ends_45 : decode cX10_ends 45 = .ok (.iload_n 1, 1) := by decide +kernel
theorem dX10_ends_46 : decode cX10_ends 46 = .ok (.iload_n 2, 1) := by decide +kernel
theorem dX10_ends_47 : decode cX10_ends 47 = .ok (.iload_n 3, 1) := by decide +kernel
theorem dX10_ends_48 : decode cX10_ends 48 = .ok (.invokevirtual 396, 3) := by decide +kernel
theorem dX10_ends_51 : decode cX10_ends 51 = .ok (.istore 6, 2) := by decide +kernel
theorem dX10_ends_53 : decode cX10_ends 53 = .ok (.iload 6, 2) := by decide +kernel
theorem dX10_ends_55 : decode cX10_ends 55 = .ok (.bipush (-9), 2) := by decide +kernel
theorem dX10_ends_57 : decode cX10_ends 57 = .ok (.if_icmp .ne 6, 3) := by decide +kernel
theorem dX10_ends_60 : decode cX10_ends 60 = .ok (.bipush (-9), 2) := by decide +kernel
theorem dX10_ends_62 : decode cX10_ends 62 = .ok (.ireturn, 1) := by decide +kernel
theorem dX10_ends_63 : decode cX10_ends 63 = .ok (.iconst 0, 1) := by decide +kernel
theorem dX10_ends_64 : decode cX10_ends 64 = .ok (.istore 7, 2) := by decide +kernel
theorem dX10_ends_66 : decode cX10_ends 66 = .ok (.iconst 0, 1) := by decide +kernel
theorem dX10_ends_67 : decode cX10_ends 67 = .ok (.istore 8, 2) := by decide +kernel
theorem dX10_ends_69 : decode cX10_ends 69 = .ok (.iconst 1, 1) := by decide +kernel
theorem dX10_ends_70 : decode cX10_ends 70 = .ok (.istore 9, 2) := by decide +kernel
theorem dX10_ends_72 : decode cX10_ends 72 = .ok (.iload 9, 2) := by decide +kernel
theorem dX10_ends_74 : decode cX10_ends 74 = .ok (.bipush 8, 2) := by decide +kernel
theorem dX10_ends_76 : decode cX10_ends 76 = .ok (.if_icmp .gt 57, 3) := by decide +kernel
theorem dX10_ends_79 : decode cX10_ends 79 = .ok (.aload_n 0, 1) := by decide +kernel
theorem dX10_ends_80 : decode cX10_ends 80 = .ok (.getfield 75, 3) := by decide +kernel
theorem dX10_ends_83 : decode cX10_ends 83 = .ok (.iload 9, 2) := by decide +kernel
theorem dX10_ends_85 : decode cX10_ends 85 = .ok (.iaload, 1) := by decide +kernel
theorem dX10_ends_86 : decode cX10_ends 86 = .ok (.bipush (-9), 2) := by decide +kernel
theorem dX10_ends_88 : decode cX10_ends 88 = .ok (.if_icmp .eq 39, 3) := by decide +kernel
theorem dX10_ends_91 : decode cX10_ends 91 = .ok (.aload_n 0, 1) := by decide +kernel
theorem dX10_ends_92 : decode cX10_ends 92 = .ok (.getfield 75, 3) := by decide +kernel
theorem dX10_ends_95 : decode cX10_ends 95 = .ok (.iload 9, 2) := by decide +kernel
theorem dX10_ends_97 : decode cX10_ends 97 = .ok (.iaload, 1) := by decide +kernel
theorem dX10_ends_98 : decode cX10_ends 98 = .ok (.aload_n 0, 1) := by decide +kernel
theorem dX10_ends_99 : decode cX10_ends 99 = .ok (.getfield 75, 3) := by decide +kernel
theorem dX10_ends_102 : decode cX10_ends 102 = .ok (.iload 6, 2) := by decide +kernel
theorem dX10_ends_104 : decode cX10_ends 104 = .ok (.iaload, 1) := by decide +kernel
theorem dX10_ends_105 : decode cX10_ends 105 = .ok (.iload 4, 2) := by decide +kernel
theorem dX10_ends_107 : decode cX10_ends 107 = .ok (.iadd, 1) := by decide +kernel
theorem dX10_ends_108 : decode cX10_ends 108 = .ok (.if_icmp .le 6, 3) := by decide +kernel
theorem dX10_ends_111 : decode cX10_ends 111 = .ok (.goto 16, 3) := by decide +kernel
theorem dX10_ends_114 : decode cX10_ends 114 = .ok (.iload 7, 2) := by decide +kernel
theorem dX10_ends_116 : decode cX10_ends 116 = .ok (.ifCond .ne 7, 3) := by decide +kernel
theorem dX10_ends_119 : decode cX10_ends 119 = .ok (.iload 9, 2) := by decide +kernel
theorem dX10_ends_121 : decode cX10_ends 121 = .ok (.istore 7, 2) := by decide +kernel
theorem dX10_ends_123 : decode cX10_ends 123 = .ok (.iload 9, 2) := by decide +kernel
theorem dX10_ends_125 : decode cX10_ends 125 = .ok (.istore 8, 2) := by decide +kernel
theorem dX10_ends_127 : decode cX10_ends 127 = .ok (.iinc 9 1, 3) := by decide +kernel
theorem dX10_ends_130 : decode cX10_ends 130 = .ok (.goto (-58), 3) := by decide +kernel
theorem dX10_ends_133 : decode cX10_ends 133 = .ok (.bipush 10, 2) := by decide +kernel
theorem dX10_ends_135 : decode cX10_ends 135 = .ok (.iload 7, 2) := by decide +kernel
theorem dX10_ends_137 : decode cX10_ends 137 = .ok (.imul, 1) := by decide +kernel
theorem dX10_ends_138 : decode cX10_ends 138 = .ok (.iload 8, 2) := by decide +kernel
theorem dX10_ends_140 : decode cX10_ends 140 = .ok (.iadd, 1) := by decide +kernel
theorem dX10_ends_141 : decode cX10_ends 141 = .ok (.ireturn, 1) := by decide +kernel
noncomputable def L_X10_ends_72 (x4 : Int32) (x8 : Int32) : Nat → Int32 → Int32 → Int32 → qM → (Int32 → Int32 → qM → Option (Int32 × qM)) → Option (Int32 × qM)
  | 0, _, _, _, _, _ => none
  | n + 1, x9, x10, x11, u5, e1 => if 8 < x11 then e1 x9 x10 u5 else q_ck (q_in x11 9) (q_jn (fun (x12 : Int32) (x13 : Int32) (u6 : qM) => q_lt (x11 + 1) (fun (x14 : Int32) => L_X10_ends_72 x4 x8 n x12 x13 x14 u6 e1)) (fun j2 => if (u5.1 35 0 (Int32.toNatClampNeg x11)) = (-9) then j2 x9 x10 u5 else q_ck (q_in x11 9) (q_ck (q_in x8 9) (if (u5.1 35 0 (Int32.toNatClampNeg x11)) ≤ ((u5.1 35 0 (Int32.toNatClampNeg x8)) + x4) then q_jn (fun (x15 : Int32) (u7 : qM) => j2 x15 x11 u7) (fun j3 => if x9 = 0 then j3 x11 u5 else j3 x9 u5) else j2 x9 x10 u5))))
noncomputable def f_X10_ends (x1 : Int32) (x2 : Int32) (x3 : Int32) (x4 : Int32) (u0 : qM) : Option (Int32 × qM) :=
  q_bd (f_X7_isNumber 0 x3 u0) (fun (x5 : Int32) (u1 : qM) => q_jn (fun (x6 : Int32) (u2 : qM) => q_bd (f_X10_fitRefused x6 x1 x2 x3 u2) (fun (x7 : Int32) (u3 : qM) => if x7 = 0 then q_bd (f_X10_bestPull x1 x2 x3 u3) (fun (x8 : Int32) (u4 : qM) => if x8 = (-9) then some ((-9), u4) else L_X10_ends_72 x4 x8 q_fu 0 0 1 u4 (fun x16 x17 u8 => some ((10 * x16) + x17, u8))) else some (x7, u3))) (fun j1 => q_jn (fun  (u9 : qM) => j1 0 u9) (fun j4 => if x5 = 0 then j4 u1 else q_bd (f_X10_within x4 0 100000 u1) (fun (x18 : Int32) (u10 : qM) => if x18 = 0 then j4 u10 else j1 1 u10))))
set_option maxRecDepth 100000 in
set_option maxHeartbeats 4000000 in
theorem TL_X10_ends_72 (l : Launch) (G : qG) (x4 : Int32) (x8 : Int32)  (e1 : Int32 → Int32 → qM → Option (Int32 × qM)) (he1 : ∀ (y1 : Int32) (y2 : Int32) (v : qM), qAW l G m_X10_ends (q_mq G q_cI) 133 [(7, .int y1), (8, .int y2)] [] v (e1 y1 y2 v)) : ∀ (n : Nat) (x9 : Int32) (x10 : Int32) (x11 : Int32) (u5 : qM), qAW l G m_X10_ends (q_mq G q_cI) 72 [(0, .ref (q_ad G 0 0)), (4, .int x4), (6, .int x8), (7, .int x9), (8, .int x10), (9, .int x11)] [] u5 (L_X10_ends_72 x4 x8 n x9 x10 x11 u5 e1) := by
  intro n
  induction n with
  | zero => intros; exact aw_none
  | succ n ih =>
    intro x9 x10 x11 u5
    unfold L_X10_ends_72
    refine aw_iload (i := 9) dX10_ends_72 74 rfl 5 rfl ?_
    refine aw_bipush (x := 8) dX10_ends_74 76 rfl rfl ?_
    refine aw_icmp_gt dX10_ends_76 79 rfl 133 rfl (fun h4 => ?_) (fun h4 => ?_)
    · exact aw_conv [3, 4] rfl (he1 x9 x10 u5)
    · refine aw_aload_n (i := 0) dX10_ends_79 80 rfl rfl 0 rfl ?_
      refine gf_X10_12 dX10_ends_80 83 rfl wd_193 (ok_0 (by decide)) ?_
      refine aw_iload (i := 9) dX10_ends_83 85 rfl 5 rfl ?_
      refine aw_iald dX10_ends_85 86 rfl at_35 (al_35 _) (ok_35 (by decide)) (fun h5 => ?_)
      refine aw_bipush (x := (-9)) dX10_ends_86 88 rfl rfl ?_
      refine aw_jn (fun k => ∀ (x12 : Int32) (x13 : Int32) (u6 : qM), qAW l G m_X10_ends (q_mq G q_cI) 127 [(0, .ref (q_ad G 0 0)), (4, .int x4), (6, .int x8), (7, .int x12), (8, .int x13), (9, .int x11)] [] u6 (k x12 x13 u6)) ?_ ?_
      · intro x12 x13 u6
        refine aw_iincx (i := 9) dX10_ends_127 130 rfl 5 rfl 1 rfl (fun x14 => [(9, .int x14), (0, .ref (q_ad G 0 0)), (4, .int x4), (6, .int x8), (7, .int x12), (8, .int x13)]) (by decide) (fun _ => rfl) (fun x14 => ?_)
        refine aw_goto dX10_ends_130 72 rfl ?_
        exact aw_conv [1, 2, 3, 4, 5, 0] rfl (ih x12 x13 x14 u6)
      · intro j2 hj2
        refine aw_icmp_eq dX10_ends_88 91 rfl 127 rfl (fun h6 => ?_) (fun h6 => ?_)
        · exact hj2 x9 x10 u5
        · refine aw_aload_n (i := 0) dX10_ends_91 92 rfl rfl 0 rfl ?_
          refine gf_X10_12 dX10_ends_92 95 rfl wd_193 (ok_0 (by decide)) ?_
          refine aw_iload (i := 9) dX10_ends_95 97 rfl 5 rfl ?_
          refine aw_iald dX10_ends_97 98 rfl at_35 (al_35 _) (ok_35 (by decide)) (fun h7 => ?_)
          refine aw_aload_n (i := 0) dX10_ends_98 99 rfl rfl 0 rfl ?_
          refine gf_X10_12 dX10_ends_99 102 rfl wd_193 (ok_0 (by decide)) ?_
          refine aw_iload (i := 6) dX10_ends_102 104 rfl 2 rfl ?_
          refine aw_iald dX10_ends_104 105 rfl at_35 (al_35 _) (ok_35 (by decide)) (fun h8 => ?_)
          refine aw_iload (i := 4) dX10_ends_105 107 rfl 1 rfl ?_
          refine aw_iadd dX10_ends_107 108 rfl ?_
          refine aw_icmp_le dX10_ends_108 111 rfl 114 rfl (fun h9 => ?_) (fun h9 => ?_)
          · refine aw_iload (i := 7) dX10_ends_114 116 rfl 3 rfl ?_
            refine aw_jn (fun k => ∀ (x15 : Int32) (u7 : qM), qAW l G m_X10_ends (q_mq G q_cI) 123 [(0, .ref (q_ad G 0 0)), (4, .int x4), (6, .int x8), (7, .int x15), (9, .int x11)] [] u7 (k x15 u7)) ?_ ?_
            · intro x15 u7
              refine aw_iload (i := 9) dX10_ends_123 125 rfl 4 rfl ?_
              refine aw_istore dX10_ends_125 127 rfl [(8, .int x11), (0, .ref (q_ad G 0 0)), (4, .int x4), (6, .int x8), (7, .int x15), (9, .int x11)] (by decide) rfl ?_
              exact aw_conv [1, 2, 3, 4, 0, 5] rfl (hj2 x15 x11 u7)
            · intro j3 hj3
              refine aw_if_ne dX10_ends_116 119 rfl 123 rfl (fun h10 => ?_) (fun h10 => ?_)
              · exact aw_conv [0, 1, 2, 3, 5] rfl (hj3 x9 u5)
              · refine aw_iload (i := 9) dX10_ends_119 121 rfl 5 rfl ?_
                refine aw_istore dX10_ends_121 123 rfl [(7, .int x11), (0, .ref (q_ad G 0 0)), (4, .int x4), (6, .int x8), (8, .int x10), (9, .int x11)] (by decide) rfl ?_
                exact aw_conv [1, 2, 3, 0, 5] rfl (hj3 x11 u5)
          · refine aw_goto dX10_ends_111 127 rfl ?_
            exact hj2 x9 x10 u5
set_option maxRecDepth 100000 in
set_option maxHeartbeats 4000000 in
theorem k_X10_ends (l : Launch) (G : qG) (x1 : Int32) (x2 : Int32) (x3 : Int32) (x4 : Int32)  (u0 : qM) : qCt l G m_X10_ends q_cI [.ref (q_ad G 0 0), .int x1, .int x2, .int x3, .int x4] u0 (f_X10_ends x1 x2 x3 x4 u0) := by
  refine q_entry pk_X10_ends (Nat.le_of_ble_eq_true rfl) ?_
  show qAW l G m_X10_ends (q_mq G q_cI) 0 [(0, .ref (q_ad G 0 0)), (1, .int x1), (2, .int x2), (3, .int x3), (4, .int x4)] [] u0 (f_X10_ends x1 x2 x3 x4 u0)
  unfold f_X10_ends
  refine aw_aload_n (i := 0) dX10_ends_0 1 rfl rfl 0 rfl ?_
  refine aw_aload_n (i := 0) dX10_ends_1 2 rfl rfl 0 rfl ?_
  refine gf_X10_0 dX10_ends_2 5 rfl wd_125 (ok_0 (by decide)) ?_
  refine aw_iload_n (i := 3) dX10_ends_5 6 rfl rfl 3 rfl ?_
  refine aw_callV (M2 := m_X7_isNumber) (cv := q_cI) dX10_ends_6 9 rfl (k_X7_isNumber l G 0 x3 (by decide) u0) wd_126 wv_X7_isNumber pk_X7_isNumber rfl rfl ⟨by decide, by decide⟩ ⟨Nat.zero_le _, Nat.zero_le _⟩ at_1 (ok_1 (by decide)) rfl rfl rfl (Nat.le_of_ble_eq_true rfl) (fun x5 u1 => ?_)
  show qAW l G m_X10_ends (q_mq G q_cI) 9 [(0, .ref (q_ad G 0 0)), (1, .int x1), (2, .int x2), (3, .int x3), (4, .int x4)] [.int x5, .ref (q_ad G 0 0)] u1 _
  refine aw_jn (fun k => ∀ (x6 : Int32) (u2 : qM), qAW l G m_X10_ends (q_mq G q_cI) 28 [(0, .ref (q_ad G 0 0)), (1, .int x1), (2, .int x2), (3, .int x3), (4, .int x4)] [.int x6, .ref (q_ad G 0 0)] u2 (k x6 u2)) ?_ ?_
  · intro x6 u2
    refine aw_iload_n (i := 1) dX10_ends_28 29 rfl rfl 1 rfl ?_
    refine aw_iload_n (i := 2) dX10_ends_29 30 rfl rfl 2 rfl ?_
    refine aw_iload_n (i := 3) dX10_ends_30 31 rfl rfl 3 rfl ?_
    refine aw_callV (M2 := m_X10_fitRefused) (cv := q_cI) dX10_ends_31 34 rfl (k_X10_fitRefused l G x6 x1 x2 x3  u2) wd_195 wv_X10_fitRefused pk_X10_fitRefused rfl rfl ⟨by decide, by decide⟩ ⟨Nat.zero_le _, Nat.zero_le _⟩ at_0 (ok_0 (by decide)) rfl rfl rfl (Nat.le_of_ble_eq_true rfl) (fun x7 u3 => ?_)
    show qAW l G m_X10_ends (q_mq G q_cI) 34 [(0, .ref (q_ad G 0 0)), (1, .int x1), (2, .int x2), (3, .int x3), (4, .int x4)] [.int x7] u3 _
    refine aw_istore dX10_ends_34 36 rfl [(5, .int x7), (0, .ref (q_ad G 0 0)), (1, .int x1), (2, .int x2), (3, .int x3), (4, .int x4)] (by decide) rfl ?_
    refine aw_iload (i := 5) dX10_ends_36 38 rfl 0 rfl ?_
    refine aw_if_eq dX10_ends_38 41 rfl 44 rfl (fun h2 => ?_) (fun h2 => ?_)
    · refine aw_aload_n (i := 0) dX10_ends_44 45 rfl rfl 1 rfl ?_
      refine aw_iload_n (i := 1) dX10_ends_45 46 rfl rfl 2 rfl ?_
      refine aw_iload_n (i := 2) dX10_ends_46 47 rfl rfl 3 rfl ?_
      refine aw_iload_n (i := 3) dX10_ends_47 48 rfl rfl 4 rfl ?_
      refine aw_callV (M2 := m_X10_bestPull) (cv := q_cI) dX10_ends_48 51 rfl (k_X10_bestPull l G x1 x2 x3  u3) wd_196 wv_X10_bestPull pk_X10_bestPull rfl rfl ⟨by decide, by decide⟩ ⟨Nat.zero_le _, Nat.zero_le _⟩ at_0 (ok_0 (by decide)) rfl rfl rfl (Nat.le_of_ble_eq_true rfl) (fun x8 u4 => ?_)
      show qAW l G m_X10_ends (q_mq G q_cI) 51 [(5, .int x7), (0, .ref (q_ad G 0 0)), (1, .int x1), (2, .int x2), (3, .int x3), (4, .int x4)] [.int x8] u4 _
      refine aw_istore dX10_ends_51 53 rfl [(6, .int x8), (5, .int x7), (0, .ref (q_ad G 0 0)), (1, .int x1), (2, .int x2), (3, .int x3), (4, .int x4)] (by decide) rfl ?_
      refine aw_iload (i := 6) dX10_ends_53 55 rfl 0 rfl ?_
      refine aw_bipush (x := (-9)) dX10_ends_55 57 rfl rfl ?_
      refine aw_icmp_ne dX10_ends_57 60 rfl 63 rfl (fun h3 => ?_) (fun h3 => ?_)
      · refine aw_iconst (x := 0) dX10_ends_63 64 rfl rfl ?_
        refine aw_istore dX10_ends_64 66 rfl [(7, .int 0), (6, .int x8), (5, .int x7), (0, .ref (q_ad G 0 0)), (1, .int x1), (2, .int x2), (3, .int x3), (4, .int x4)] (by decide) rfl ?_
        refine aw_iconst (x := 0) dX10_ends_66 67 rfl rfl ?_
        refine aw_istore dX10_ends_67 69 rfl [(8, .int 0), (7, .int 0), (6, .int x8), (5, .int x7), (0, .ref (q_ad G 0 0)), (1, .int x1), (2, .int x2), (3, .int x3), (4, .int x4)] (by decide) rfl ?_
        refine aw_iconst (x := 1) dX10_ends_69 70 rfl rfl ?_
        refine aw_istore dX10_ends_70 72 rfl [(9, .int 1), (8, .int 0), (7, .int 0), (6, .int x8), (5, .int x7), (0, .ref (q_ad G 0 0)), (1, .int x1), (2, .int x2), (3, .int x3), (4, .int x4)] (by decide) rfl ?_
        refine aw_conv [5, 9, 3, 2, 1, 0] rfl (TL_X10_ends_72 l G x4 x8  _ ?_ _ 0 0 1 u4)
        · intro x16 x17 u8
          refine aw_bipush (x := 10) dX10_ends_133 135 rfl rfl ?_
          refine aw_iload (i := 7) dX10_ends_135 137 rfl 0 rfl ?_
          refine aw_imul dX10_ends_137 138 rfl ?_
          refine aw_iload (i := 8) dX10_ends_138 140 rfl 1 rfl ?_
          refine aw_iadd dX10_ends_140 141 rfl ?_
          exact aw_iret dX10_ends_141 rfl
      · refine aw_bipush (x := (-9)) dX10_ends_60 62 rfl rfl ?_
        exact aw_iret dX10_ends_62 rfl
    · refine aw_iload (i := 5) dX10_ends_41 43 rfl 0 rfl ?_
      exact aw_iret dX10_ends_43 rfl
  · intro j1 hj1
    refine aw_jn (fun k => ∀  (u9 : qM), qAW l G m_X10_ends (q_mq G q_cI) 27 [(0, .ref (q_ad G 0 0)), (1, .int x1), (2, .int x2), (3, .int x3), (4, .int x4)] [.ref (q_ad G 0 0)] u9 (k u9)) ?_ ?_
    · intro u9
      refine aw_iconst (x := 0) dX10_ends_27 28 rfl rfl ?_
      exact hj1 0 u9
    · intro j4 hj4
      refine aw_if_eq dX10_ends_9 12 rfl 27 rfl (fun h1 => ?_) (fun h1 => ?_)
      · exact hj4 u1
      · refine aw_iload (i := 4) dX10_ends_12 14 rfl 4 rfl ?_
        refine aw_iconst (x := 0) dX10_ends_14 15 rfl rfl ?_
        refine aw_ldc (x := 100000) dX10_ends_15 17 rfl wd_130 ?_
        refine aw_callS (M2 := m_X10_within) (cv := q_cI) dX10_ends_17 20 rfl (k_X10_within l G x4 0 100000  u1) wd_131 wv_X10_within pk_X10_within rfl ⟨by decide, by decide⟩ ⟨Nat.zero_le _, Nat.zero_le _⟩ rfl (Nat.le_of_ble_eq_true rfl) (fun x18 u10 => ?_)
        show qAW l G m_X10_ends (q_mq G q_cI) 20 [(0, .ref (q_ad G 0 0)), (1, .int x1), (2, .int x2), (3, .int x3), (4, .int x4)] [.int x18, .ref (q_ad G 0 0)] u10 _
        refine aw_if_eq dX10_ends_20 23 rfl 27 rfl (fun h11 => ?_) (fun h11 => ?_)
        · exact hj4 u10
        · refine aw_iconst (x := 1) dX10_ends_23 24 rfl rfl ?_
          refine aw_goto dX10_ends_24 28 rfl ?_
          exact hj1 1 u10
theorem dX10_play_0 : decode cX10_play 0 = .ok (.iload_n 1, 1) := by decide +kernel
theorem dX10_play_1 : decode cX10_play 1 = .ok (.invokestatic 157, 3) := by decide +kernel
theorem dX10_play_4 : decode cX10_play 4 = .ok (.ifCond .eq 14, 3) := by decide +kernel
theorem dX10_play_7 : decode cX10_play 7 = .ok (.aload_n 0, 1) := by decide +kernel
theorem dX10_play_8 : decode cX10_play 8 = .ok (.getfield 18, 3) := by decide +kernel
theorem dX10_play_11 : decode cX10_play 11 = .ok (.iload_n 2, 1) := by decide +kernel
theorem dX10_play_12 : decode cX10_play 12 = .ok (.invokevirtual 87, 3) := by decide +kernel
theorem dX10_play_15 : decode cX10_play 15 = .ok (.ifCond .ne 5, 3) := by decide +kernel
theorem dX10_play_18 : decode cX10_play 18 = .ok (.iconst (-1), 1) := by decide +kernel
theorem dX10_play_19 : decode cX10_play 19 = .ok (.ireturn, 1) := by decide +kernel
theorem dX10_play_20 : decode cX10_play 20 = .ok (.aload_n 0, 1) := by decide +kernel
theorem dX10_play_21 : decode cX10_play 21 = .ok (.getfield 30, 3) := by decide +kernel
theorem dX10_play_24 : decode cX10_play 24 = .ok (.iload_n 1, 1) := by decide +kernel
theorem dX10_play_25 : decode cX10_play 25 = .ok (.aaload, 1) := by decide +kernel
theorem dX10_play_26 : decode cX10_play 26 = .ok (.getfield 305, 3) := by decide +kernel
theorem dX10_play_29 : decode cX10_play 29 = .ok (.ifCond .eq 14, 3) := by decide +kernel
theorem dX10_play_32 : decode cX10_play 32 = .ok (.aload_n 0, 1) := by decide +kernel
theorem dX10_play_33 : decode cX10_play 33 = .ok (.getfield 18, 3) := by decide +kernel
theorem dX10_play_36 : decode cX10_play 36 = .ok (.iload_n 2, 1) := by decide +kernel
theorem dX10_play_37 : decode cX10_play 37 = .ok (.invokevirtual 105, 3) := by decide +kernel
theorem dX10_play_40 : decode cX10_play 40 = .ok (.ifCond .ne 9, 3) := by decide +kernel
theorem dX10_play_43 : decode cX10_play 43 = .ok (.aload_n 0, 1) := by decide +kernel
theorem dX10_play_44 : decode cX10_play 44 = .ok (.iconst 1, 1) := by decide +kernel
theorem dX10_play_45 : decode cX10_play 45 = .ok (.invokevirtual 91, 3) := by decide +kernel
theorem dX10_play_48 : decode cX10_play 48 = .ok (.ireturn, 1) := by decide +kernel
theorem dX10_play_49 : decode cX10_play 49 = .ok (.aload_n 0, 1) := by decide +kernel
theorem dX10_play_50 : decode cX10_play 50 = .ok (.iload_n 2, 1) := by decide +kernel
theorem dX10_play_51 : decode cX10_play 51 = .ok (.invokevirtual 139, 3) := by decide +kernel
theorem dX10_play_54 : decode cX10_play 54 = .ok (.bipush (-9), 2) := by decide +kernel
theorem dX10_play_56 : decode cX10_play 56 = .ok (.if_icmp .eq 6, 3) := by decide +kernel
theorem dX10_play_59 : decode cX10_play 59 = .ok (.bipush (-4), 2) := by decide +kernel
theorem dX10_play_61 : decode cX10_play 61 = .ok (.ireturn, 1) := by decide +kernel
theorem dX10_play_62 : decode cX10_play 62 = .ok (.aload_n 0, 1) := by decide +kernel
theorem dX10_play_63 : decode cX10_play 63 = .ok (.getfield 49, 3) := by decide +kernel
theorem dX10_play_66 : decode cX10_play 66 = .ok (.aload_n 0, 1) := by decide +kernel
theorem dX10_play_67 : decode cX10_play 67 = .ok (.getfield 18, 3) := by decide +kernel
theorem dX10_play_70 : decode cX10_play 70 = .ok (.getfield 112, 3) := by decide +kernel
theorem dX10_play_73 : decode cX10_play 73 = .ok (.iload_n 2, 1) := by decide +kernel
theorem dX10_play_74 : decode cX10_play 74 = .ok (.aaload, 1) := by decide +kernel
theorem dX10_play_75 : decode cX10_play 75 = .ok (.aload_n 0, 1) := by decide +kernel
theorem dX10_play_76 : decode cX10_play 76 = .ok (.getfield 18, 3) := by decide +kernel
theorem dX10_play_79 : decode cX10_play 79 = .ok (.getfield 136, 3) := by decide +kernel
theorem dX10_play_82 : decode cX10_play 82 = .ok (.iload_n 2, 1) := by decide +kernel
theorem dX10_play_83 : decode cX10_play 83 = .ok (.iaload, 1) := by decide +kernel
theorem dX10_play_84 : decode cX10_play 84 = .ok (.invokevirtual 146, 3) := by decide +kernel
theorem dX10_play_87 : decode cX10_play 87 = .ok (.iconst 0, 1) := by decide +kernel
theorem dX10_play_88 : decode cX10_play 88 = .ok (.istore_n 3, 1) := by decide +kernel
theorem dX10_play_89 : decode cX10_play 89 = .ok (.iconst 0, 1) := by decide +kernel
theorem dX10_play_90 : decode cX10_play 90 = .ok (.istore 4, 2) := by decide +kernel
theorem dX10_play_92 : decode cX10_play 92 = .ok (.iload 4, 2) := by decide +kernel
theorem dX10_play_94 : decode cX10_play 94 = .ok (.bipush 40, 2) := by decide +kernel
theorem dX10_play_96 : decode cX10_play 96 = .ok (.if_icmp .ge 80, 3) := by decide +kernel
theorem dX10_play_99 : decode cX10_play 99 = .ok (.aload_n 0, 1) := by decide +kernel
theorem dX10_play_100 : decode cX10_play 100 = .ok (.getfield 49, 3) := by decide +kernel
theorem dX10_play_103 : decode cX10_play 103 = .ok (.invokevirtual 150, 3) := by decide +kernel
theorem dX10_play_106 : decode cX10_play 106 = .ok (.ifCond .eq 70, 3) := by decide +kernel
theorem dX10_play_109 : decode cX10_play 109 = .ok (.aload_n 0, 1) := by decide +kernel
theorem dX10_play_110 : decode cX10_play 110 = .ok (.getfield 30, 3) := by decide +kernel
theorem dX10_play_113 : decode cX10_play 113 = .ok (.iload_n 1, 1) := by decide +kernel
theorem dX10_play_114 : decode cX10_play 114 = .ok (.aaload, 1) := by decide +kernel
theorem dX10_play_115 : decode cX10_play 115 = .ok (.aload_n 0, 1) := by decide +kernel
theorem dX10_play_116 : decode cX10_play 116 = .ok (.getfield 49, 3) := by decide +kernel
theorem dX10_play_119 : decode cX10_play 119 = .ok (.getfield 400, 3) := by decide +kernel
theorem dX10_play_122 : decode cX10_play 122 = .ok (.aload_n 0, 1) := by decide +kernel
theorem dX10_play_123 : decode cX10_play 123 = .ok (.getfield 49, 3) := by decide +kernel
theorem dX10_play_126 : decode cX10_play 126 = .ok (.getfield 403, 3) := by decide +kernel
theorem dX10_play_129 : decode cX10_play 129 = .ok (.invokevirtual 406, 3) := by decide +kernel
theorem dX10_play_132 : decode cX10_play 132 = .ok (.aload_n 0, 1) := by decide +kernel
theorem dX10_play_133 : decode cX10_play 133 = .ok (.getfield 49, 3) := by decide +kernel
theorem dX10_play_136 : decode cX10_play 136 = .ok (.invokevirtual 409, 3) := by decide +kernel
theorem dX10_play_139 : decode cX10_play 139 = .ok (.istore 5, 2) := by decide +kernel
theorem dX10_play_141 : decode cX10_play 141 = .ok (.iconst 0, 1) := by decide +kernel
theorem dX10_play_142 : decode cX10_play 142 = .ok (.istore 6, 2) := by decide +kernel
theorem dX10_play_144 : decode cX10_play 144 = .ok (.iload 6, 2) := by decide +kernel
theorem dX10_play_146 : decode cX10_play 146 = .ok (.iload 5, 2) := by decide +kernel
theorem dX10_play_148 : decode cX10_play 148 = .ok (.if_icmp .ge 22, 3) := by decide +kernel
theorem dX10_play_151 : decode cX10_play 151 = .ok (.aload_n 0, 1) := by decide +kernel
theorem dX10_play_152 : decode cX10_play 152 = .ok (.iload_n 1, 1) := by decide +kernel
theorem dX10_play_153 : decode cX10_play 153 = .ok (.invokevirtual 246, 3) := by decide +kernel
theorem dX10_play_156 : decode cX10_play 156 = .ok (.ifCond .ne 5, 3) := by decide +kernel
theorem dX10_play_159 : decode cX10_play 159 = .ok (.iload_n 3, 1) := by decide +kernel
theorem dX10_play_160 : decode cX10_play 160 = .ok (.ireturn, 1) := by decide +kernel
theorem dX10_play_161 : decode cX10_play 161 = .ok (.iinc 3 1, 3) := by decide +kernel
theorem dX10_play_164 : decode cX10_play 164 = .ok (.iinc 6 1, 3) := by decide +kernel
theorem dX10_play_167 : decode cX10_play 167 = .ok (.goto (-23), 3) := by decide +kernel
theorem dX10_play_170 : decode cX10_play 170 = .ok (.iinc 4 1, 3) := by decide +kernel
theorem dX10_play_173 : decode cX10_play 173 = .ok (.goto (-81), 3) := by decide +kernel
theorem dX10_play_176 : decode cX10_play 176 = .ok (.iload_n 3, 1) := by decide +kernel
theorem dX10_play_177 : decode cX10_play 177 = .ok (.ireturn, 1) := by decide +kernel
noncomputable def L_X10_play_144 (x1 : Int32) (x9 : Int32) (x11 : Int32) : Nat → Int32 → Int32 → qM → (Int32 → qM → Option (Int32 × qM)) → (Int32 → qM → Option (Int32 × qM)) → Option (Int32 × qM)
  | 0, _, _, _, _, _ => none
  | n + 1, x12, x13, u13, e1, e2 => if x11 ≤ x13 then e1 x12 u13 else q_bd (f_X10_stepWhole x1 u13) (fun (x14 : Int32) (u14 : qM) => if x14 = 0 then e2 x12 u14 else q_lt (x12 + 1) (fun (x15 : Int32) => q_lt (x13 + 1) (fun (x16 : Int32) => L_X10_play_144 x1 x9 x11 n x15 x16 u14 e1 e2)))
noncomputable def L_X10_play_92 (x1 : Int32) : Nat → Int32 → Int32 → qM → (Int32 → qM → Option (Int32 × qM)) → (Int32 → qM → Option (Int32 × qM)) → Option (Int32 × qM)
  | 0, _, _, _, _, _ => none
  | n + 1, x8, x9, u9, e1, e2 => if 40 ≤ x9 then e1 x8 u9 else q_bd (f_X6_next  u9) (fun (x10 : Int32) (u10 : qM) => if x10 = 0 then e1 x8 u10 else q_ck (q_in x1 6) (q_bd (f_X0_obey (Int32.toNatClampNeg x1) (u10.1 7 0 3) (u10.1 7 0 4) u10) (fun (_z : Unit) (u11 : qM) => q_bd (f_X6_stepsOfItem  u11) (fun (x11 : Int32) (u12 : qM) => L_X10_play_144 x1 x9 x11 q_fu x8 0 u12 (fun x17 u15 => q_lt (x9 + 1) (fun (x18 : Int32) => L_X10_play_92 x1 n x17 x18 u15 e1 e2)) (fun x19 u16 => e2 x19 u16)))))
noncomputable def f_X10_play (x1 : Int32) (x2 : Int32) (u0 : qM) : Option (Int32 × qM) :=
  q_bd (f_X10_isBoard x1 u0) (fun (x3 : Int32) (u1 : qM) => q_jn (fun  (u2 : qM) => some ((-1), u2)) (fun j1 => if x3 = 0 then j1 u1 else q_bd (f_X7_isNumber 1 x2 u1) (fun (x4 : Int32) (u3 : qM) => if x4 = 0 then j1 u3 else q_ck (q_in x1 6) (q_jn (fun  (u4 : qM) => q_bd (f_X10_found 1 u4) (fun (x5 : Int32) (u5 : qM) => some (x5, u5))) (fun j2 => if (u3.1 2 (Int32.toNatClampNeg x1) 10) = 0 then j2 u3 else q_bd (f_X7_isThere 1 x2 u3) (fun (x6 : Int32) (u6 : qM) => if x6 = 0 then j2 u6 else q_bd (f_X10_faultOf x2 u6) (fun (x7 : Int32) (u7 : qM) => if x7 = (-9) then q_ck (q_in x2 6) (q_ck (q_in x2 6) (q_bd (f_X6_open 31 (Int32.toNatClampNeg x2) (u7.1 33 1 (Int32.toNatClampNeg x2)) u7) (fun (_z : Unit) (u8 : qM) => L_X10_play_92 x1 q_fu 0 0 u8 (fun x20 u17 => some (x20, u17)) (fun x21 u18 => some (x21, u18))))) else some ((-4), u7))))))))
set_option maxRecDepth 100000 in
set_option maxHeartbeats 4000000 in
theorem TL_X10_play_144 (l : Launch) (G : qG) (x1 : Int32) (x9 : Int32) (x11 : Int32)  (e1 : Int32 → qM → Option (Int32 × qM)) (e2 : Int32 → qM → Option (Int32 × qM)) (he1 : ∀ (y1 : Int32) (v : qM), qAW l G m_X10_play (q_mq G q_cI) 170 [(0, .ref (q_ad G 0 0)), (1, .int x1), (3, .int y1), (4, .int x9)] [] v (e1 y1 v)) (he2 : ∀ (y1 : Int32) (v : qM), qAW l G m_X10_play (q_mq G q_cI) 159 [(3, .int y1)] [] v (e2 y1 v)) : ∀ (n : Nat) (x12 : Int32) (x13 : Int32) (u13 : qM), qAW l G m_X10_play (q_mq G q_cI) 144 [(0, .ref (q_ad G 0 0)), (1, .int x1), (3, .int x12), (4, .int x9), (5, .int x11), (6, .int x13)] [] u13 (L_X10_play_144 x1 x9 x11 n x12 x13 u13 e1 e2) := by
  intro n
  induction n with
  | zero => intros; exact aw_none
  | succ n ih =>
    intro x12 x13 u13
    unfold L_X10_play_144
    refine aw_iload (i := 6) dX10_play_144 146 rfl 5 rfl ?_
    refine aw_iload (i := 5) dX10_play_146 148 rfl 4 rfl ?_
    refine aw_icmp_ge dX10_play_148 151 rfl 170 rfl (fun h12 => ?_) (fun h12 => ?_)
    · exact aw_conv [0, 1, 2, 3] rfl (he1 x12 u13)
    · refine aw_aload_n (i := 0) dX10_play_151 152 rfl rfl 0 rfl ?_
      refine aw_iload_n (i := 1) dX10_play_152 153 rfl rfl 1 rfl ?_
      refine aw_callV (M2 := m_X10_stepWhole) (cv := q_cI) dX10_play_153 156 rfl (k_X10_stepWhole l G x1  u13) wd_165 wv_X10_stepWhole pk_X10_stepWhole rfl rfl ⟨by decide, by decide⟩ ⟨Nat.zero_le _, Nat.zero_le _⟩ at_0 (ok_0 (by decide)) rfl rfl rfl (Nat.le_of_ble_eq_true rfl) (fun x14 u14 => ?_)
      show qAW l G m_X10_play (q_mq G q_cI) 156 [(0, .ref (q_ad G 0 0)), (1, .int x1), (3, .int x12), (4, .int x9), (5, .int x11), (6, .int x13)] [.int x14] u14 _
      refine aw_if_ne dX10_play_156 159 rfl 161 rfl (fun h13 => ?_) (fun h13 => ?_)
      · refine aw_iincx (i := 3) dX10_play_161 164 rfl 2 rfl 1 rfl (fun x15 => [(3, .int x15), (0, .ref (q_ad G 0 0)), (1, .int x1), (4, .int x9), (5, .int x11), (6, .int x13)]) (by decide) (fun _ => rfl) (fun x15 => ?_)
        refine aw_iincx (i := 6) dX10_play_164 167 rfl 5 rfl 1 rfl (fun x16 => [(6, .int x16), (3, .int x15), (0, .ref (q_ad G 0 0)), (1, .int x1), (4, .int x9), (5, .int x11)]) (by decide) (fun _ => rfl) (fun x16 => ?_)
        refine aw_goto dX10_play_167 144 rfl ?_
        exact aw_conv [2, 3, 1, 4, 5, 0] rfl (ih x15 x16 u14)
      · exact aw_conv [2] rfl (he2 x12 u14)
set_option maxRecDepth 100000 in
set_option maxHeartbeats 4000000 in
theorem TL_X10_play_92 (l : Launch) (G : qG) (x1 : Int32)  (e1 : Int32 → qM → Option (Int32 × qM)) (e2 : Int32 → qM → Option (Int32 × qM)) (he1 : ∀ (y1 : Int32) (v : qM), qAW l G m_X10_play (q_mq G q_cI) 176 [(3, .int y1)] [] v (e1 y1 v)) (he2 : ∀ (y1 : Int32) (v : qM), qAW l G m_X10_play (q_mq G q_cI) 159 [(3, .int y1)] [] v (e2 y1 v)) : ∀ (n : Nat) (x8 : Int32) (x9 : Int32) (u9 : qM), qAW l G m_X10_play (q_mq G q_cI) 92 [(0, .ref (q_ad G 0 0)), (1, .int x1), (3, .int x8), (4, .int x9)] [] u9 (L_X10_play_92 x1 n x8 x9 u9 e1 e2) := by
  intro n
  induction n with
  | zero => intros; exact aw_none
  | succ n ih =>
    intro x8 x9 u9
    unfold L_X10_play_92
    refine aw_iload (i := 4) dX10_play_92 94 rfl 3 rfl ?_
    refine aw_bipush (x := 40) dX10_play_94 96 rfl rfl ?_
    refine aw_icmp_ge dX10_play_96 99 rfl 176 rfl (fun h9 => ?_) (fun h9 => ?_)
    · exact aw_conv [2] rfl (he1 x8 u9)
    · refine aw_aload_n (i := 0) dX10_play_99 100 rfl rfl 0 rfl ?_
      refine gf_X10_7 dX10_play_100 103 rfl wd_141 (ok_0 (by decide)) ?_
      refine aw_callV (M2 := m_X6_next) (cv := q_cI) dX10_play_103 106 rfl (k_X6_next l G   u9) wd_143 wv_X6_next pk_X6_next rfl rfl ⟨by decide, by decide⟩ ⟨Nat.zero_le _, Nat.zero_le _⟩ at_7 (ok_7 (by decide)) rfl rfl rfl (Nat.le_of_ble_eq_true rfl) (fun x10 u10 => ?_)
      show qAW l G m_X10_play (q_mq G q_cI) 106 [(0, .ref (q_ad G 0 0)), (1, .int x1), (3, .int x8), (4, .int x9)] [.int x10] u10 _
      refine aw_if_eq dX10_play_106 109 rfl 176 rfl (fun h10 => ?_) (fun h10 => ?_)
      · exact aw_conv [2] rfl (he1 x8 u10)
      · refine aw_aload_n (i := 0) dX10_play_109 110 rfl rfl 0 rfl ?_
        refine gf_X10_4 dX10_play_110 113 rfl wd_145 (ok_0 (by decide)) ?_
        refine aw_iload_n (i := 1) dX10_play_113 114 rfl rfl 1 rfl ?_
        refine aw_aald dX10_play_114 115 rfl at_21 (by decide) (by decide) rfl rfl (al_21 _) (ok_21 (by decide)) rfl (fun h11 => ?_)
        refine aw_aload_n (i := 0) dX10_play_115 116 rfl rfl 0 rfl ?_
        refine gf_X10_7 dX10_play_116 119 rfl wd_141 (ok_0 (by decide)) ?_
        refine gfN_X6_3 dX10_play_119 122 rfl "SeaCells" (ns_59) (ok_7 (by decide)) ?_
        refine aw_aload_n (i := 0) dX10_play_122 123 rfl rfl 0 rfl ?_
        refine gf_X10_7 dX10_play_123 126 rfl wd_141 (ok_0 (by decide)) ?_
        refine gfN_X6_4 dX10_play_126 129 rfl "SeaCells" (ns_60) (ok_7 (by decide)) ?_
        refine aw_callV (M2 := m_X0_obey) (cv := q_cU) dX10_play_129 132 rfl (k_X0_obey l G (Int32.toNatClampNeg x1) (u10.1 7 0 3) (u10.1 7 0 4) (Nat.lt_of_lt_of_le (q_in_lt h11) (by decide)) u10) wd_197 wv_X0_obey pk_X0_obey rfl rfl ⟨by decide, by decide⟩ ⟨Nat.zero_le _, Nat.zero_le _⟩ at_2 (ok_2 (Nat.lt_of_lt_of_le (q_in_lt h11) (by decide))) rfl rfl rfl (Nat.le_of_ble_eq_true rfl) (fun _z u11 => ?_)
        show qAW l G m_X10_play (q_mq G q_cI) 132 [(0, .ref (q_ad G 0 0)), (1, .int x1), (3, .int x8), (4, .int x9)] [] u11 _
        refine aw_aload_n (i := 0) dX10_play_132 133 rfl rfl 0 rfl ?_
        refine gf_X10_7 dX10_play_133 136 rfl wd_141 (ok_0 (by decide)) ?_
        refine aw_callV (M2 := m_X6_stepsOfItem) (cv := q_cI) dX10_play_136 139 rfl (k_X6_stepsOfItem l G   u11) wd_198 wv_X6_stepsOfItem pk_X6_stepsOfItem rfl rfl ⟨by decide, by decide⟩ ⟨Nat.zero_le _, Nat.zero_le _⟩ at_7 (ok_7 (by decide)) rfl rfl rfl (Nat.le_of_ble_eq_true rfl) (fun x11 u12 => ?_)
        show qAW l G m_X10_play (q_mq G q_cI) 139 [(0, .ref (q_ad G 0 0)), (1, .int x1), (3, .int x8), (4, .int x9)] [.int x11] u12 _
        refine aw_istore dX10_play_139 141 rfl [(5, .int x11), (0, .ref (q_ad G 0 0)), (1, .int x1), (3, .int x8), (4, .int x9)] (by decide) rfl ?_
        refine aw_iconst (x := 0) dX10_play_141 142 rfl rfl ?_
        refine aw_istore dX10_play_142 144 rfl [(6, .int 0), (5, .int x11), (0, .ref (q_ad G 0 0)), (1, .int x1), (3, .int x8), (4, .int x9)] (by decide) rfl ?_
        refine aw_conv [2, 3, 4, 5, 1, 0] rfl (TL_X10_play_144 l G x1 x9 x11  _ _ ?_ ?_ _ x8 0 u12)
        · intro x17 u15
          refine aw_iincx (i := 4) dX10_play_170 173 rfl 3 rfl 1 rfl (fun x18 => [(4, .int x18), (0, .ref (q_ad G 0 0)), (1, .int x1), (3, .int x17)]) (by decide) (fun _ => rfl) (fun x18 => ?_)
          refine aw_goto dX10_play_173 92 rfl ?_
          exact aw_conv [1, 2, 3, 0] rfl (ih x17 x18 u15)
        · intro x19 u16
          exact he2 x19 u16
set_option maxRecDepth 100000 in
set_option maxHeartbeats 4000000 in
theorem k_X10_play (l : Launch) (G : qG) (x1 : Int32) (x2 : Int32)  (u0 : qM) : qCt l G m_X10_play q_cI [.ref (q_ad G 0 0), .int x1, .int x2] u0 (f_X10_play x1 x2 u0) := by
  refine q_entry pk_X10_play (Nat.le_of_ble_eq_true rfl) ?_
  show qAW l G m_X10_play (q_mq G q_cI) 0 [(0, .ref (q_ad G 0 0)), (1, .int x1), (2, .int x2)] [] u0 (f_X10_play x1 x2 u0)
  unfold f_X10_play
  refine aw_iload_n (i := 1) dX10_play_0 1 rfl rfl 1 rfl ?_
  refine aw_callS (M2 := m_X10_isBoard) (cv := q_cI) dX10_play_1 4 rfl (k_X10_isBoard l G x1  u0) wd_146 wv_X10_isBoard pk_X10_isBoard rfl ⟨by decide, by decide⟩ ⟨Nat.zero_le _, Nat.zero_le _⟩ rfl (Nat.le_of_ble_eq_true rfl) (fun x3 u1 => ?_)
  show qAW l G m_X10_play (q_mq G q_cI) 4 [(0, .ref (q_ad G 0 0)), (1, .int x1), (2, .int x2)] [.int x3] u1 _
  refine aw_jn (fun k => ∀  (u2 : qM), qAW l G m_X10_play (q_mq G q_cI) 18 [] [] u2 (k u2)) ?_ ?_
  · intro u2
    refine aw_iconst (x := (-1)) dX10_play_18 19 rfl rfl ?_
    exact aw_iret dX10_play_19 rfl
  · intro j1 hj1
    refine aw_if_eq dX10_play_4 7 rfl 18 rfl (fun h1 => ?_) (fun h1 => ?_)
    · exact aw_conv [] rfl (hj1 u1)
    · refine aw_aload_n (i := 0) dX10_play_7 8 rfl rfl 0 rfl ?_
      refine gf_X10_1 dX10_play_8 11 rfl wd_140 (ok_0 (by decide)) ?_
      refine aw_iload_n (i := 2) dX10_play_11 12 rfl rfl 2 rfl ?_
      refine aw_callV (M2 := m_X7_isNumber) (cv := q_cI) dX10_play_12 15 rfl (k_X7_isNumber l G 1 x2 (by decide) u1) wd_126 wv_X7_isNumber pk_X7_isNumber rfl rfl ⟨by decide, by decide⟩ ⟨Nat.zero_le _, Nat.zero_le _⟩ at_1 (ok_1 (by decide)) rfl rfl rfl (Nat.le_of_ble_eq_true rfl) (fun x4 u3 => ?_)
      show qAW l G m_X10_play (q_mq G q_cI) 15 [(0, .ref (q_ad G 0 0)), (1, .int x1), (2, .int x2)] [.int x4] u3 _
      refine aw_if_ne dX10_play_15 18 rfl 20 rfl (fun h2 => ?_) (fun h2 => ?_)
      · refine aw_aload_n (i := 0) dX10_play_20 21 rfl rfl 0 rfl ?_
        refine gf_X10_4 dX10_play_21 24 rfl wd_145 (ok_0 (by decide)) ?_
        refine aw_iload_n (i := 1) dX10_play_24 25 rfl rfl 1 rfl ?_
        refine aw_aald dX10_play_25 26 rfl at_21 (by decide) (by decide) rfl rfl (al_21 _) (ok_21 (by decide)) rfl (fun h3 => ?_)
        refine gfN_X0_10 dX10_play_26 29 rfl "SeaCells" (ns_47) (ok_2 (Nat.lt_of_lt_of_le (q_in_lt h3) (by decide))) ?_
        refine aw_jn (fun k => ∀  (u4 : qM), qAW l G m_X10_play (q_mq G q_cI) 43 [(0, .ref (q_ad G 0 0))] [] u4 (k u4)) ?_ ?_
        · intro u4
          refine aw_aload_n (i := 0) dX10_play_43 44 rfl rfl 0 rfl ?_
          refine aw_iconst (x := 1) dX10_play_44 45 rfl rfl ?_
          refine aw_callV (M2 := m_X10_found) (cv := q_cI) dX10_play_45 48 rfl (k_X10_found l G 1  u4) wd_128 wv_X10_found pk_X10_found rfl rfl ⟨by decide, by decide⟩ ⟨Nat.zero_le _, Nat.zero_le _⟩ at_0 (ok_0 (by decide)) rfl rfl rfl (Nat.le_of_ble_eq_true rfl) (fun x5 u5 => ?_)
          show qAW l G m_X10_play (q_mq G q_cI) 48 [(0, .ref (q_ad G 0 0))] [.int x5] u5 _
          exact aw_iret dX10_play_48 rfl
        · intro j2 hj2
          refine aw_if_eq dX10_play_29 32 rfl 43 rfl (fun h4 => ?_) (fun h4 => ?_)
          · exact aw_conv [0] rfl (hj2 u3)
          · refine aw_aload_n (i := 0) dX10_play_32 33 rfl rfl 0 rfl ?_
            refine gf_X10_1 dX10_play_33 36 rfl wd_140 (ok_0 (by decide)) ?_
            refine aw_iload_n (i := 2) dX10_play_36 37 rfl rfl 2 rfl ?_
            refine aw_callV (M2 := m_X7_isThere) (cv := q_cI) dX10_play_37 40 rfl (k_X7_isThere l G 1 x2 (by decide) u3) wd_132 wv_X7_isThere pk_X7_isThere rfl rfl ⟨by decide, by decide⟩ ⟨Nat.zero_le _, Nat.zero_le _⟩ at_1 (ok_1 (by decide)) rfl rfl rfl (Nat.le_of_ble_eq_true rfl) (fun x6 u6 => ?_)
            show qAW l G m_X10_play (q_mq G q_cI) 40 [(0, .ref (q_ad G 0 0)), (1, .int x1), (2, .int x2)] [.int x6] u6 _
            refine aw_if_ne dX10_play_40 43 rfl 49 rfl (fun h5 => ?_) (fun h5 => ?_)
            · refine aw_aload_n (i := 0) dX10_play_49 50 rfl rfl 0 rfl ?_
              refine aw_iload_n (i := 2) dX10_play_50 51 rfl rfl 2 rfl ?_
              refine aw_callV (M2 := m_X10_faultOf) (cv := q_cI) dX10_play_51 54 rfl (k_X10_faultOf l G x2  u6) wd_144 wv_X10_faultOf pk_X10_faultOf rfl rfl ⟨by decide, by decide⟩ ⟨Nat.zero_le _, Nat.zero_le _⟩ at_0 (ok_0 (by decide)) rfl rfl rfl (Nat.le_of_ble_eq_true rfl) (fun x7 u7 => ?_)
              show qAW l G m_X10_play (q_mq G q_cI) 54 [(0, .ref (q_ad G 0 0)), (1, .int x1), (2, .int x2)] [.int x7] u7 _
              refine aw_bipush (x := (-9)) dX10_play_54 56 rfl rfl ?_
              refine aw_icmp_eq dX10_play_56 59 rfl 62 rfl (fun h6 => ?_) (fun h6 => ?_)
              · refine aw_aload_n (i := 0) dX10_play_62 63 rfl rfl 0 rfl ?_
                refine gf_X10_7 dX10_play_63 66 rfl wd_141 (ok_0 (by decide)) ?_
                refine aw_aload_n (i := 0) dX10_play_66 67 rfl rfl 0 rfl ?_
                refine gf_X10_1 dX10_play_67 70 rfl wd_140 (ok_0 (by decide)) ?_
                refine gfN_X7_0 dX10_play_70 73 rfl "SeaCells" (ns_0) (ok_1 (by decide)) ?_
                refine aw_iload_n (i := 2) dX10_play_73 74 rfl rfl 2 rfl ?_
                refine aw_aald dX10_play_74 75 rfl at_20 (by decide) (by decide) rfl rfl rfl (ok_20 (by decide)) rfl (fun h7 => ?_)
                refine aw_aload_n (i := 0) dX10_play_75 76 rfl rfl 0 rfl ?_
                refine gf_X10_1 dX10_play_76 79 rfl wd_140 (ok_0 (by decide)) ?_
                refine gfN_X7_1 dX10_play_79 82 rfl "SeaCells" (ns_2) (ok_1 (by decide)) ?_
                refine aw_iload_n (i := 2) dX10_play_82 83 rfl rfl 2 rfl ?_
                refine aw_iald dX10_play_83 84 rfl at_33 rfl (ok_33 (by decide)) (fun h8 => ?_)
                refine aw_callV (M2 := m_X6_open) (cv := q_cU) dX10_play_84 87 rfl (k_X6_open l G 31 (Int32.toNatClampNeg x2) (u7.1 33 1 (Int32.toNatClampNeg x2)) at_31 (ok_31 (q_in_lt h7)) u7) wd_142 wv_X6_open pk_X6_open rfl rfl ⟨by decide, by decide⟩ ⟨Nat.zero_le _, Nat.zero_le _⟩ at_7 (ok_7 (by decide)) rfl rfl rfl (Nat.le_of_ble_eq_true rfl) (fun _z u8 => ?_)
                show qAW l G m_X10_play (q_mq G q_cI) 87 [(0, .ref (q_ad G 0 0)), (1, .int x1), (2, .int x2)] [] u8 _
                refine aw_iconst (x := 0) dX10_play_87 88 rfl rfl ?_
                refine aw_istore_n dX10_play_88 89 rfl rfl [(3, .int 0), (0, .ref (q_ad G 0 0)), (1, .int x1), (2, .int x2)] (by decide) rfl ?_
                refine aw_iconst (x := 0) dX10_play_89 90 rfl rfl ?_
                refine aw_istore dX10_play_90 92 rfl [(4, .int 0), (3, .int 0), (0, .ref (q_ad G 0 0)), (1, .int x1), (2, .int x2)] (by decide) rfl ?_
                refine aw_conv [2, 3, 1, 0] rfl (TL_X10_play_92 l G x1  _ _ ?_ ?_ _ 0 0 u8)
                · intro x20 u17
                  refine aw_iload_n (i := 3) dX10_play_176 177 rfl rfl 0 rfl ?_
                  exact aw_iret dX10_play_177 rfl
                · intro x21 u18
                  refine aw_iload_n (i := 3) dX10_play_159 160 rfl rfl 0 rfl ?_
                  exact aw_iret dX10_play_160 rfl
              · refine aw_bipush (x := (-4)) dX10_play_59 61 rfl rfl ?_
                exact aw_iret dX10_play_61 rfl
            · exact aw_conv [0] rfl (hj2 u6)
      · exact aw_conv [] rfl (hj1 u3)
