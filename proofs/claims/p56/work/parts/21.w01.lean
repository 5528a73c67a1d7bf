theorem dX0_unfilled_0 : decode cX0_unfilled 0 = .ok (.aload_n 0, 1) := by decide +kernel
theorem dX0_unfilled_1 : decode cX0_unfilled 1 = .ok (.getfield 15, 3) := by decide +kernel
theorem dX0_unfilled_4 : decode cX0_unfilled 4 = .ok (.aload_n 0, 1) := by decide +kernel
theorem dX0_unfilled_5 : decode cX0_unfilled 5 = .ok (.iload_n 1, 1) := by decide +kernel
theorem dX0_unfilled_6 : decode cX0_unfilled 6 = .ok (.iload_n 2, 1) := by decide +kernel
theorem dX0_unfilled_7 : decode cX0_unfilled 7 = .ok (.invokevirtual 190, 3) := by decide +kernel
theorem dX0_unfilled_10 : decode cX0_unfilled 10 = .ok (.iaload, 1) := by decide +kernel
theorem dX0_unfilled_11 : decode cX0_unfilled 11 = .ok (.ineg, 1) := by decide +kernel
theorem dX0_unfilled_12 : decode cX0_unfilled 12 = .ok (.istore_n 3, 1) := by decide +kernel
theorem dX0_unfilled_13 : decode cX0_unfilled 13 = .ok (.iload_n 3, 1) := by decide +kernel
theorem dX0_unfilled_14 : decode cX0_unfilled 14 = .ok (.ifCond .gt 5, 3) := by decide +kernel
theorem dX0_unfilled_17 : decode cX0_unfilled 17 = .ok (.iconst 0, 1) := by decide +kernel
theorem dX0_unfilled_18 : decode cX0_unfilled 18 = .ok (.ireturn, 1) := by decide +kernel
theorem dX0_unfilled_19 : decode cX0_unfilled 19 = .ok (.aload_n 0, 1) := by decide +kernel
theorem dX0_unfilled_20 : decode cX0_unfilled 20 = .ok (.getfield 15, 3) := by decide +kernel
theorem dX0_unfilled_23 : decode cX0_unfilled 23 = .ok (.aload_n 0, 1) := by decide +kernel
theorem dX0_unfilled_24 : decode cX0_unfilled 24 = .ok (.iload_n 1, 1) := by decide +kernel
theorem dX0_unfilled_25 : decode cX0_unfilled 25 = .ok (.iload_n 2, 1) := by decide +kernel
theorem dX0_unfilled_26 : decode cX0_unfilled 26 = .ok (.invokevirtual 190, 3) := by decide +kernel
theorem dX0_unfilled_29 : decode cX0_unfilled 29 = .ok (.iconst 0, 1) := by decide +kernel
theorem dX0_unfilled_30 : decode cX0_unfilled 30 = .ok (.iastore, 1) := by decide +kernel
theorem dX0_unfilled_31 : decode cX0_unfilled 31 = .ok (.iconst 1, 1) := by decide +kernel
theorem dX0_unfilled_32 : decode cX0_unfilled 32 = .ok (.istore 4, 2) := by decide +kernel
theorem dX0_unfilled_34 : decode cX0_unfilled 34 = .ok (.iload 4, 2) := by decide +kernel
theorem dX0_unfilled_36 : decode cX0_unfilled 36 = .ok (.iconst 4, 1) := by decide +kernel
theorem dX0_unfilled_37 : decode cX0_unfilled 37 = .ok (.if_icmp .ge 56, 3) := by decide +kernel
theorem dX0_unfilled_40 : decode cX0_unfilled 40 = .ok (.aload_n 0, 1) := by decide +kernel
theorem dX0_unfilled_41 : decode cX0_unfilled 41 = .ok (.iload_n 1, 1) := by decide +kernel
theorem dX0_unfilled_42 : decode cX0_unfilled 42 = .ok (.iload_n 2, 1) := by decide +kernel
theorem dX0_unfilled_43 : decode cX0_unfilled 43 = .ok (.iload 4, 2) := by decide +kernel
theorem dX0_unfilled_45 : decode cX0_unfilled 45 = .ok (.iadd, 1) := by decide +kernel
theorem dX0_unfilled_46 : decode cX0_unfilled 46 = .ok (.iconst 4, 1) := by decide +kernel
theorem dX0_unfilled_47 : decode cX0_unfilled 47 = .ok (.irem, 1) := by decide +kernel
theorem dX0_unfilled_48 : decode cX0_unfilled 48 = .ok (.invokevirtual 190, 3) := by decide +kernel
theorem dX0_unfilled_51 : decode cX0_unfilled 51 = .ok (.istore 5, 2) := by decide +kernel
theorem dX0_unfilled_53 : decode cX0_unfilled 53 = .ok (.iconst 0, 1) := by decide +kernel
theorem dX0_unfilled_54 : decode cX0_unfilled 54 = .ok (.iload_n 3, 1) := by decide +kernel
theorem dX0_unfilled_55 : decode cX0_unfilled 55 = .ok (.aload_n 0, 1) := by decide +kernel
theorem dX0_unfilled_56 : decode cX0_unfilled 56 = .ok (.getfield 15, 3) := by decide +kernel
theorem dX0_unfilled_59 : decode cX0_unfilled 59 = .ok (.iload 5, 2) := by decide +kernel
theorem dX0_unfilled_61 : decode cX0_unfilled 61 = .ok (.iaload, 1) := by decide +kernel
theorem dX0_unfilled_62 : decode cX0_unfilled 62 = .ok (.invokestatic 200, 3) := by decide +kernel
theorem dX0_unfilled_65 : decode cX0_unfilled 65 = .ok (.invokestatic 203, 3) := by decide +kernel
theorem dX0_unfilled_68 : decode cX0_unfilled 68 = .ok (.istore 6, 2) := by decide +kernel
theorem dX0_unfilled_70 : decode cX0_unfilled 70 = .ok (.aload_n 0, 1) := by decide +kernel
theorem dX0_unfilled_71 : decode cX0_unfilled 71 = .ok (.getfield 15, 3) := by decide +kernel
theorem dX0_unfilled_74 : decode cX0_unfilled 74 = .ok (.iload 5, 2) := by decide +kernel
theorem dX0_unfilled_76 : decode cX0_unfilled 76 = .ok (.dup2, 1) := by decide +kernel
theorem dX0_unfilled_77 : decode cX0_unfilled 77 = .ok (.iaload, 1) := by decide +kernel
theorem dX0_unfilled_78 : decode cX0_unfilled 78 = .ok (.iload 6, 2) := by decide +kernel
theorem dX0_unfilled_80 : decode cX0_unfilled 80 = .ok (.isub, 1) := by decide +kernel
theorem dX0_unfilled_81 : decode cX0_unfilled 81 = .ok (.iastore, 1) := by decide +kernel
theorem dX0_unfilled_82 : decode cX0_unfilled 82 = .ok (.iload_n 3, 1) := by decide +kernel
theorem dX0_unfilled_83 : decode cX0_unfilled 83 = .ok (.iload 6, 2) := by decide +kernel
theorem dX0_unfilled_85 : decode cX0_unfilled 85 = .ok (.isub, 1) := by decide +kernel
theorem dX0_unfilled_86 : decode cX0_unfilled 86 = .ok (.istore_n 3, 1) := by decide +kernel
theorem dX0_unfilled_87 : decode cX0_unfilled 87 = .ok (.iinc 4 1, 3) := by decide +kernel
theorem dX0_unfilled_90 : decode cX0_unfilled 90 = .ok (.goto (-56), 3) := by decide +kernel
theorem dX0_unfilled_93 : decode cX0_unfilled 93 = .ok (.iload_n 3, 1) := by decide +kernel
theorem dX0_unfilled_94 : decode cX0_unfilled 94 = .ok (.ireturn, 1) := by decide +kernel
noncomputable def L_X0_unfilled_34 (o1 : Nat) (x1 : Int32) (x2 : Int32) : Nat → Int32 → Int32 → qM → (Int32 → qM → Option (Int32 × qM)) → Option (Int32 × qM)
  | 0, _, _, _, _ => none
  | n + 1, x6, x7, u4, e1 => if 4 ≤ x7 then e1 x6 u4 else q_bd (f_X0_fineCell o1 x1 ((x2 + x7) - (x2 + x7) / 4 * 4) u4) (fun (x8 : Int32) (u5 : qM) => q_ck (q_in x8 48) (q_lt ((if 0 < (if (u5.1 38 o1 (Int32.toNatClampNeg x8)) < x6 then u5.1 38 o1 (Int32.toNatClampNeg x8) else x6) then (if (u5.1 38 o1 (Int32.toNatClampNeg x8)) < x6 then u5.1 38 o1 (Int32.toNatClampNeg x8) else x6) else 0)) (fun (x9 : Int32) => q_ck (q_in x8 48) (q_ck (q_in x8 48) (q_lt (q_si u5 38 o1 (Int32.toNatClampNeg x8) ((u5.1 38 o1 (Int32.toNatClampNeg x8)) - x9)) (fun (u6 : qM) => q_lt (x6 - x9) (fun (x10 : Int32) => q_lt (x7 + 1) (fun (x11 : Int32) => L_X0_unfilled_34 o1 x1 x2 n x10 x11 u6 e1))))))))
noncomputable def f_X0_unfilled (o1 : Nat) (x1 : Int32) (x2 : Int32) (u0 : qM) : Option (Int32 × qM) :=
  q_bd (f_X0_fineCell o1 x1 x2 u0) (fun (x3 : Int32) (u1 : qM) => q_ck (q_in x3 48) (q_lt (-(u1.1 38 o1 (Int32.toNatClampNeg x3))) (fun (x4 : Int32) => if (0 : Int32) < x4 then q_bd (f_X0_fineCell o1 x1 x2 u1) (fun (x5 : Int32) (u2 : qM) => q_ck (q_in x5 48) (q_lt (q_si u2 38 o1 (Int32.toNatClampNeg x5) 0) (fun (u3 : qM) => L_X0_unfilled_34 o1 x1 x2 q_fu x4 1 u3 (fun x12 u7 => some (x12, u7))))) else some (0, u1))))
set_option maxRecDepth 100000 in
set_option maxHeartbeats 4000000 in
theorem TL_X0_unfilled_34 (l : Launch) (G : qG) (o1 : Nat) (x1 : Int32) (x2 : Int32) (q1 : o1 < 7) (e1 : Int32 → qM → Option (Int32 × qM)) (he1 : ∀ (y1 : Int32) (v : qM), qAW l G m_X0_unfilled (q_mq G q_cI) 93 [(3, .int y1)] [] v (e1 y1 v)) : ∀ (n : Nat) (x6 : Int32) (x7 : Int32) (u4 : qM), qAW l G m_X0_unfilled (q_mq G q_cI) 34 [(0, .ref (q_ad G 2 o1)), (1, .int x1), (2, .int x2), (3, .int x6), (4, .int x7)] [] u4 (L_X0_unfilled_34 o1 x1 x2 n x6 x7 u4 e1) := by
  intro n
  induction n with
  | zero => intros; exact aw_none
  | succ n ih =>
    intro x6 x7 u4
    unfold L_X0_unfilled_34
    refine aw_iload (i := 4) dX0_unfilled_34 36 rfl 4 rfl ?_
    refine aw_iconst (x := 4) dX0_unfilled_36 37 rfl rfl ?_
    refine aw_icmp_ge dX0_unfilled_37 40 rfl 93 rfl (fun h4 => ?_) (fun h4 => ?_)
    · exact aw_conv [3] rfl (he1 x6 u4)
    · refine aw_aload_n (i := 0) dX0_unfilled_40 41 rfl rfl 0 rfl ?_
      refine aw_iload_n (i := 1) dX0_unfilled_41 42 rfl rfl 1 rfl ?_
      refine aw_iload_n (i := 2) dX0_unfilled_42 43 rfl rfl 2 rfl ?_
      refine aw_iload (i := 4) dX0_unfilled_43 45 rfl 4 rfl ?_
      refine aw_iadd dX0_unfilled_45 46 rfl ?_
      refine aw_iconst (x := 4) dX0_unfilled_46 47 rfl rfl ?_
      refine aw_irem dX0_unfilled_47 48 rfl (by decide) ?_
      refine aw_callV (M2 := m_X0_fineCell) (cv := q_cI) dX0_unfilled_48 51 rfl (k_X0_fineCell l G o1 x1 ((x2 + x7) - (x2 + x7) / 4 * 4) q1 u4) wd_47 wv_X0_fineCell pk_X0_fineCell rfl rfl ⟨by decide, by decide⟩ ⟨Nat.zero_le _, Nat.zero_le _⟩ at_2 (ok_2 q1) rfl rfl rfl (Nat.le_of_ble_eq_true rfl) (fun x8 u5 => ?_)
      show qAW l G m_X0_unfilled (q_mq G q_cI) 51 [(0, .ref (q_ad G 2 o1)), (1, .int x1), (2, .int x2), (3, .int x6), (4, .int x7)] [.int x8] u5 _
      refine aw_istore dX0_unfilled_51 53 rfl [(5, .int x8), (0, .ref (q_ad G 2 o1)), (1, .int x1), (2, .int x2), (3, .int x6), (4, .int x7)] (by decide) rfl ?_
      refine aw_iconst (x := 0) dX0_unfilled_53 54 rfl rfl ?_
      refine aw_iload_n (i := 3) dX0_unfilled_54 55 rfl rfl 4 rfl ?_
      refine aw_aload_n (i := 0) dX0_unfilled_55 56 rfl rfl 1 rfl ?_
      refine gf_X0_1 dX0_unfilled_56 59 rfl wd_19 (ok_2 q1) ?_
      refine aw_iload (i := 5) dX0_unfilled_59 61 rfl 0 rfl ?_
      refine aw_iald dX0_unfilled_61 62 rfl at_38 (al_38 _) (ok_38 q1) (fun h5 => ?_)
      refine aw_min dX0_unfilled_62 65 rfl wd_50 wd_51 wd_52 wd_53 (Nat.le_of_ble_eq_true rfl) (Nat.le_of_ble_eq_true rfl) (Nat.zero_le _) (Nat.zero_le _) ?_
      refine aw_max dX0_unfilled_65 68 rfl wd_54 wd_55 wd_52 wd_56 (Nat.le_of_ble_eq_true rfl) (Nat.le_of_ble_eq_true rfl) (Nat.zero_le _) (Nat.zero_le _) ?_
      refine aw_lti (fun x9 => ?_)
      refine aw_istore dX0_unfilled_68 70 rfl [(6, .int x9), (5, .int x8), (0, .ref (q_ad G 2 o1)), (1, .int x1), (2, .int x2), (3, .int x6), (4, .int x7)] (by decide) rfl ?_
      refine aw_aload_n (i := 0) dX0_unfilled_70 71 rfl rfl 2 rfl ?_
      refine gf_X0_1 dX0_unfilled_71 74 rfl wd_19 (ok_2 q1) ?_
      refine aw_iload (i := 5) dX0_unfilled_74 76 rfl 1 rfl ?_
      refine aw_dup2 dX0_unfilled_76 77 rfl rfl rfl ?_
      refine aw_iald dX0_unfilled_77 78 rfl at_38 (al_38 _) (ok_38 q1) (fun h6 => ?_)
      refine aw_iload (i := 6) dX0_unfilled_78 80 rfl 0 rfl ?_
      refine aw_isub dX0_unfilled_80 81 rfl ?_
      refine aw_iast dX0_unfilled_81 82 rfl at_38 (al_38 _) (ok_38 q1) (fun h7 => ?_)
      refine aw_ltm (fun u6 => ?_)
      refine aw_iload_n (i := 3) dX0_unfilled_82 83 rfl rfl 5 rfl ?_
      refine aw_iload (i := 6) dX0_unfilled_83 85 rfl 0 rfl ?_
      refine aw_isub dX0_unfilled_85 86 rfl ?_
      refine aw_lti (fun x10 => ?_)
      refine aw_istore_n dX0_unfilled_86 87 rfl rfl [(3, .int x10), (6, .int x9), (5, .int x8), (0, .ref (q_ad G 2 o1)), (1, .int x1), (2, .int x2), (4, .int x7)] (by decide) rfl ?_
      refine aw_iincx (i := 4) dX0_unfilled_87 90 rfl 6 rfl 1 rfl (fun x11 => [(4, .int x11), (3, .int x10), (6, .int x9), (5, .int x8), (0, .ref (q_ad G 2 o1)), (1, .int x1), (2, .int x2)]) (by decide) (fun _ => rfl) (fun x11 => ?_)
      refine aw_goto dX0_unfilled_90 34 rfl ?_
      exact aw_conv [4, 5, 6, 1, 0] rfl (ih x10 x11 u6)
set_option maxRecDepth 100000 in
set_option maxHeartbeats 4000000 in
theorem k_X0_unfilled (l : Launch) (G : qG) (o1 : Nat) (x1 : Int32) (x2 : Int32) (ho1 : o1 < 7) (u0 : qM) : qCt l G m_X0_unfilled q_cI [.ref (q_ad G 2 o1), .int x1, .int x2] u0 (f_X0_unfilled o1 x1 x2 u0) := by
  refine q_entry pk_X0_unfilled (Nat.le_of_ble_eq_true rfl) ?_
  show qAW l G m_X0_unfilled (q_mq G q_cI) 0 [(0, .ref (q_ad G 2 o1)), (1, .int x1), (2, .int x2)] [] u0 (f_X0_unfilled o1 x1 x2 u0)
  unfold f_X0_unfilled
  refine aw_aload_n (i := 0) dX0_unfilled_0 1 rfl rfl 0 rfl ?_
  refine gf_X0_1 dX0_unfilled_1 4 rfl wd_19 (ok_2 ho1) ?_
  refine aw_aload_n (i := 0) dX0_unfilled_4 5 rfl rfl 0 rfl ?_
  refine aw_iload_n (i := 1) dX0_unfilled_5 6 rfl rfl 1 rfl ?_
  refine aw_iload_n (i := 2) dX0_unfilled_6 7 rfl rfl 2 rfl ?_
  refine aw_callV (M2 := m_X0_fineCell) (cv := q_cI) dX0_unfilled_7 10 rfl (k_X0_fineCell l G o1 x1 x2 ho1 u0) wd_47 wv_X0_fineCell pk_X0_fineCell rfl rfl ⟨by decide, by decide⟩ ⟨Nat.zero_le _, Nat.zero_le _⟩ at_2 (ok_2 ho1) rfl rfl rfl (Nat.le_of_ble_eq_true rfl) (fun x3 u1 => ?_)
  show qAW l G m_X0_unfilled (q_mq G q_cI) 10 [(0, .ref (q_ad G 2 o1)), (1, .int x1), (2, .int x2)] [.int x3, .ref (q_ad G 38 o1)] u1 _
  refine aw_iald dX0_unfilled_10 11 rfl at_38 (al_38 _) (ok_38 ho1) (fun h1 => ?_)
  refine aw_ineg dX0_unfilled_11 12 rfl ?_
  refine aw_lti (fun x4 => ?_)
  refine aw_istore_n dX0_unfilled_12 13 rfl rfl [(3, .int x4), (0, .ref (q_ad G 2 o1)), (1, .int x1), (2, .int x2)] (by decide) rfl ?_
  refine aw_iload_n (i := 3) dX0_unfilled_13 14 rfl rfl 0 rfl ?_
  refine aw_if_gt dX0_unfilled_14 17 rfl 19 rfl (fun h2 => ?_) (fun h2 => ?_)
  · refine aw_aload_n (i := 0) dX0_unfilled_19 20 rfl rfl 1 rfl ?_
    refine gf_X0_1 dX0_unfilled_20 23 rfl wd_19 (ok_2 ho1) ?_
    refine aw_aload_n (i := 0) dX0_unfilled_23 24 rfl rfl 1 rfl ?_
    refine aw_iload_n (i := 1) dX0_unfilled_24 25 rfl rfl 2 rfl ?_
    refine aw_iload_n (i := 2) dX0_unfilled_25 26 rfl rfl 3 rfl ?_
    refine aw_callV (M2 := m_X0_fineCell) (cv := q_cI) dX0_unfilled_26 29 rfl (k_X0_fineCell l G o1 x1 x2 ho1 u1) wd_47 wv_X0_fineCell pk_X0_fineCell rfl rfl ⟨by decide, by decide⟩ ⟨Nat.zero_le _, Nat.zero_le _⟩ at_2 (ok_2 ho1) rfl rfl rfl (Nat.le_of_ble_eq_true rfl) (fun x5 u2 => ?_)
    show qAW l G m_X0_unfilled (q_mq G q_cI) 29 [(3, .int x4), (0, .ref (q_ad G 2 o1)), (1, .int x1), (2, .int x2)] [.int x5, .ref (q_ad G 38 o1)] u2 _
    refine aw_iconst (x := 0) dX0_unfilled_29 30 rfl rfl ?_
    refine aw_iast dX0_unfilled_30 31 rfl at_38 (al_38 _) (ok_38 ho1) (fun h3 => ?_)
    refine aw_ltm (fun u3 => ?_)
    refine aw_iconst (x := 1) dX0_unfilled_31 32 rfl rfl ?_
    refine aw_istore dX0_unfilled_32 34 rfl [(4, .int 1), (3, .int x4), (0, .ref (q_ad G 2 o1)), (1, .int x1), (2, .int x2)] (by decide) rfl ?_
    refine aw_conv [2, 3, 4, 1, 0] rfl (TL_X0_unfilled_34 l G o1 x1 x2 ho1 _ ?_ _ x4 1 u3)
    · intro x12 u7
      refine aw_iload_n (i := 3) dX0_unfilled_93 94 rfl rfl 0 rfl ?_
      exact aw_iret dX0_unfilled_94 rfl
  · refine aw_iconst (x := 0) dX0_unfilled_17 18 rfl rfl ?_
    exact aw_iret dX0_unfilled_18 rfl
theorem dX0_takeDown_0 : decode cX0_takeDown 0 = .ok (.aload_n 0, 1) := by decide +kernel
theorem dX0_takeDown_1 : decode cX0_takeDown 1 = .ok (.aload_n 0, 1) := by decide +kernel
theorem dX0_takeDown_2 : decode cX0_takeDown 2 = .ok (.getfield 15, 3) := by decide +kernel
theorem dX0_takeDown_5 : decode cX0_takeDown 5 = .ok (.iconst 0, 1) := by decide +kernel
theorem dX0_takeDown_6 : decode cX0_takeDown 6 = .ok (.invokevirtual 145, 3) := by decide +kernel
theorem dX0_takeDown_9 : decode cX0_takeDown 9 = .ok (.istore_n 2, 1) := by decide +kernel
theorem dX0_takeDown_10 : decode cX0_takeDown 10 = .ok (.iconst 0, 1) := by decide +kernel
theorem dX0_takeDown_11 : decode cX0_takeDown 11 = .ok (.istore_n 3, 1) := by decide +kernel
theorem dX0_takeDown_12 : decode cX0_takeDown 12 = .ok (.iload_n 3, 1) := by decide +kernel
theorem dX0_takeDown_13 : decode cX0_takeDown 13 = .ok (.aload_n 0, 1) := by decide +kernel
theorem dX0_takeDown_14 : decode cX0_takeDown 14 = .ok (.invokevirtual 153, 3) := by decide +kernel
theorem dX0_takeDown_17 : decode cX0_takeDown 17 = .ok (.iconst 4, 1) := by decide +kernel
theorem dX0_takeDown_18 : decode cX0_takeDown 18 = .ok (.idiv, 1) := by decide +kernel
theorem dX0_takeDown_19 : decode cX0_takeDown 19 = .ok (.if_icmp .ge 185, 3) := by decide +kernel
theorem dX0_takeDown_22 : decode cX0_takeDown 22 = .ok (.aload_n 0, 1) := by decide +kernel
theorem dX0_takeDown_23 : decode cX0_takeDown 23 = .ok (.iload_n 3, 1) := by decide +kernel
theorem dX0_takeDown_24 : decode cX0_takeDown 24 = .ok (.aload_n 1, 1) := by decide +kernel
theorem dX0_takeDown_25 : decode cX0_takeDown 25 = .ok (.invokevirtual 186, 3) := by decide +kernel
theorem dX0_takeDown_28 : decode cX0_takeDown 28 = .ok (.istore 4, 2) := by decide +kernel
theorem dX0_takeDown_30 : decode cX0_takeDown 30 = .ok (.aload_n 1, 1) := by decide +kernel
theorem dX0_takeDown_31 : decode cX0_takeDown 31 = .ok (.getfield 15, 3) := by decide +kernel
theorem dX0_takeDown_34 : decode cX0_takeDown 34 = .ok (.iload 4, 2) := by decide +kernel
theorem dX0_takeDown_36 : decode cX0_takeDown 36 = .ok (.iaload, 1) := by decide +kernel
theorem dX0_takeDown_37 : decode cX0_takeDown 37 = .ok (.aload_n 0, 1) := by decide +kernel
theorem dX0_takeDown_38 : decode cX0_takeDown 38 = .ok (.getfield 45, 3) := by decide +kernel
theorem dX0_takeDown_41 : decode cX0_takeDown 41 = .ok (.getfield 193, 3) := by decide +kernel
theorem dX0_takeDown_44 : decode cX0_takeDown 44 = .ok (.iload_n 3, 1) := by decide +kernel
theorem dX0_takeDown_45 : decode cX0_takeDown 45 = .ok (.iaload, 1) := by decide +kernel
theorem dX0_takeDown_46 : decode cX0_takeDown 46 = .ok (.isub, 1) := by decide +kernel
theorem dX0_takeDown_47 : decode cX0_takeDown 47 = .ok (.istore 5, 2) := by decide +kernel
theorem dX0_takeDown_49 : decode cX0_takeDown 49 = .ok (.iconst 0, 1) := by decide +kernel
theorem dX0_takeDown_50 : decode cX0_takeDown 50 = .ok (.istore 6, 2) := by decide +kernel
theorem dX0_takeDown_52 : decode cX0_takeDown 52 = .ok (.iload 6, 2) := by decide +kernel
theorem dX0_takeDown_54 : decode cX0_takeDown 54 = .ok (.iconst 4, 1) := by decide +kernel
theorem dX0_takeDown_55 : decode cX0_takeDown 55 = .ok (.if_icmp .ge 26, 3) := by decide +kernel
theorem dX0_takeDown_58 : decode cX0_takeDown 58 = .ok (.aload_n 0, 1) := by decide +kernel
theorem dX0_takeDown_59 : decode cX0_takeDown 59 = .ok (.getfield 15, 3) := by decide +kernel
theorem dX0_takeDown_62 : decode cX0_takeDown 62 = .ok (.aload_n 0, 1) := by decide +kernel
theorem dX0_takeDown_63 : decode cX0_takeDown 63 = .ok (.iload_n 3, 1) := by decide +kernel
theorem dX0_takeDown_64 : decode cX0_takeDown 64 = .ok (.iload 6, 2) := by decide +kernel
theorem dX0_takeDown_66 : decode cX0_takeDown 66 = .ok (.invokevirtual 190, 3) := by decide +kernel
theorem dX0_takeDown_69 : decode cX0_takeDown 69 = .ok (.dup2, 1) := by decide +kernel
theorem dX0_takeDown_70 : decode cX0_takeDown 70 = .ok (.iaload, 1) := by decide +kernel
theorem dX0_takeDown_71 : decode cX0_takeDown 71 = .ok (.iload 5, 2) := by decide +kernel
theorem dX0_takeDown_73 : decode cX0_takeDown 73 = .ok (.iadd, 1) := by decide +kernel
theorem dX0_takeDown_74 : decode cX0_takeDown 74 = .ok (.iastore, 1) := by decide +kernel
theorem dX0_takeDown_75 : decode cX0_takeDown 75 = .ok (.iinc 6 1, 3) := by decide +kernel
theorem dX0_takeDown_78 : decode cX0_takeDown 78 = .ok (.goto (-26), 3) := by decide +kernel
theorem dX0_takeDown_81 : decode cX0_takeDown 81 = .ok (.iconst 0, 1) := by decide +kernel
theorem dX0_takeDown_82 : decode cX0_takeDown 82 = .ok (.istore 6, 2) := by decide +kernel
theorem dX0_takeDown_84 : decode cX0_takeDown 84 = .ok (.iload 6, 2) := by decide +kernel
theorem dX0_takeDown_86 : decode cX0_takeDown 86 = .ok (.iconst 4, 1) := by decide +kernel
theorem dX0_takeDown_87 : decode cX0_takeDown 87 = .ok (.if_icmp .ge 28, 3) := by decide +kernel
theorem dX0_takeDown_90 : decode cX0_takeDown 90 = .ok (.aload_n 0, 1) := by decide +kernel
theorem dX0_takeDown_91 : decode cX0_takeDown 91 = .ok (.getfield 45, 3) := by decide +kernel
theorem dX0_takeDown_94 : decode cX0_takeDown 94 = .ok (.getfield 156, 3) := by decide +kernel
theorem dX0_takeDown_97 : decode cX0_takeDown 97 = .ok (.iload_n 3, 1) := by decide +kernel
theorem dX0_takeDown_98 : decode cX0_takeDown 98 = .ok (.dup2, 1) := by decide +kernel
theorem dX0_takeDown_99 : decode cX0_takeDown 99 = .ok (.iaload, 1) := by decide +kernel
theorem dX0_takeDown_100 : decode cX0_takeDown 100 = .ok (.aload_n 0, 1) := by decide +kernel
theorem dX0_takeDown_101 : decode cX0_takeDown 101 = .ok (.iload_n 3, 1) := by decide +kernel
theorem dX0_takeDown_102 : decode cX0_takeDown 102 = .ok (.iload 6, 2) := by decide +kernel
theorem dX0_takeDown_104 : decode cX0_takeDown 104 = .ok (.invokevirtual 206, 3) := by decide +kernel
theorem dX0_takeDown_107 : decode cX0_takeDown 107 = .ok (.isub, 1) := by decide +kernel
theorem dX0_takeDown_108 : decode cX0_takeDown 108 = .ok (.iastore, 1) := by decide +kernel
theorem dX0_takeDown_109 : decode cX0_takeDown 109 = .ok (.iinc 6 1, 3) := by decide +kernel
theorem dX0_takeDown_112 : decode cX0_takeDown 112 = .ok (.goto (-28), 3) := by decide +kernel
theorem dX0_takeDown_115 : decode cX0_takeDown 115 = .ok (.iconst 0, 1) := by decide +kernel
theorem dX0_takeDown_116 : decode cX0_takeDown 116 = .ok (.istore 6, 2) := by decide +kernel
theorem dX0_takeDown_118 : decode cX0_takeDown 118 = .ok (.iload 6, 2) := by decide +kernel
theorem dX0_takeDown_120 : decode cX0_takeDown 120 = .ok (.iconst 4, 1) := by decide +kernel
theorem dX0_takeDown_121 : decode cX0_takeDown 121 = .ok (.if_icmp .ge 61, 3) := by decide +kernel
theorem dX0_takeDown_124 : decode cX0_takeDown 124 = .ok (.iconst 0, 1) := by decide +kernel
theorem dX0_takeDown_125 : decode cX0_takeDown 125 = .ok (.aload_n 0, 1) := by decide +kernel
theorem dX0_takeDown_126 : decode cX0_takeDown 126 = .ok (.getfield 15, 3) := by decide +kernel
theorem dX0_takeDown_129 : decode cX0_takeDown 129 = .ok (.aload_n 0, 1) := by decide +kernel
theorem dX0_takeDown_130 : decode cX0_takeDown 130 = .ok (.iload_n 3, 1) := by decide +kernel
theorem dX0_takeDown_131 : decode cX0_takeDown 131 = .ok (.iload 6, 2) := by decide +kernel
theorem dX0_takeDown_133 : decode cX0_takeDown 133 = .ok (.invokevirtual 190, 3) := by decide +kernel
theorem dX0_takeDown_136 : decode cX0_takeDown 136 = .ok (.iaload, 1) := by decide +kernel
theorem dX0_takeDown_137 : decode cX0_takeDown 137 = .ok (.ldc 196, 2) := by decide +kernel
theorem dX0_takeDown_139 : decode cX0_takeDown 139 = .ok (.isub, 1) := by decide +kernel
theorem dX0_takeDown_140 : decode cX0_takeDown 140 = .ok (.invokestatic 203, 3) := by decide +kernel
theorem dX0_takeDown_143 : decode cX0_takeDown 143 = .ok (.istore 7, 2) := by decide +kernel
theorem dX0_takeDown_145 : decode cX0_takeDown 145 = .ok (.aload_n 0, 1) := by decide +kernel
theorem dX0_takeDown_146 : decode cX0_takeDown 146 = .ok (.getfield 15, 3) := by decide +kernel
theorem dX0_takeDown_149 : decode cX0_takeDown 149 = .ok (.aload_n 0, 1) := by decide +kernel
theorem dX0_takeDown_150 : decode cX0_takeDown 150 = .ok (.iload_n 3, 1) := by decide +kernel
theorem dX0_takeDown_151 : decode cX0_takeDown 151 = .ok (.iload 6, 2) := by decide +kernel
theorem dX0_takeDown_153 : decode cX0_takeDown 153 = .ok (.invokevirtual 190, 3) := by decide +kernel
theorem dX0_takeDown_156 : decode cX0_takeDown 156 = .ok (.dup2, 1) := by decide +kernel
theorem dX0_takeDown_157 : decode cX0_takeDown 157 = .ok (.iaload, 1) := by decide +kernel
theorem dX0_takeDown_158 : decode cX0_takeDown 158 = .ok (.iload 7, 2) := by decide +kernel
theorem dX0_takeDown_160 : decode cX0_takeDown 160 = .ok (.isub, 1) := by decide +kernel
theorem dX0_takeDown_161 : decode cX0_takeDown 161 = .ok (.iastore, 1) := by decide +kernel
theorem dX0_takeDown_162 : decode cX0_takeDown 162 = .ok (.aload_n 0, 1) := by decide +kernel
theorem dX0_takeDown_163 : decode cX0_takeDown 163 = .ok (.getfield 45, 3) := by decide +kernel
theorem dX0_takeDown_166 : decode cX0_takeDown 166 = .ok (.getfield 156, 3) := by decide +kernel
theorem dX0_takeDown_169 : decode cX0_takeDown 169 = .ok (.iload_n 3, 1) := by decide +kernel
theorem dX0_takeDown_170 : decode cX0_takeDown 170 = .ok (.dup2, 1) := by decide +kernel
theorem dX0_takeDown_171 : decode cX0_takeDown 171 = .ok (.iaload, 1) := by decide +kernel
theorem dX0_takeDown_172 : decode cX0_takeDown 172 = .ok (.iload 7, 2) := by decide +kernel
theorem dX0_takeDown_174 : decode cX0_takeDown 174 = .ok (.iadd, 1) := by decide +kernel
theorem dX0_takeDown_175 : decode cX0_takeDown 175 = .ok (.iastore, 1) := by decide +kernel
theorem dX0_takeDown_176 : decode cX0_takeDown 176 = .ok (.iinc 6 1, 3) := by decide +kernel
theorem dX0_takeDown_179 : decode cX0_takeDown 179 = .ok (.goto (-61), 3) := by decide +kernel
theorem dX0_takeDown_182 : decode cX0_takeDown 182 = .ok (.aload_n 0, 1) := by decide +kernel
theorem dX0_takeDown_183 : decode cX0_takeDown 183 = .ok (.getfield 45, 3) := by decide +kernel
theorem dX0_takeDown_186 : decode cX0_takeDown 186 = .ok (.getfield 193, 3) := by decide +kernel
theorem dX0_takeDown_189 : decode cX0_takeDown 189 = .ok (.iload_n 3, 1) := by decide +kernel
theorem dX0_takeDown_190 : decode cX0_takeDown 190 = .ok (.aload_n 1, 1) := by decide +kernel
theorem dX0_takeDown_191 : decode cX0_takeDown 191 = .ok (.getfield 15, 3) := by decide +kernel
theorem dX0_takeDown_194 : decode cX0_takeDown 194 = .ok (.iload 4, 2) := by decide +kernel
theorem dX0_takeDown_196 : decode cX0_takeDown 196 = .ok (.iaload, 1) := by decide +kernel
theorem dX0_takeDown_197 : decode cX0_takeDown 197 = .ok (.iastore, 1) := by decide +kernel
theorem dX0_takeDown_198 : decode cX0_takeDown 198 = .ok (.iinc 3 1, 3) := by decide +kernel
theorem dX0_takeDown_201 : decode cX0_takeDown 201 = .ok (.goto (-189), 3) := by decide +kernel
theorem dX0_takeDown_204 : decode cX0_takeDown 204 = .ok (.aload_n 0, 1) := by decide +kernel
theorem dX0_takeDown_205 : decode cX0_takeDown 205 = .ok (.aload_n 0, 1) := by decide +kernel
theorem dX0_takeDown_206 : decode cX0_takeDown 206 = .ok (.getfield 15, 3) := by decide +kernel
theorem dX0_takeDown_209 : decode cX0_takeDown 209 = .ok (.iconst 0, 1) := by decide +kernel
theorem dX0_takeDown_210 : decode cX0_takeDown 210 = .ok (.invokevirtual 145, 3) := by decide +kernel
theorem dX0_takeDown_213 : decode cX0_takeDown 213 = .ok (.iload_n 2, 1) := by decide +kernel
theorem dX0_takeDown_214 : decode cX0_takeDown 214 = .ok (.isub, 1) := by decide +kernel
theorem dX0_takeDown_215 : decode cX0_takeDown 215 = .ok (.ireturn, 1) := by decide +kernel
noncomputable def L_X0_takeDown_52 (o1 : Nat) (o2 : Nat) (x1 : Int32) (x2 : Int32) (x4 : Int32) (x5 : Int32) : Nat → Int32 → qM → (qM → Option (Int32 × qM)) → Option (Int32 × qM)
  | 0, _, _, _ => none
  | n + 1, x6, u5, e1 => if 4 ≤ x6 then e1 u5 else q_bd (f_X0_fineCell o1 x2 x6 u5) (fun (x7 : Int32) (u6 : qM) => q_ck (q_in x7 48) (q_ck (q_in x7 48) (q_lt (q_si u6 38 o1 (Int32.toNatClampNeg x7) ((u6.1 38 o1 (Int32.toNatClampNeg x7)) + x5)) (fun (u7 : qM) => q_lt (x6 + 1) (fun (x8 : Int32) => L_X0_takeDown_52 o1 o2 x1 x2 x4 x5 n x8 u7 e1)))))
noncomputable def L_X0_takeDown_84 (o1 : Nat) (o2 : Nat) (x1 : Int32) (x2 : Int32) (x4 : Int32) : Nat → Int32 → qM → (qM → Option (Int32 × qM)) → Option (Int32 × qM)
  | 0, _, _, _ => none
  | n + 1, x9, u9, e1 => if 4 ≤ x9 then e1 u9 else q_ck (q_in x2 12) (q_bd (f_X0_unfilled o1 x2 x9 u9) (fun (x10 : Int32) (u10 : qM) => q_ck (q_in x2 12) (q_lt (q_si u10 46 o1 (Int32.toNatClampNeg x2) ((u9.1 46 o1 (Int32.toNatClampNeg x2)) - x10)) (fun (u11 : qM) => q_lt (x9 + 1) (fun (x11 : Int32) => L_X0_takeDown_84 o1 o2 x1 x2 x4 n x11 u11 e1)))))
noncomputable def L_X0_takeDown_118 (o1 : Nat) (o2 : Nat) (x1 : Int32) (x2 : Int32) (x4 : Int32) : Nat → Int32 → qM → (qM → Option (Int32 × qM)) → Option (Int32 × qM)
  | 0, _, _, _ => none
  | n + 1, x12, u13, e1 => if 4 ≤ x12 then e1 u13 else q_bd (f_X0_fineCell o1 x2 x12 u13) (fun (x13 : Int32) (u14 : qM) => q_ck (q_in x13 48) (q_lt ((if 0 < ((u14.1 38 o1 (Int32.toNatClampNeg x13)) - 100000) then (u14.1 38 o1 (Int32.toNatClampNeg x13)) - 100000 else 0)) (fun (x14 : Int32) => q_bd (f_X0_fineCell o1 x2 x12 u14) (fun (x15 : Int32) (u15 : qM) => q_ck (q_in x15 48) (q_ck (q_in x15 48) (q_lt (q_si u15 38 o1 (Int32.toNatClampNeg x15) ((u15.1 38 o1 (Int32.toNatClampNeg x15)) - x14)) (fun (u16 : qM) => q_ck (q_in x2 12) (q_ck (q_in x2 12) (q_lt (q_si u16 46 o1 (Int32.toNatClampNeg x2) ((u16.1 46 o1 (Int32.toNatClampNeg x2)) + x14)) (fun (u17 : qM) => q_lt (x12 + 1) (fun (x16 : Int32) => L_X0_takeDown_118 o1 o2 x1 x2 x4 n x16 u17 e1)))))))))))
noncomputable def L_X0_takeDown_12 (o1 : Nat) (o2 : Nat) (x1 : Int32) : Nat → Int32 → qM → (qM → Option (Int32 × qM)) → Option (Int32 × qM)
  | 0, _, _, _ => none
  | n + 1, x2, u2, e1 => q_bd (f_X0_cells o1 u2) (fun (x3 : Int32) (u3 : qM) => if (x3 / 4) ≤ x2 then e1 u3 else q_bd (f_X0_underCell o1 x2 o2 u3) (fun (x4 : Int32) (u4 : qM) => q_ck (q_in x4 48) (q_ck (q_in x2 12) (q_lt ((u4.1 38 o2 (Int32.toNatClampNeg x4)) - (u4.1 45 o1 (Int32.toNatClampNeg x2))) (fun (x5 : Int32) => L_X0_takeDown_52 o1 o2 x1 x2 x4 x5 q_fu 0 u4 (fun u8 => L_X0_takeDown_84 o1 o2 x1 x2 x4 q_fu 0 u8 (fun u12 => L_X0_takeDown_118 o1 o2 x1 x2 x4 q_fu 0 u12 (fun u18 => q_ck (q_in x4 48) (q_ck (q_in x2 12) (q_lt (q_si u18 45 o1 (Int32.toNatClampNeg x2) (u18.1 38 o2 (Int32.toNatClampNeg x4))) (fun (u19 : qM) => q_lt (x2 + 1) (fun (x17 : Int32) => L_X0_takeDown_12 o1 o2 x1 n x17 u19 e1))))))))))))
noncomputable def f_X0_takeDown (o1 : Nat) (o2 : Nat) (u0 : qM) : Option (Int32 × qM) :=
  q_bd (f_X0_sum o1 38 o1 0 u0) (fun (x1 : Int32) (u1 : qM) => L_X0_takeDown_12 o1 o2 x1 q_fu 0 u1 (fun u20 => q_bd (f_X0_sum o1 38 o1 0 u20) (fun (x18 : Int32) (u21 : qM) => some (x18 - x1, u21))))
set_option maxRecDepth 100000 in
set_option maxHeartbeats 4000000 in
theorem TL_X0_takeDown_52 (l : Launch) (G : qG) (o1 : Nat) (o2 : Nat) (x1 : Int32) (x2 : Int32) (x4 : Int32) (x5 : Int32) (q3 : o1 < 7) (q4 : o2 < 7) (e1 : qM → Option (Int32 × qM)) (he1 : ∀  (v : qM), qAW l G m_X0_takeDown (q_mq G q_cI) 81 [(0, .ref (q_ad G 2 o1)), (1, .ref (q_ad G 2 o2)), (2, .int x1), (3, .int x2), (4, .int x4)] [] v (e1 v)) : ∀ (n : Nat) (x6 : Int32) (u5 : qM), qAW l G m_X0_takeDown (q_mq G q_cI) 52 [(0, .ref (q_ad G 2 o1)), (1, .ref (q_ad G 2 o2)), (2, .int x1), (3, .int x2), (4, .int x4), (5, .int x5), (6, .int x6)] [] u5 (L_X0_takeDown_52 o1 o2 x1 x2 x4 x5 n x6 u5 e1) := by
  intro n
  induction n with
  | zero => intros; exact aw_none
  | succ n ih =>
    intro x6 u5
    unfold L_X0_takeDown_52
    refine aw_iload (i := 6) dX0_takeDown_52 54 rfl 6 rfl ?_
    refine aw_iconst (x := 4) dX0_takeDown_54 55 rfl rfl ?_
    refine aw_icmp_ge dX0_takeDown_55 58 rfl 81 rfl (fun h4 => ?_) (fun h4 => ?_)
    · exact aw_conv [0, 1, 2, 3, 4] rfl (he1 u5)
    · refine aw_aload_n (i := 0) dX0_takeDown_58 59 rfl rfl 0 rfl ?_
      refine gf_X0_1 dX0_takeDown_59 62 rfl wd_19 (ok_2 q3) ?_
      refine aw_aload_n (i := 0) dX0_takeDown_62 63 rfl rfl 0 rfl ?_
      refine aw_iload_n (i := 3) dX0_takeDown_63 64 rfl rfl 3 rfl ?_
      refine aw_iload (i := 6) dX0_takeDown_64 66 rfl 6 rfl ?_
      refine aw_callV (M2 := m_X0_fineCell) (cv := q_cI) dX0_takeDown_66 69 rfl (k_X0_fineCell l G o1 x2 x6 q3 u5) wd_47 wv_X0_fineCell pk_X0_fineCell rfl rfl ⟨by decide, by decide⟩ ⟨Nat.zero_le _, Nat.zero_le _⟩ at_2 (ok_2 q3) rfl rfl rfl (Nat.le_of_ble_eq_true rfl) (fun x7 u6 => ?_)
      show qAW l G m_X0_takeDown (q_mq G q_cI) 69 [(0, .ref (q_ad G 2 o1)), (1, .ref (q_ad G 2 o2)), (2, .int x1), (3, .int x2), (4, .int x4), (5, .int x5), (6, .int x6)] [.int x7, .ref (q_ad G 38 o1)] u6 _
      refine aw_dup2 dX0_takeDown_69 70 rfl rfl rfl ?_
      refine aw_iald dX0_takeDown_70 71 rfl at_38 (al_38 _) (ok_38 q3) (fun h5 => ?_)
      refine aw_iload (i := 5) dX0_takeDown_71 73 rfl 5 rfl ?_
      refine aw_iadd dX0_takeDown_73 74 rfl ?_
      refine aw_iast dX0_takeDown_74 75 rfl at_38 (al_38 _) (ok_38 q3) (fun h6 => ?_)
      refine aw_ltm (fun u7 => ?_)
      refine aw_iincx (i := 6) dX0_takeDown_75 78 rfl 6 rfl 1 rfl (fun x8 => [(6, .int x8), (0, .ref (q_ad G 2 o1)), (1, .ref (q_ad G 2 o2)), (2, .int x1), (3, .int x2), (4, .int x4), (5, .int x5)]) (by decide) (fun _ => rfl) (fun x8 => ?_)
      refine aw_goto dX0_takeDown_78 52 rfl ?_
      exact aw_conv [1, 2, 3, 4, 5, 6, 0] rfl (ih x8 u7)
set_option maxRecDepth 100000 in
set_option maxHeartbeats 4000000 in
theorem TL_X0_takeDown_84 (l : Launch) (G : qG) (o1 : Nat) (o2 : Nat) (x1 : Int32) (x2 : Int32) (x4 : Int32) (q5 : o1 < 7) (q6 : o2 < 7) (e1 : qM → Option (Int32 × qM)) (he1 : ∀  (v : qM), qAW l G m_X0_takeDown (q_mq G q_cI) 115 [(0, .ref (q_ad G 2 o1)), (1, .ref (q_ad G 2 o2)), (2, .int x1), (3, .int x2), (4, .int x4)] [] v (e1 v)) : ∀ (n : Nat) (x9 : Int32) (u9 : qM), qAW l G m_X0_takeDown (q_mq G q_cI) 84 [(0, .ref (q_ad G 2 o1)), (1, .ref (q_ad G 2 o2)), (2, .int x1), (3, .int x2), (4, .int x4), (6, .int x9)] [] u9 (L_X0_takeDown_84 o1 o2 x1 x2 x4 n x9 u9 e1) := by
  intro n
  induction n with
  | zero => intros; exact aw_none
  | succ n ih =>
    intro x9 u9
    unfold L_X0_takeDown_84
    refine aw_iload (i := 6) dX0_takeDown_84 86 rfl 5 rfl ?_
    refine aw_iconst (x := 4) dX0_takeDown_86 87 rfl rfl ?_
    refine aw_icmp_ge dX0_takeDown_87 90 rfl 115 rfl (fun h7 => ?_) (fun h7 => ?_)
    · exact aw_conv [0, 1, 2, 3, 4] rfl (he1 u9)
    · refine aw_aload_n (i := 0) dX0_takeDown_90 91 rfl rfl 0 rfl ?_
      refine gf_X0_7 dX0_takeDown_91 94 rfl wd_17 (ok_2 q5) ?_
      refine gfN_X4_1 dX0_takeDown_94 97 rfl "SeaCells" (ns_20) (ok_5 q5) ?_
      refine aw_iload_n (i := 3) dX0_takeDown_97 98 rfl rfl 3 rfl ?_
      refine aw_dup2 dX0_takeDown_98 99 rfl rfl rfl ?_
      refine aw_iald dX0_takeDown_99 100 rfl at_46 (al_46 _) (ok_46 q5) (fun h8 => ?_)
      refine aw_aload_n (i := 0) dX0_takeDown_100 101 rfl rfl 0 rfl ?_
      refine aw_iload_n (i := 3) dX0_takeDown_101 102 rfl rfl 3 rfl ?_
      refine aw_iload (i := 6) dX0_takeDown_102 104 rfl 5 rfl ?_
      refine aw_callV (M2 := m_X0_unfilled) (cv := q_cI) dX0_takeDown_104 107 rfl (k_X0_unfilled l G o1 x2 x9 q5 u9) wd_57 wv_X0_unfilled pk_X0_unfilled rfl rfl ⟨by decide, by decide⟩ ⟨Nat.zero_le _, Nat.zero_le _⟩ at_2 (ok_2 q5) rfl rfl rfl (Nat.le_of_ble_eq_true rfl) (fun x10 u10 => ?_)
      show qAW l G m_X0_takeDown (q_mq G q_cI) 107 [(0, .ref (q_ad G 2 o1)), (1, .ref (q_ad G 2 o2)), (2, .int x1), (3, .int x2), (4, .int x4), (6, .int x9)] [.int x10, .int (u9.1 46 o1 (Int32.toNatClampNeg x2)), .int x2, .ref (q_ad G 46 o1)] u10 _
      refine aw_isub dX0_takeDown_107 108 rfl ?_
      refine aw_iast dX0_takeDown_108 109 rfl at_46 (al_46 _) (ok_46 q5) (fun h9 => ?_)
      refine aw_ltm (fun u11 => ?_)
      refine aw_iincx (i := 6) dX0_takeDown_109 112 rfl 5 rfl 1 rfl (fun x11 => [(6, .int x11), (0, .ref (q_ad G 2 o1)), (1, .ref (q_ad G 2 o2)), (2, .int x1), (3, .int x2), (4, .int x4)]) (by decide) (fun _ => rfl) (fun x11 => ?_)
      refine aw_goto dX0_takeDown_112 84 rfl ?_
      exact aw_conv [1, 2, 3, 4, 5, 0] rfl (ih x11 u11)
set_option maxRecDepth 100000 in
set_option maxHeartbeats 4000000 in
theorem TL_X0_takeDown_118 (l : Launch) (G : qG) (o1 : Nat) (o2 : Nat) (x1 : Int32) (x2 : Int32) (x4 : Int32) (q7 : o1 < 7) (q8 : o2 < 7) (e1 : qM → Option (Int32 × qM)) (he1 : ∀  (v : qM), qAW l G m_X0_takeDown (q_mq G q_cI) 182 [(0, .ref (q_ad G 2 o1)), (1, .ref (q_ad G 2 o2)), (2, .int x1), (3, .int x2), (4, .int x4)] [] v (e1 v)) : ∀ (n : Nat) (x12 : Int32) (u13 : qM), qAW l G m_X0_takeDown (q_mq G q_cI) 118 [(0, .ref (q_ad G 2 o1)), (1, .ref (q_ad G 2 o2)), (2, .int x1), (3, .int x2), (4, .int x4), (6, .int x12)] [] u13 (L_X0_takeDown_118 o1 o2 x1 x2 x4 n x12 u13 e1) := by
  intro n
  induction n with
  | zero => intros; exact aw_none
  | succ n ih =>
    intro x12 u13
    unfold L_X0_takeDown_118
    refine aw_iload (i := 6) dX0_takeDown_118 120 rfl 5 rfl ?_
    refine aw_iconst (x := 4) dX0_takeDown_120 121 rfl rfl ?_
    refine aw_icmp_ge dX0_takeDown_121 124 rfl 182 rfl (fun h10 => ?_) (fun h10 => ?_)
    · exact aw_conv [0, 1, 2, 3, 4] rfl (he1 u13)
    · refine aw_iconst (x := 0) dX0_takeDown_124 125 rfl rfl ?_
      refine aw_aload_n (i := 0) dX0_takeDown_125 126 rfl rfl 0 rfl ?_
      refine gf_X0_1 dX0_takeDown_126 129 rfl wd_19 (ok_2 q7) ?_
      refine aw_aload_n (i := 0) dX0_takeDown_129 130 rfl rfl 0 rfl ?_
      refine aw_iload_n (i := 3) dX0_takeDown_130 131 rfl rfl 3 rfl ?_
      refine aw_iload (i := 6) dX0_takeDown_131 133 rfl 5 rfl ?_
      refine aw_callV (M2 := m_X0_fineCell) (cv := q_cI) dX0_takeDown_133 136 rfl (k_X0_fineCell l G o1 x2 x12 q7 u13) wd_47 wv_X0_fineCell pk_X0_fineCell rfl rfl ⟨by decide, by decide⟩ ⟨Nat.zero_le _, Nat.zero_le _⟩ at_2 (ok_2 q7) rfl rfl rfl (Nat.le_of_ble_eq_true rfl) (fun x13 u14 => ?_)
      show qAW l G m_X0_takeDown (q_mq G q_cI) 136 [(0, .ref (q_ad G 2 o1)), (1, .ref (q_ad G 2 o2)), (2, .int x1), (3, .int x2), (4, .int x4), (6, .int x12)] [.int x13, .ref (q_ad G 38 o1), .int 0] u14 _
      refine aw_iald dX0_takeDown_136 137 rfl at_38 (al_38 _) (ok_38 q7) (fun h11 => ?_)
      refine aw_ldc (x := 100000) dX0_takeDown_137 139 rfl wd_48 ?_
      refine aw_isub dX0_takeDown_139 140 rfl ?_
      refine aw_max dX0_takeDown_140 143 rfl wd_54 wd_55 wd_52 wd_56 (Nat.le_of_ble_eq_true rfl) (Nat.le_of_ble_eq_true rfl) (Nat.zero_le _) (Nat.zero_le _) ?_
      refine aw_lti (fun x14 => ?_)
      refine aw_istore dX0_takeDown_143 145 rfl [(7, .int x14), (0, .ref (q_ad G 2 o1)), (1, .ref (q_ad G 2 o2)), (2, .int x1), (3, .int x2), (4, .int x4), (6, .int x12)] (by decide) rfl ?_
      refine aw_aload_n (i := 0) dX0_takeDown_145 146 rfl rfl 1 rfl ?_
      refine gf_X0_1 dX0_takeDown_146 149 rfl wd_19 (ok_2 q7) ?_
      refine aw_aload_n (i := 0) dX0_takeDown_149 150 rfl rfl 1 rfl ?_
      refine aw_iload_n (i := 3) dX0_takeDown_150 151 rfl rfl 4 rfl ?_
      refine aw_iload (i := 6) dX0_takeDown_151 153 rfl 6 rfl ?_
      refine aw_callV (M2 := m_X0_fineCell) (cv := q_cI) dX0_takeDown_153 156 rfl (k_X0_fineCell l G o1 x2 x12 q7 u14) wd_47 wv_X0_fineCell pk_X0_fineCell rfl rfl ⟨by decide, by decide⟩ ⟨Nat.zero_le _, Nat.zero_le _⟩ at_2 (ok_2 q7) rfl rfl rfl (Nat.le_of_ble_eq_true rfl) (fun x15 u15 => ?_)
      show qAW l G m_X0_takeDown (q_mq G q_cI) 156 [(7, .int x14), (0, .ref (q_ad G 2 o1)), (1, .ref (q_ad G 2 o2)), (2, .int x1), (3, .int x2), (4, .int x4), (6, .int x12)] [.int x15, .ref (q_ad G 38 o1)] u15 _
      refine aw_dup2 dX0_takeDown_156 157 rfl rfl rfl ?_
      refine aw_iald dX0_takeDown_157 158 rfl at_38 (al_38 _) (ok_38 q7) (fun h12 => ?_)
      refine aw_iload (i := 7) dX0_takeDown_158 160 rfl 0 rfl ?_
      refine aw_isub dX0_takeDown_160 161 rfl ?_
      refine aw_iast dX0_takeDown_161 162 rfl at_38 (al_38 _) (ok_38 q7) (fun h13 => ?_)
      refine aw_ltm (fun u16 => ?_)
      refine aw_aload_n (i := 0) dX0_takeDown_162 163 rfl rfl 1 rfl ?_
      refine gf_X0_7 dX0_takeDown_163 166 rfl wd_17 (ok_2 q7) ?_
      refine gfN_X4_1 dX0_takeDown_166 169 rfl "SeaCells" (ns_20) (ok_5 q7) ?_
      refine aw_iload_n (i := 3) dX0_takeDown_169 170 rfl rfl 4 rfl ?_
      refine aw_dup2 dX0_takeDown_170 171 rfl rfl rfl ?_
      refine aw_iald dX0_takeDown_171 172 rfl at_46 (al_46 _) (ok_46 q7) (fun h14 => ?_)
      refine aw_iload (i := 7) dX0_takeDown_172 174 rfl 0 rfl ?_
      refine aw_iadd dX0_takeDown_174 175 rfl ?_
      refine aw_iast dX0_takeDown_175 176 rfl at_46 (al_46 _) (ok_46 q7) (fun h15 => ?_)
      refine aw_ltm (fun u17 => ?_)
      refine aw_iincx (i := 6) dX0_takeDown_176 179 rfl 6 rfl 1 rfl (fun x16 => [(6, .int x16), (7, .int x14), (0, .ref (q_ad G 2 o1)), (1, .ref (q_ad G 2 o2)), (2, .int x1), (3, .int x2), (4, .int x4)]) (by decide) (fun _ => rfl) (fun x16 => ?_)
      refine aw_goto dX0_takeDown_179 118 rfl ?_
      exact aw_conv [2, 3, 4, 5, 6, 0] rfl (ih x16 u17)
set_option maxRecDepth 100000 in
set_option maxHeartbeats 4000000 in
theorem TL_X0_takeDown_12 (l : Launch) (G : qG) (o1 : Nat) (o2 : Nat) (x1 : Int32) (q1 : o1 < 7) (q2 : o2 < 7) (e1 : qM → Option (Int32 × qM)) (he1 : ∀  (v : qM), qAW l G m_X0_takeDown (q_mq G q_cI) 204 [(0, .ref (q_ad G 2 o1)), (2, .int x1)] [] v (e1 v)) : ∀ (n : Nat) (x2 : Int32) (u2 : qM), qAW l G m_X0_takeDown (q_mq G q_cI) 12 [(0, .ref (q_ad G 2 o1)), (1, .ref (q_ad G 2 o2)), (2, .int x1), (3, .int x2)] [] u2 (L_X0_takeDown_12 o1 o2 x1 n x2 u2 e1) := by
  intro n
  induction n with
  | zero => intros; exact aw_none
  | succ n ih =>
    intro x2 u2
    unfold L_X0_takeDown_12
    refine aw_iload_n (i := 3) dX0_takeDown_12 13 rfl rfl 3 rfl ?_
    refine aw_aload_n (i := 0) dX0_takeDown_13 14 rfl rfl 0 rfl ?_
    refine aw_callV (M2 := m_X0_cells) (cv := q_cI) dX0_takeDown_14 17 rfl (k_X0_cells l G o1 q1 u2) wd_37 wv_X0_cells pk_X0_cells rfl rfl ⟨by decide, by decide⟩ ⟨Nat.zero_le _, Nat.zero_le _⟩ at_2 (ok_2 q1) rfl rfl rfl (Nat.le_of_ble_eq_true rfl) (fun x3 u3 => ?_)
    show qAW l G m_X0_takeDown (q_mq G q_cI) 17 [(0, .ref (q_ad G 2 o1)), (1, .ref (q_ad G 2 o2)), (2, .int x1), (3, .int x2)] [.int x3, .int x2] u3 _
    refine aw_iconst (x := 4) dX0_takeDown_17 18 rfl rfl ?_
    refine aw_idiv dX0_takeDown_18 19 rfl (by decide) ?_
    refine aw_icmp_ge dX0_takeDown_19 22 rfl 204 rfl (fun h1 => ?_) (fun h1 => ?_)
    · exact aw_conv [0, 2] rfl (he1 u3)
    · refine aw_aload_n (i := 0) dX0_takeDown_22 23 rfl rfl 0 rfl ?_
      refine aw_iload_n (i := 3) dX0_takeDown_23 24 rfl rfl 3 rfl ?_
      refine aw_aload_n (i := 1) dX0_takeDown_24 25 rfl rfl 1 rfl ?_
      refine aw_callV (M2 := m_X0_underCell) (cv := q_cI) dX0_takeDown_25 28 rfl (k_X0_underCell l G o1 x2 o2 q1 q2 u3) wd_46 wv_X0_underCell pk_X0_underCell rfl rfl ⟨by decide, by decide⟩ ⟨Nat.zero_le _, Nat.zero_le _⟩ at_2 (ok_2 q1) rfl rfl rfl (Nat.le_of_ble_eq_true rfl) (fun x4 u4 => ?_)
      show qAW l G m_X0_takeDown (q_mq G q_cI) 28 [(0, .ref (q_ad G 2 o1)), (1, .ref (q_ad G 2 o2)), (2, .int x1), (3, .int x2)] [.int x4] u4 _
      refine aw_istore dX0_takeDown_28 30 rfl [(4, .int x4), (0, .ref (q_ad G 2 o1)), (1, .ref (q_ad G 2 o2)), (2, .int x1), (3, .int x2)] (by decide) rfl ?_
      refine aw_aload_n (i := 1) dX0_takeDown_30 31 rfl rfl 2 rfl ?_
      refine gf_X0_1 dX0_takeDown_31 34 rfl wd_19 (ok_2 q2) ?_
      refine aw_iload (i := 4) dX0_takeDown_34 36 rfl 0 rfl ?_
      refine aw_iald dX0_takeDown_36 37 rfl at_38 (al_38 _) (ok_38 q2) (fun h2 => ?_)
      refine aw_aload_n (i := 0) dX0_takeDown_37 38 rfl rfl 1 rfl ?_
      refine gf_X0_7 dX0_takeDown_38 41 rfl wd_17 (ok_2 q1) ?_
      refine gfN_X4_0 dX0_takeDown_41 44 rfl "SeaCells" (ns_19) (ok_5 q1) ?_
      refine aw_iload_n (i := 3) dX0_takeDown_44 45 rfl rfl 4 rfl ?_
      refine aw_iald dX0_takeDown_45 46 rfl at_45 (al_45 _) (ok_45 q1) (fun h3 => ?_)
      refine aw_isub dX0_takeDown_46 47 rfl ?_
      refine aw_lti (fun x5 => ?_)
      refine aw_istore dX0_takeDown_47 49 rfl [(5, .int x5), (4, .int x4), (0, .ref (q_ad G 2 o1)), (1, .ref (q_ad G 2 o2)), (2, .int x1), (3, .int x2)] (by decide) rfl ?_
      refine aw_iconst (x := 0) dX0_takeDown_49 50 rfl rfl ?_
      refine aw_istore dX0_takeDown_50 52 rfl [(6, .int 0), (5, .int x5), (4, .int x4), (0, .ref (q_ad G 2 o1)), (1, .ref (q_ad G 2 o2)), (2, .int x1), (3, .int x2)] (by decide) rfl ?_
      refine aw_conv [3, 4, 5, 6, 2, 1, 0] rfl (TL_X0_takeDown_52 l G o1 o2 x1 x2 x4 x5 q1 q2 _ ?_ _ 0 u4)
      · intro u8
        refine aw_iconst (x := 0) dX0_takeDown_81 82 rfl rfl ?_
        refine aw_istore dX0_takeDown_82 84 rfl [(6, .int 0), (0, .ref (q_ad G 2 o1)), (1, .ref (q_ad G 2 o2)), (2, .int x1), (3, .int x2), (4, .int x4)] (by decide) rfl ?_
        refine aw_conv [1, 2, 3, 4, 5, 0] rfl (TL_X0_takeDown_84 l G o1 o2 x1 x2 x4 q1 q2 _ ?_ _ 0 u8)
        · intro u12
          refine aw_iconst (x := 0) dX0_takeDown_115 116 rfl rfl ?_
          refine aw_istore dX0_takeDown_116 118 rfl [(6, .int 0), (0, .ref (q_ad G 2 o1)), (1, .ref (q_ad G 2 o2)), (2, .int x1), (3, .int x2), (4, .int x4)] (by decide) rfl ?_
          refine aw_conv [1, 2, 3, 4, 5, 0] rfl (TL_X0_takeDown_118 l G o1 o2 x1 x2 x4 q1 q2 _ ?_ _ 0 u12)
          · intro u18
            refine aw_aload_n (i := 0) dX0_takeDown_182 183 rfl rfl 0 rfl ?_
            refine gf_X0_7 dX0_takeDown_183 186 rfl wd_17 (ok_2 q1) ?_
            refine gfN_X4_0 dX0_takeDown_186 189 rfl "SeaCells" (ns_19) (ok_5 q1) ?_
            refine aw_iload_n (i := 3) dX0_takeDown_189 190 rfl rfl 3 rfl ?_
            refine aw_aload_n (i := 1) dX0_takeDown_190 191 rfl rfl 1 rfl ?_
            refine gf_X0_1 dX0_takeDown_191 194 rfl wd_19 (ok_2 q2) ?_
            refine aw_iload (i := 4) dX0_takeDown_194 196 rfl 4 rfl ?_
            refine aw_iald dX0_takeDown_196 197 rfl at_38 (al_38 _) (ok_38 q2) (fun h16 => ?_)
            refine aw_iast dX0_takeDown_197 198 rfl at_45 (al_45 _) (ok_45 q1) (fun h17 => ?_)
            refine aw_ltm (fun u19 => ?_)
            refine aw_iincx (i := 3) dX0_takeDown_198 201 rfl 3 rfl 1 rfl (fun x17 => [(3, .int x17), (0, .ref (q_ad G 2 o1)), (1, .ref (q_ad G 2 o2)), (2, .int x1), (4, .int x4)]) (by decide) (fun _ => rfl) (fun x17 => ?_)
            refine aw_goto dX0_takeDown_201 12 rfl ?_
            exact aw_conv [1, 2, 3, 0] rfl (ih x17 u19)
set_option maxRecDepth 100000 in
set_option maxHeartbeats 4000000 in
theorem k_X0_takeDown (l : Launch) (G : qG) (o1 : Nat) (o2 : Nat) (ho1 : o1 < 7) (ho2 : o2 < 7) (u0 : qM) : qCt l G m_X0_takeDown q_cI [.ref (q_ad G 2 o1), .ref (q_ad G 2 o2)] u0 (f_X0_takeDown o1 o2 u0) := by
  refine q_entry pk_X0_takeDown (Nat.le_of_ble_eq_true rfl) ?_
  show qAW l G m_X0_takeDown (q_mq G q_cI) 0 [(0, .ref (q_ad G 2 o1)), (1, .ref (q_ad G 2 o2))] [] u0 (f_X0_takeDown o1 o2 u0)
  unfold f_X0_takeDown
  refine aw_aload_n (i := 0) dX0_takeDown_0 1 rfl rfl 0 rfl ?_
  refine aw_aload_n (i := 0) dX0_takeDown_1 2 rfl rfl 0 rfl ?_
  refine gf_X0_1 dX0_takeDown_2 5 rfl wd_19 (ok_2 ho1) ?_
  refine aw_iconst (x := 0) dX0_takeDown_5 6 rfl rfl ?_
  refine aw_callV (M2 := m_X0_sum) (cv := q_cI) dX0_takeDown_6 9 rfl (k_X0_sum l G o1 38 o1 0 ho1 at_38 (ok_38 ho1) u0) wd_38 wv_X0_sum pk_X0_sum rfl rfl ⟨by decide, by decide⟩ ⟨Nat.zero_le _, Nat.zero_le _⟩ at_2 (ok_2 ho1) rfl rfl rfl (Nat.le_of_ble_eq_true rfl) (fun x1 u1 => ?_)
  show qAW l G m_X0_takeDown (q_mq G q_cI) 9 [(0, .ref (q_ad G 2 o1)), (1, .ref (q_ad G 2 o2))] [.int x1] u1 _
  refine aw_istore_n dX0_takeDown_9 10 rfl rfl [(2, .int x1), (0, .ref (q_ad G 2 o1)), (1, .ref (q_ad G 2 o2))] (by decide) rfl ?_
  refine aw_iconst (x := 0) dX0_takeDown_10 11 rfl rfl ?_
  refine aw_istore_n dX0_takeDown_11 12 rfl rfl [(3, .int 0), (2, .int x1), (0, .ref (q_ad G 2 o1)), (1, .ref (q_ad G 2 o2))] (by decide) rfl ?_
  refine aw_conv [2, 3, 1, 0] rfl (TL_X0_takeDown_12 l G o1 o2 x1 ho1 ho2 _ ?_ _ 0 u1)
  · intro u20
    refine aw_aload_n (i := 0) dX0_takeDown_204 205 rfl rfl 0 rfl ?_
    refine aw_aload_n (i := 0) dX0_takeDown_205 206 rfl rfl 0 rfl ?_
    refine gf_X0_1 dX0_takeDown_206 209 rfl wd_19 (ok_2 ho1) ?_
    refine aw_iconst (x := 0) dX0_takeDown_209 210 rfl rfl ?_
    refine aw_callV (M2 := m_X0_sum) (cv := q_cI) dX0_takeDown_210 213 rfl (k_X0_sum l G o1 38 o1 0 ho1 at_38 (ok_38 ho1) u20) wd_38 wv_X0_sum pk_X0_sum rfl rfl ⟨by decide, by decide⟩ ⟨Nat.zero_le _, Nat.zero_le _⟩ at_2 (ok_2 ho1) rfl rfl rfl (Nat.le_of_ble_eq_true rfl) (fun x18 u21 => ?_)
    show qAW l G m_X0_takeDown (q_mq G q_cI) 213 [(0, .ref (q_ad G 2 o1)), (2, .int x1)] [.int x18] u21 _
    refine aw_iload_n (i := 2) dX0_takeDown_213 214 rfl rfl 1 rfl ?_
    refine aw_isub dX0_takeDown_214 215 rfl ?_
    exact aw_iret dX0_takeDown_215 rfl
theorem dX1_drift_0 : decode cX1_drift 0 = .ok (.aload_n 1, 1) := by decide +kernel
theorem dX1_drift_1 : decode cX1_drift 1 = .ok (.getfield 15, 3) := by decide +kernel
theorem dX1_drift_4 : decode cX1_drift 4 = .ok (.astore_n 2, 1) := by decide +kernel
theorem dX1_drift_5 : decode cX1_drift 5 = .ok (.aload_n 0, 1) := by decide +kernel
theorem dX1_drift_6 : decode cX1_drift 6 = .ok (.getfield 21, 3) := by decide +kernel
theorem dX1_drift_9 : decode cX1_drift 9 = .ok (.istore_n 3, 1) := by decide +kernel
theorem dX1_drift_10 : decode cX1_drift 10 = .ok (.aload_n 0, 1) := by decide +kernel
theorem dX1_drift_11 : decode cX1_drift 11 = .ok (.getfield 24, 3) := by decide +kernel
theorem dX1_drift_14 : decode cX1_drift 14 = .ok (.iconst 1, 1) := by decide +kernel
theorem dX1_drift_15 : decode cX1_drift 15 = .ok (.isub, 1) := by decide +kernel
theorem dX1_drift_16 : decode cX1_drift 16 = .ok (.istore 4, 2) := by decide +kernel
theorem dX1_drift_18 : decode cX1_drift 18 = .ok (.aload_n 1, 1) := by decide +kernel
theorem dX1_drift_19 : decode cX1_drift 19 = .ok (.iconst 2, 1) := by decide +kernel
theorem dX1_drift_20 : decode cX1_drift 20 = .ok (.iload_n 3, 1) := by decide +kernel
theorem dX1_drift_21 : decode cX1_drift 21 = .ok (.imul, 1) := by decide +kernel
theorem dX1_drift_22 : decode cX1_drift 22 = .ok (.invokevirtual 27, 3) := by decide +kernel
theorem dX1_drift_25 : decode cX1_drift 25 = .ok (.ifCond .eq 27, 3) := by decide +kernel
theorem dX1_drift_28 : decode cX1_drift 28 = .ok (.aload_n 2, 1) := by decide +kernel
theorem dX1_drift_29 : decode cX1_drift 29 = .ok (.iconst 2, 1) := by decide +kernel
theorem dX1_drift_30 : decode cX1_drift 30 = .ok (.iload_n 3, 1) := by decide +kernel
theorem dX1_drift_31 : decode cX1_drift 31 = .ok (.imul, 1) := by decide +kernel
theorem dX1_drift_32 : decode cX1_drift 32 = .ok (.iaload, 1) := by decide +kernel
theorem dX1_drift_33 : decode cX1_drift 33 = .ok (.iload 4, 2) := by decide +kernel
theorem dX1_drift_35 : decode cX1_drift 35 = .ok (.if_icmp .le 17, 3) := by decide +kernel
theorem dX1_drift_38 : decode cX1_drift 38 = .ok (.aload_n 2, 1) := by decide +kernel
theorem dX1_drift_39 : decode cX1_drift 39 = .ok (.iconst 2, 1) := by decide +kernel
theorem dX1_drift_40 : decode cX1_drift 40 = .ok (.iload_n 3, 1) := by decide +kernel
theorem dX1_drift_41 : decode cX1_drift 41 = .ok (.imul, 1) := by decide +kernel
theorem dX1_drift_42 : decode cX1_drift 42 = .ok (.iaload, 1) := by decide +kernel
theorem dX1_drift_43 : decode cX1_drift 43 = .ok (.istore 4, 2) := by decide +kernel
theorem dX1_drift_45 : decode cX1_drift 45 = .ok (.aload_n 0, 1) := by decide +kernel
theorem dX1_drift_46 : decode cX1_drift 46 = .ok (.iload_n 3, 1) := by decide +kernel
theorem dX1_drift_47 : decode cX1_drift 47 = .ok (.iconst 1, 1) := by decide +kernel
theorem dX1_drift_48 : decode cX1_drift 48 = .ok (.iadd, 1) := by decide +kernel
theorem dX1_drift_49 : decode cX1_drift 49 = .ok (.putfield 21, 3) := by decide +kernel
theorem dX1_drift_52 : decode cX1_drift 52 = .ok (.aload_n 1, 1) := by decide +kernel
theorem dX1_drift_53 : decode cX1_drift 53 = .ok (.iconst 2, 1) := by decide +kernel
theorem dX1_drift_54 : decode cX1_drift 54 = .ok (.iload_n 3, 1) := by decide +kernel
theorem dX1_drift_55 : decode cX1_drift 55 = .ok (.imul, 1) := by decide +kernel
theorem dX1_drift_56 : decode cX1_drift 56 = .ok (.iconst 1, 1) := by decide +kernel
theorem dX1_drift_57 : decode cX1_drift 57 = .ok (.iadd, 1) := by decide +kernel
theorem dX1_drift_58 : decode cX1_drift 58 = .ok (.invokevirtual 27, 3) := by decide +kernel
theorem dX1_drift_61 : decode cX1_drift 61 = .ok (.ifCond .eq 34, 3) := by decide +kernel
theorem dX1_drift_64 : decode cX1_drift 64 = .ok (.aload_n 2, 1) := by decide +kernel
theorem dX1_drift_65 : decode cX1_drift 65 = .ok (.iconst 2, 1) := by decide +kernel
theorem dX1_drift_66 : decode cX1_drift 66 = .ok (.iload_n 3, 1) := by decide +kernel
theorem dX1_drift_67 : decode cX1_drift 67 = .ok (.imul, 1) := by decide +kernel
theorem dX1_drift_68 : decode cX1_drift 68 = .ok (.iconst 1, 1) := by decide +kernel
theorem dX1_drift_69 : decode cX1_drift 69 = .ok (.iadd, 1) := by decide +kernel
theorem dX1_drift_70 : decode cX1_drift 70 = .ok (.iaload, 1) := by decide +kernel
theorem dX1_drift_71 : decode cX1_drift 71 = .ok (.iload 4, 2) := by decide +kernel
theorem dX1_drift_73 : decode cX1_drift 73 = .ok (.if_icmp .le 22, 3) := by decide +kernel
theorem dX1_drift_76 : decode cX1_drift 76 = .ok (.aload_n 2, 1) := by decide +kernel
theorem dX1_drift_77 : decode cX1_drift 77 = .ok (.iconst 2, 1) := by decide +kernel
theorem dX1_drift_78 : decode cX1_drift 78 = .ok (.iload_n 3, 1) := by decide +kernel
theorem dX1_drift_79 : decode cX1_drift 79 = .ok (.imul, 1) := by decide +kernel
theorem dX1_drift_80 : decode cX1_drift 80 = .ok (.iconst 1, 1) := by decide +kernel
theorem dX1_drift_81 : decode cX1_drift 81 = .ok (.iadd, 1) := by decide +kernel
theorem dX1_drift_82 : decode cX1_drift 82 = .ok (.iaload, 1) := by decide +kernel
theorem dX1_drift_83 : decode cX1_drift 83 = .ok (.istore 4, 2) := by decide +kernel
theorem dX1_drift_85 : decode cX1_drift 85 = .ok (.aload_n 0, 1) := by decide +kernel
theorem dX1_drift_86 : decode cX1_drift 86 = .ok (.iload_n 3, 1) := by decide +kernel
theorem dX1_drift_87 : decode cX1_drift 87 = .ok (.aload_n 1, 1) := by decide +kernel
theorem dX1_drift_88 : decode cX1_drift 88 = .ok (.getfield 31, 3) := by decide +kernel
theorem dX1_drift_91 : decode cX1_drift 91 = .ok (.iadd, 1) := by decide +kernel
theorem dX1_drift_92 : decode cX1_drift 92 = .ok (.putfield 21, 3) := by decide +kernel
theorem dX1_drift_95 : decode cX1_drift 95 = .ok (.iconst 2, 1) := by decide +kernel
theorem dX1_drift_96 : decode cX1_drift 96 = .ok (.iload_n 3, 1) := by decide +kernel
theorem dX1_drift_97 : decode cX1_drift 97 = .ok (.iconst 1, 1) := by decide +kernel
theorem dX1_drift_98 : decode cX1_drift 98 = .ok (.isub, 1) := by decide +kernel
theorem dX1_drift_99 : decode cX1_drift 99 = .ok (.imul, 1) := by decide +kernel
theorem dX1_drift_100 : decode cX1_drift 100 = .ok (.istore 5, 2) := by decide +kernel
theorem dX1_drift_102 : decode cX1_drift 102 = .ok (.aload_n 1, 1) := by decide +kernel
theorem dX1_drift_103 : decode cX1_drift 103 = .ok (.iload 5, 2) := by decide +kernel
theorem dX1_drift_105 : decode cX1_drift 105 = .ok (.invokevirtual 27, 3) := by decide +kernel
theorem dX1_drift_108 : decode cX1_drift 108 = .ok (.ifCond .eq 27, 3) := by decide +kernel
theorem dX1_drift_111 : decode cX1_drift 111 = .ok (.aload_n 2, 1) := by decide +kernel
theorem dX1_drift_112 : decode cX1_drift 112 = .ok (.iload 5, 2) := by decide +kernel
theorem dX1_drift_114 : decode cX1_drift 114 = .ok (.iaload, 1) := by decide +kernel
theorem dX1_drift_115 : decode cX1_drift 115 = .ok (.ineg, 1) := by decide +kernel
theorem dX1_drift_116 : decode cX1_drift 116 = .ok (.iload 4, 2) := by decide +kernel
theorem dX1_drift_118 : decode cX1_drift 118 = .ok (.if_icmp .le 17, 3) := by decide +kernel
theorem dX1_drift_121 : decode cX1_drift 121 = .ok (.aload_n 2, 1) := by decide +kernel
theorem dX1_drift_122 : decode cX1_drift 122 = .ok (.iload 5, 2) := by decide +kernel
theorem dX1_drift_124 : decode cX1_drift 124 = .ok (.iaload, 1) := by decide +kernel
theorem dX1_drift_125 : decode cX1_drift 125 = .ok (.ineg, 1) := by decide +kernel
theorem dX1_drift_126 : decode cX1_drift 126 = .ok (.istore 4, 2) := by decide +kernel
theorem dX1_drift_128 : decode cX1_drift 128 = .ok (.aload_n 0, 1) := by decide +kernel
theorem dX1_drift_129 : decode cX1_drift 129 = .ok (.iload_n 3, 1) := by decide +kernel
theorem dX1_drift_130 : decode cX1_drift 130 = .ok (.iconst 1, 1) := by decide +kernel
theorem dX1_drift_131 : decode cX1_drift 131 = .ok (.isub, 1) := by decide +kernel
theorem dX1_drift_132 : decode cX1_drift 132 = .ok (.putfield 21, 3) := by decide +kernel
theorem dX1_drift_135 : decode cX1_drift 135 = .ok (.iconst 2, 1) := by decide +kernel
theorem dX1_drift_136 : decode cX1_drift 136 = .ok (.iload_n 3, 1) := by decide +kernel
theorem dX1_drift_137 : decode cX1_drift 137 = .ok (.aload_n 1, 1) := by decide +kernel
theorem dX1_drift_138 : decode cX1_drift 138 = .ok (.getfield 31, 3) := by decide +kernel
theorem dX1_drift_141 : decode cX1_drift 141 = .ok (.isub, 1) := by decide +kernel
theorem dX1_drift_142 : decode cX1_drift 142 = .ok (.imul, 1) := by decide +kernel
theorem dX1_drift_143 : decode cX1_drift 143 = .ok (.iconst 1, 1) := by decide +kernel
theorem dX1_drift_144 : decode cX1_drift 144 = .ok (.iadd, 1) := by decide +kernel
theorem dX1_drift_145 : decode cX1_drift 145 = .ok (.istore 6, 2) := by decide +kernel
theorem dX1_drift_147 : decode cX1_drift 147 = .ok (.aload_n 1, 1) := by decide +kernel
theorem dX1_drift_148 : decode cX1_drift 148 = .ok (.iload 6, 2) := by decide +kernel
theorem dX1_drift_150 : decode cX1_drift 150 = .ok (.invokevirtual 27, 3) := by decide +kernel
theorem dX1_drift_153 : decode cX1_drift 153 = .ok (.ifCond .eq 23, 3) := by decide +kernel
theorem dX1_drift_156 : decode cX1_drift 156 = .ok (.aload_n 2, 1) := by decide +kernel
theorem dX1_drift_157 : decode cX1_drift 157 = .ok (.iload 6, 2) := by decide +kernel
theorem dX1_drift_159 : decode cX1_drift 159 = .ok (.iaload, 1) := by decide +kernel
theorem dX1_drift_160 : decode cX1_drift 160 = .ok (.ineg, 1) := by decide +kernel
theorem dX1_drift_161 : decode cX1_drift 161 = .ok (.iload 4, 2) := by decide +kernel
theorem dX1_drift_163 : decode cX1_drift 163 = .ok (.if_icmp .le 13, 3) := by decide +kernel
theorem dX1_drift_166 : decode cX1_drift 166 = .ok (.aload_n 0, 1) := by decide +kernel
theorem dX1_drift_167 : decode cX1_drift 167 = .ok (.iload_n 3, 1) := by decide +kernel
theorem dX1_drift_168 : decode cX1_drift 168 = .ok (.aload_n 1, 1) := by decide +kernel
theorem dX1_drift_169 : decode cX1_drift 169 = .ok (.getfield 31, 3) := by decide +kernel
theorem dX1_drift_172 : decode cX1_drift 172 = .ok (.isub, 1) := by decide +kernel
theorem dX1_drift_173 : decode cX1_drift 173 = .ok (.putfield 21, 3) := by decide +kernel
theorem dX1_drift_176 : decode cX1_drift 176 = .ok (.return_, 1) := by decide +kernel
noncomputable def f_X1_drift (o1 : Nat) (o2 : Nat) (u0 : qM) : Option (Unit × qM) :=
  q_lt (u0.1 8 o1 1) (fun (x1 : Int32) => q_lt ((u0.1 8 o1 2) - 1) (fun (x2 : Int32) => q_bd (f_X0_hasSide o2 (2 * x1) u0) (fun (x3 : Int32) (u1 : qM) => q_jn (fun (x4 : Int32) (u2 : qM) => q_bd (f_X0_hasSide o2 ((2 * x1) + 1) u2) (fun (x5 : Int32) (u3 : qM) => q_jn (fun (x6 : Int32) (u4 : qM) => q_lt (2 * (x1 - 1)) (fun (x7 : Int32) => q_bd (f_X0_hasSide o2 x7 u4) (fun (x8 : Int32) (u5 : qM) => q_jn (fun (x9 : Int32) (u6 : qM) => q_lt ((2 * (x1 - (u6.1 2 o2 12))) + 1) (fun (x10 : Int32) => q_bd (f_X0_hasSide o2 x10 u6) (fun (x11 : Int32) (u7 : qM) => q_jn (fun  (u8 : qM) => some ((), u8)) (fun j4 => if x11 = 0 then j4 u7 else q_ck (q_in x10 96) (if (-(u7.1 40 o2 (Int32.toNatClampNeg x10))) ≤ x9 then j4 u7 else q_lt (q_si u7 8 o1 1 (x1 - (u7.1 2 o2 12))) (fun (u9 : qM) => j4 u9)))))) (fun j3 => if x8 = 0 then j3 x6 u5 else q_ck (q_in x7 96) (if (-(u5.1 40 o2 (Int32.toNatClampNeg x7))) ≤ x6 then j3 x6 u5 else q_ck (q_in x7 96) (q_lt (-(u5.1 40 o2 (Int32.toNatClampNeg x7))) (fun (x12 : Int32) => q_lt (q_si u5 8 o1 1 (x1 - 1)) (fun (u10 : qM) => j3 x12 u10)))))))) (fun j2 => if x5 = 0 then j2 x4 u3 else q_ck (q_in ((2 * x1) + 1) 96) (if (u3.1 40 o2 (Int32.toNatClampNeg ((2 * x1) + 1))) ≤ x4 then j2 x4 u3 else q_ck (q_in ((2 * x1) + 1) 96) (q_lt (u3.1 40 o2 (Int32.toNatClampNeg ((2 * x1) + 1))) (fun (x13 : Int32) => q_lt (q_si u3 8 o1 1 (x1 + (u3.1 2 o2 12))) (fun (u11 : qM) => j2 x13 u11))))))) (fun j1 => if x3 = 0 then j1 x2 u1 else q_ck (q_in (2 * x1) 96) (if (u1.1 40 o2 (Int32.toNatClampNeg (2 * x1))) ≤ x2 then j1 x2 u1 else q_ck (q_in (2 * x1) 96) (q_lt (u1.1 40 o2 (Int32.toNatClampNeg (2 * x1))) (fun (x14 : Int32) => q_lt (q_si u1 8 o1 1 (x1 + 1)) (fun (u12 : qM) => j1 x14 u12))))))))
set_option maxRecDepth 100000 in
set_option maxHeartbeats 4000000 in
theorem k_X1_drift (l : Launch) (G : qG) (o1 : Nat) (o2 : Nat) (ho1 : o1 < 8) (ho2 : o2 < 7) (u0 : qM) : qCt l G m_X1_drift q_cU [.ref (q_ad G 8 o1), .ref (q_ad G 2 o2)] u0 (f_X1_drift o1 o2 u0) := by
  refine q_entry pk_X1_drift (Nat.le_of_ble_eq_true rfl) ?_
  show qAW l G m_X1_drift (q_mq G q_cU) 0 [(0, .ref (q_ad G 8 o1)), (1, .ref (q_ad G 2 o2))] [] u0 (f_X1_drift o1 o2 u0)
  unfold f_X1_drift
  refine aw_aload_n (i := 1) dX1_drift_0 1 rfl rfl 1 rfl ?_
  refine gfN_X0_3 dX1_drift_1 4 rfl "SeaCells" (ns_33) (ok_2 ho2) ?_
  refine aw_astore_n dX1_drift_4 5 rfl rfl [(2, .ref (q_ad G 40 o2)), (0, .ref (q_ad G 8 o1)), (1, .ref (q_ad G 2 o2))] (by decide) rfl ?_
  refine aw_aload_n (i := 0) dX1_drift_5 6 rfl rfl 1 rfl ?_
  refine gf_X1_1 dX1_drift_6 9 rfl wd_58 (ok_8 ho1) ?_
  refine aw_lti (fun x1 => ?_)
  refine aw_istore_n dX1_drift_9 10 rfl rfl [(3, .int x1), (2, .ref (q_ad G 40 o2)), (0, .ref (q_ad G 8 o1)), (1, .ref (q_ad G 2 o2))] (by decide) rfl ?_
  refine aw_aload_n (i := 0) dX1_drift_10 11 rfl rfl 2 rfl ?_
  refine gf_X1_2 dX1_drift_11 14 rfl wd_59 (ok_8 ho1) ?_
  refine aw_iconst (x := 1) dX1_drift_14 15 rfl rfl ?_
  refine aw_isub dX1_drift_15 16 rfl ?_
  refine aw_lti (fun x2 => ?_)
  refine aw_istore dX1_drift_16 18 rfl [(4, .int x2), (3, .int x1), (2, .ref (q_ad G 40 o2)), (0, .ref (q_ad G 8 o1)), (1, .ref (q_ad G 2 o2))] (by decide) rfl ?_
  refine aw_aload_n (i := 1) dX1_drift_18 19 rfl rfl 4 rfl ?_
  refine aw_iconst (x := 2) dX1_drift_19 20 rfl rfl ?_
  refine aw_iload_n (i := 3) dX1_drift_20 21 rfl rfl 1 rfl ?_
  refine aw_imul dX1_drift_21 22 rfl ?_
  refine aw_callV (M2 := m_X0_hasSide) (cv := q_cI) dX1_drift_22 25 rfl (k_X0_hasSide l G o2 (2 * x1) ho2 u0) wd_60 wv_X0_hasSide pk_X0_hasSide rfl rfl ⟨by decide, by decide⟩ ⟨Nat.zero_le _, Nat.zero_le _⟩ at_2 (ok_2 ho2) rfl rfl rfl (Nat.le_of_ble_eq_true rfl) (fun x3 u1 => ?_)
  show qAW l G m_X1_drift (q_mq G q_cU) 25 [(4, .int x2), (3, .int x1), (2, .ref (q_ad G 40 o2)), (0, .ref (q_ad G 8 o1)), (1, .ref (q_ad G 2 o2))] [.int x3] u1 _
  refine aw_jn (fun k => ∀ (x4 : Int32) (u2 : qM), qAW l G m_X1_drift (q_mq G q_cU) 52 [(0, .ref (q_ad G 8 o1)), (1, .ref (q_ad G 2 o2)), (2, .ref (q_ad G 40 o2)), (3, .int x1), (4, .int x4)] [] u2 (k x4 u2)) ?_ ?_
  · intro x4 u2
    refine aw_aload_n (i := 1) dX1_drift_52 53 rfl rfl 1 rfl ?_
    refine aw_iconst (x := 2) dX1_drift_53 54 rfl rfl ?_
    refine aw_iload_n (i := 3) dX1_drift_54 55 rfl rfl 3 rfl ?_
    refine aw_imul dX1_drift_55 56 rfl ?_
    refine aw_iconst (x := 1) dX1_drift_56 57 rfl rfl ?_
    refine aw_iadd dX1_drift_57 58 rfl ?_
    refine aw_callV (M2 := m_X0_hasSide) (cv := q_cI) dX1_drift_58 61 rfl (k_X0_hasSide l G o2 ((2 * x1) + 1) ho2 u2) wd_60 wv_X0_hasSide pk_X0_hasSide rfl rfl ⟨by decide, by decide⟩ ⟨Nat.zero_le _, Nat.zero_le _⟩ at_2 (ok_2 ho2) rfl rfl rfl (Nat.le_of_ble_eq_true rfl) (fun x5 u3 => ?_)
    show qAW l G m_X1_drift (q_mq G q_cU) 61 [(0, .ref (q_ad G 8 o1)), (1, .ref (q_ad G 2 o2)), (2, .ref (q_ad G 40 o2)), (3, .int x1), (4, .int x4)] [.int x5] u3 _
    refine aw_jn (fun k => ∀ (x6 : Int32) (u4 : qM), qAW l G m_X1_drift (q_mq G q_cU) 95 [(0, .ref (q_ad G 8 o1)), (1, .ref (q_ad G 2 o2)), (2, .ref (q_ad G 40 o2)), (3, .int x1), (4, .int x6)] [] u4 (k x6 u4)) ?_ ?_
    · intro x6 u4
      refine aw_iconst (x := 2) dX1_drift_95 96 rfl rfl ?_
      refine aw_iload_n (i := 3) dX1_drift_96 97 rfl rfl 3 rfl ?_
      refine aw_iconst (x := 1) dX1_drift_97 98 rfl rfl ?_
      refine aw_isub dX1_drift_98 99 rfl ?_
      refine aw_imul dX1_drift_99 100 rfl ?_
      refine aw_lti (fun x7 => ?_)
      refine aw_istore dX1_drift_100 102 rfl [(5, .int x7), (0, .ref (q_ad G 8 o1)), (1, .ref (q_ad G 2 o2)), (2, .ref (q_ad G 40 o2)), (3, .int x1), (4, .int x6)] (by decide) rfl ?_
      refine aw_aload_n (i := 1) dX1_drift_102 103 rfl rfl 2 rfl ?_
      refine aw_iload (i := 5) dX1_drift_103 105 rfl 0 rfl ?_
      refine aw_callV (M2 := m_X0_hasSide) (cv := q_cI) dX1_drift_105 108 rfl (k_X0_hasSide l G o2 x7 ho2 u4) wd_60 wv_X0_hasSide pk_X0_hasSide rfl rfl ⟨by decide, by decide⟩ ⟨Nat.zero_le _, Nat.zero_le _⟩ at_2 (ok_2 ho2) rfl rfl rfl (Nat.le_of_ble_eq_true rfl) (fun x8 u5 => ?_)
      show qAW l G m_X1_drift (q_mq G q_cU) 108 [(5, .int x7), (0, .ref (q_ad G 8 o1)), (1, .ref (q_ad G 2 o2)), (2, .ref (q_ad G 40 o2)), (3, .int x1), (4, .int x6)] [.int x8] u5 _
      refine aw_jn (fun k => ∀ (x9 : Int32) (u6 : qM), qAW l G m_X1_drift (q_mq G q_cU) 135 [(0, .ref (q_ad G 8 o1)), (1, .ref (q_ad G 2 o2)), (2, .ref (q_ad G 40 o2)), (3, .int x1), (4, .int x9)] [] u6 (k x9 u6)) ?_ ?_
      · intro x9 u6
        refine aw_iconst (x := 2) dX1_drift_135 136 rfl rfl ?_
        refine aw_iload_n (i := 3) dX1_drift_136 137 rfl rfl 3 rfl ?_
        refine aw_aload_n (i := 1) dX1_drift_137 138 rfl rfl 1 rfl ?_
        refine gfN_X0_12 dX1_drift_138 141 rfl "SeaCells" (ns_45) (ok_2 ho2) ?_
        refine aw_isub dX1_drift_141 142 rfl ?_
        refine aw_imul dX1_drift_142 143 rfl ?_
        refine aw_iconst (x := 1) dX1_drift_143 144 rfl rfl ?_
        refine aw_iadd dX1_drift_144 145 rfl ?_
        refine aw_lti (fun x10 => ?_)
        refine aw_istore dX1_drift_145 147 rfl [(6, .int x10), (0, .ref (q_ad G 8 o1)), (1, .ref (q_ad G 2 o2)), (2, .ref (q_ad G 40 o2)), (3, .int x1), (4, .int x9)] (by decide) rfl ?_
        refine aw_aload_n (i := 1) dX1_drift_147 148 rfl rfl 2 rfl ?_
        refine aw_iload (i := 6) dX1_drift_148 150 rfl 0 rfl ?_
        refine aw_callV (M2 := m_X0_hasSide) (cv := q_cI) dX1_drift_150 153 rfl (k_X0_hasSide l G o2 x10 ho2 u6) wd_60 wv_X0_hasSide pk_X0_hasSide rfl rfl ⟨by decide, by decide⟩ ⟨Nat.zero_le _, Nat.zero_le _⟩ at_2 (ok_2 ho2) rfl rfl rfl (Nat.le_of_ble_eq_true rfl) (fun x11 u7 => ?_)
        show qAW l G m_X1_drift (q_mq G q_cU) 153 [(6, .int x10), (0, .ref (q_ad G 8 o1)), (1, .ref (q_ad G 2 o2)), (2, .ref (q_ad G 40 o2)), (3, .int x1), (4, .int x9)] [.int x11] u7 _
        refine aw_jn (fun k => ∀  (u8 : qM), qAW l G m_X1_drift (q_mq G q_cU) 176 [] [] u8 (k u8)) ?_ ?_
        · intro u8
          exact aw_vret dX1_drift_176 rfl
        · intro j4 hj4
          refine aw_if_eq dX1_drift_153 156 rfl 176 rfl (fun h4 => ?_) (fun h4 => ?_)
          · exact aw_conv [] rfl (hj4 u7)
          · refine aw_aload_n (i := 2) dX1_drift_156 157 rfl rfl 3 rfl ?_
            refine aw_iload (i := 6) dX1_drift_157 159 rfl 0 rfl ?_
            refine aw_iald dX1_drift_159 160 rfl at_40 (al_40 _) (ok_40 ho2) (fun h5 => ?_)
            refine aw_ineg dX1_drift_160 161 rfl ?_
            refine aw_iload (i := 4) dX1_drift_161 163 rfl 5 rfl ?_
            refine aw_icmp_le dX1_drift_163 166 rfl 176 rfl (fun h6 => ?_) (fun h6 => ?_)
            · exact aw_conv [] rfl (hj4 u7)
            · refine aw_aload_n (i := 0) dX1_drift_166 167 rfl rfl 1 rfl ?_
              refine aw_iload_n (i := 3) dX1_drift_167 168 rfl rfl 4 rfl ?_
              refine aw_aload_n (i := 1) dX1_drift_168 169 rfl rfl 2 rfl ?_
              refine gfN_X0_12 dX1_drift_169 172 rfl "SeaCells" (ns_45) (ok_2 ho2) ?_
              refine aw_isub dX1_drift_172 173 rfl ?_
              refine pf_X1_1 dX1_drift_173 176 rfl wd_58 (ok_8 ho1) ?_
              refine aw_ltm (fun u9 => ?_)
              exact aw_conv [] rfl (hj4 u9)
      · intro j3 hj3
        refine aw_if_eq dX1_drift_108 111 rfl 135 rfl (fun h3 => ?_) (fun h3 => ?_)
        · exact aw_conv [1, 2, 3, 4, 5] rfl (hj3 x6 u5)
        · refine aw_aload_n (i := 2) dX1_drift_111 112 rfl rfl 3 rfl ?_
          refine aw_iload (i := 5) dX1_drift_112 114 rfl 0 rfl ?_
          refine aw_iald dX1_drift_114 115 rfl at_40 (al_40 _) (ok_40 ho2) (fun h7 => ?_)
          refine aw_ineg dX1_drift_115 116 rfl ?_
          refine aw_iload (i := 4) dX1_drift_116 118 rfl 5 rfl ?_
          refine aw_icmp_le dX1_drift_118 121 rfl 135 rfl (fun h8 => ?_) (fun h8 => ?_)
          · exact aw_conv [1, 2, 3, 4, 5] rfl (hj3 x6 u5)
          · refine aw_aload_n (i := 2) dX1_drift_121 122 rfl rfl 3 rfl ?_
            refine aw_iload (i := 5) dX1_drift_122 124 rfl 0 rfl ?_
            refine aw_iald dX1_drift_124 125 rfl at_40 (al_40 _) (ok_40 ho2) (fun h9 => ?_)
            refine aw_ineg dX1_drift_125 126 rfl ?_
            refine aw_lti (fun x12 => ?_)
            refine aw_istore dX1_drift_126 128 rfl [(4, .int x12), (5, .int x7), (0, .ref (q_ad G 8 o1)), (1, .ref (q_ad G 2 o2)), (2, .ref (q_ad G 40 o2)), (3, .int x1)] (by decide) rfl ?_
            refine aw_aload_n (i := 0) dX1_drift_128 129 rfl rfl 2 rfl ?_
            refine aw_iload_n (i := 3) dX1_drift_129 130 rfl rfl 5 rfl ?_
            refine aw_iconst (x := 1) dX1_drift_130 131 rfl rfl ?_
            refine aw_isub dX1_drift_131 132 rfl ?_
            refine pf_X1_1 dX1_drift_132 135 rfl wd_58 (ok_8 ho1) ?_
            refine aw_ltm (fun u10 => ?_)
            exact aw_conv [2, 3, 4, 5, 0] rfl (hj3 x12 u10)
    · intro j2 hj2
      refine aw_if_eq dX1_drift_61 64 rfl 95 rfl (fun h2 => ?_) (fun h2 => ?_)
      · exact hj2 x4 u3
      · refine aw_aload_n (i := 2) dX1_drift_64 65 rfl rfl 2 rfl ?_
        refine aw_iconst (x := 2) dX1_drift_65 66 rfl rfl ?_
        refine aw_iload_n (i := 3) dX1_drift_66 67 rfl rfl 3 rfl ?_
        refine aw_imul dX1_drift_67 68 rfl ?_
        refine aw_iconst (x := 1) dX1_drift_68 69 rfl rfl ?_
        refine aw_iadd dX1_drift_69 70 rfl ?_
        refine aw_iald dX1_drift_70 71 rfl at_40 (al_40 _) (ok_40 ho2) (fun h10 => ?_)
        refine aw_iload (i := 4) dX1_drift_71 73 rfl 4 rfl ?_
        refine aw_icmp_le dX1_drift_73 76 rfl 95 rfl (fun h11 => ?_) (fun h11 => ?_)
        · exact hj2 x4 u3
        · refine aw_aload_n (i := 2) dX1_drift_76 77 rfl rfl 2 rfl ?_
          refine aw_iconst (x := 2) dX1_drift_77 78 rfl rfl ?_
          refine aw_iload_n (i := 3) dX1_drift_78 79 rfl rfl 3 rfl ?_
          refine aw_imul dX1_drift_79 80 rfl ?_
          refine aw_iconst (x := 1) dX1_drift_80 81 rfl rfl ?_
          refine aw_iadd dX1_drift_81 82 rfl ?_
          refine aw_iald dX1_drift_82 83 rfl at_40 (al_40 _) (ok_40 ho2) (fun h12 => ?_)
          refine aw_lti (fun x13 => ?_)
          refine aw_istore dX1_drift_83 85 rfl [(4, .int x13), (0, .ref (q_ad G 8 o1)), (1, .ref (q_ad G 2 o2)), (2, .ref (q_ad G 40 o2)), (3, .int x1)] (by decide) rfl ?_
          refine aw_aload_n (i := 0) dX1_drift_85 86 rfl rfl 1 rfl ?_
          refine aw_iload_n (i := 3) dX1_drift_86 87 rfl rfl 4 rfl ?_
          refine aw_aload_n (i := 1) dX1_drift_87 88 rfl rfl 2 rfl ?_
          refine gfN_X0_12 dX1_drift_88 91 rfl "SeaCells" (ns_45) (ok_2 ho2) ?_
          refine aw_iadd dX1_drift_91 92 rfl ?_
          refine pf_X1_1 dX1_drift_92 95 rfl wd_58 (ok_8 ho1) ?_
          refine aw_ltm (fun u11 => ?_)
          exact aw_conv [1, 2, 3, 4, 0] rfl (hj2 x13 u11)
  · intro j1 hj1
    refine aw_if_eq dX1_drift_25 28 rfl 52 rfl (fun h1 => ?_) (fun h1 => ?_)
    · exact aw_conv [3, 4, 2, 1, 0] rfl (hj1 x2 u1)
    · refine aw_aload_n (i := 2) dX1_drift_28 29 rfl rfl 2 rfl ?_
      refine aw_iconst (x := 2) dX1_drift_29 30 rfl rfl ?_
      refine aw_iload_n (i := 3) dX1_drift_30 31 rfl rfl 1 rfl ?_
      refine aw_imul dX1_drift_31 32 rfl ?_
      refine aw_iald dX1_drift_32 33 rfl at_40 (al_40 _) (ok_40 ho2) (fun h13 => ?_)
      refine aw_iload (i := 4) dX1_drift_33 35 rfl 0 rfl ?_
      refine aw_icmp_le dX1_drift_35 38 rfl 52 rfl (fun h14 => ?_) (fun h14 => ?_)
      · exact aw_conv [3, 4, 2, 1, 0] rfl (hj1 x2 u1)
      · refine aw_aload_n (i := 2) dX1_drift_38 39 rfl rfl 2 rfl ?_
        refine aw_iconst (x := 2) dX1_drift_39 40 rfl rfl ?_
        refine aw_iload_n (i := 3) dX1_drift_40 41 rfl rfl 1 rfl ?_
        refine aw_imul dX1_drift_41 42 rfl ?_
        refine aw_iald dX1_drift_42 43 rfl at_40 (al_40 _) (ok_40 ho2) (fun h15 => ?_)
        refine aw_lti (fun x14 => ?_)
        refine aw_istore dX1_drift_43 45 rfl [(4, .int x14), (3, .int x1), (2, .ref (q_ad G 40 o2)), (0, .ref (q_ad G 8 o1)), (1, .ref (q_ad G 2 o2))] (by decide) rfl ?_
        refine aw_aload_n (i := 0) dX1_drift_45 46 rfl rfl 3 rfl ?_
        refine aw_iload_n (i := 3) dX1_drift_46 47 rfl rfl 1 rfl ?_
        refine aw_iconst (x := 1) dX1_drift_47 48 rfl rfl ?_
        refine aw_iadd dX1_drift_48 49 rfl ?_
        refine pf_X1_1 dX1_drift_49 52 rfl wd_58 (ok_8 ho1) ?_
        refine aw_ltm (fun u12 => ?_)
        exact aw_conv [3, 4, 2, 1, 0] rfl (hj1 x14 u12)
theorem dX2_fromOldest_0 : decode cX2_fromOldest 0 = .ok (.aload_n 0, 1) := by decide +kernel
theorem dX2_fromOldest_1 : decode cX2_fromOldest 1 = .ok (.getfield 26, 3) := by decide +kernel
theorem dX2_fromOldest_4 : decode cX2_fromOldest 4 = .ok (.iload_n 1, 1) := by decide +kernel
theorem dX2_fromOldest_5 : decode cX2_fromOldest 5 = .ok (.iadd, 1) := by decide +kernel
theorem dX2_fromOldest_6 : decode cX2_fromOldest 6 = .ok (.bipush 48, 2) := by decide +kernel
theorem dX2_fromOldest_8 : decode cX2_fromOldest 8 = .ok (.irem, 1) := by decide +kernel
theorem dX2_fromOldest_9 : decode cX2_fromOldest 9 = .ok (.ireturn, 1) := by decide +kernel
noncomputable def f_X2_fromOldest (o1 : Nat) (x1 : Int32) (u0 : qM) : Option (Int32 × qM) :=
  some (((u0.1 9 o1 4) + x1) - ((u0.1 9 o1 4) + x1) / 48 * 48, u0)
set_option maxRecDepth 100000 in
set_option maxHeartbeats 4000000 in
theorem k_X2_fromOldest (l : Launch) (G : qG) (o1 : Nat) (x1 : Int32) (ho1 : o1 < 8) (u0 : qM) : qCt l G m_X2_fromOldest q_cI [.ref (q_ad G 9 o1), .int x1] u0 (f_X2_fromOldest o1 x1 u0) := by
  refine q_entry pk_X2_fromOldest (Nat.le_of_ble_eq_true rfl) ?_
  show qAW l G m_X2_fromOldest (q_mq G q_cI) 0 [(0, .ref (q_ad G 9 o1)), (1, .int x1)] [] u0 (f_X2_fromOldest o1 x1 u0)
  unfold f_X2_fromOldest
  refine aw_aload_n (i := 0) dX2_fromOldest_0 1 rfl rfl 0 rfl ?_
  refine gf_X2_4 dX2_fromOldest_1 4 rfl wd_61 (ok_9 ho1) ?_
  refine aw_iload_n (i := 1) dX2_fromOldest_4 5 rfl rfl 1 rfl ?_
  refine aw_iadd dX2_fromOldest_5 6 rfl ?_
  refine aw_bipush (x := 48) dX2_fromOldest_6 8 rfl rfl ?_
  refine aw_irem dX2_fromOldest_8 9 rfl (by decide) ?_
  exact aw_iret dX2_fromOldest_9 rfl
theorem dX2_read_0 : decode cX2_read 0 = .ok (.aload_n 0, 1) := by decide +kernel
theorem dX2_read_1 : decode cX2_read 1 = .ok (.aload_n 0, 1) := by decide +kernel
theorem dX2_read_2 : decode cX2_read 2 = .ok (.getfield 29, 3) := by decide +kernel
theorem dX2_read_5 : decode cX2_read 5 = .ok (.invokevirtual 32, 3) := by decide +kernel
theorem dX2_read_8 : decode cX2_read 8 = .ok (.istore_n 2, 1) := by decide +kernel
theorem dX2_read_9 : decode cX2_read 9 = .ok (.aload_n 0, 1) := by decide +kernel
theorem dX2_read_10 : decode cX2_read 10 = .ok (.getfield 9, 3) := by decide +kernel
theorem dX2_read_13 : decode cX2_read 13 = .ok (.iload_n 2, 1) := by decide +kernel
theorem dX2_read_14 : decode cX2_read 14 = .ok (.iload_n 1, 1) := by decide +kernel
theorem dX2_read_15 : decode cX2_read 15 = .ok (.iastore, 1) := by decide +kernel
theorem dX2_read_16 : decode cX2_read 16 = .ok (.aload_n 0, 1) := by decide +kernel
theorem dX2_read_17 : decode cX2_read 17 = .ok (.getfield 15, 3) := by decide +kernel
theorem dX2_read_20 : decode cX2_read 20 = .ok (.iload_n 2, 1) := by decide +kernel
theorem dX2_read_21 : decode cX2_read 21 = .ok (.iconst 0, 1) := by decide +kernel
theorem dX2_read_22 : decode cX2_read 22 = .ok (.bastore, 1) := by decide +kernel
theorem dX2_read_23 : decode cX2_read 23 = .ok (.aload_n 0, 1) := by decide +kernel
theorem dX2_read_24 : decode cX2_read 24 = .ok (.getfield 29, 3) := by decide +kernel
theorem dX2_read_27 : decode cX2_read 27 = .ok (.bipush 48, 2) := by decide +kernel
theorem dX2_read_29 : decode cX2_read 29 = .ok (.if_icmp .ge 16, 3) := by decide +kernel
theorem dX2_read_32 : decode cX2_read 32 = .ok (.aload_n 0, 1) := by decide +kernel
theorem dX2_read_33 : decode cX2_read 33 = .ok (.dup, 1) := by decide +kernel
theorem dX2_read_34 : decode cX2_read 34 = .ok (.getfield 29, 3) := by decide +kernel
theorem dX2_read_37 : decode cX2_read 37 = .ok (.iconst 1, 1) := by decide +kernel
theorem dX2_read_38 : decode cX2_read 38 = .ok (.iadd, 1) := by decide +kernel
theorem dX2_read_39 : decode cX2_read 39 = .ok (.putfield 29, 3) := by decide +kernel
theorem dX2_read_42 : decode cX2_read 42 = .ok (.goto 12, 3) := by decide +kernel
theorem dX2_read_45 : decode cX2_read 45 = .ok (.aload_n 0, 1) := by decide +kernel
theorem dX2_read_46 : decode cX2_read 46 = .ok (.aload_n 0, 1) := by decide +kernel
theorem dX2_read_47 : decode cX2_read 47 = .ok (.iconst 1, 1) := by decide +kernel
theorem dX2_read_48 : decode cX2_read 48 = .ok (.invokevirtual 32, 3) := by decide +kernel
theorem dX2_read_51 : decode cX2_read 51 = .ok (.putfield 26, 3) := by decide +kernel
theorem dX2_read_54 : decode cX2_read 54 = .ok (.return_, 1) := by decide +kernel
noncomputable def f_X2_read (o1 : Nat) (x1 : Int32) (u0 : qM) : Option (Unit × qM) :=
  q_bd (f_X2_fromOldest o1 (u0.1 9 o1 5) u0) (fun (x2 : Int32) (u1 : qM) => q_ck (q_in x2 48) (q_lt (q_si u1 52 o1 (Int32.toNatClampNeg x2) x1) (fun (u2 : qM) => q_ck (q_in x2 48) (q_lt (q_si u2 53 o1 (Int32.toNatClampNeg x2) (vp_nar .boolean 0)) (fun (u3 : qM) => q_jn (fun  (u4 : qM) => some ((), u4)) (fun j1 => if 48 ≤ (u3.1 9 o1 5) then q_bd (f_X2_fromOldest o1 1 u3) (fun (x3 : Int32) (u5 : qM) => q_lt (q_si u5 9 o1 4 x3) (fun (u6 : qM) => j1 u6)) else q_lt (q_si u3 9 o1 5 ((u3.1 9 o1 5) + 1)) (fun (u7 : qM) => j1 u7)))))))
set_option maxRecDepth 100000 in
set_option maxHeartbeats 4000000 in
theorem k_X2_read (l : Launch) (G : qG) (o1 : Nat) (x1 : Int32) (ho1 : o1 < 8) (u0 : qM) : qCt l G m_X2_read q_cU [.ref (q_ad G 9 o1), .int x1] u0 (f_X2_read o1 x1 u0) := by
  refine q_entry pk_X2_read (Nat.le_of_ble_eq_true rfl) ?_
  show qAW l G m_X2_read (q_mq G q_cU) 0 [(0, .ref (q_ad G 9 o1)), (1, .int x1)] [] u0 (f_X2_read o1 x1 u0)
  unfold f_X2_read
  refine aw_aload_n (i := 0) dX2_read_0 1 rfl rfl 0 rfl ?_
  refine aw_aload_n (i := 0) dX2_read_1 2 rfl rfl 0 rfl ?_
  refine gf_X2_5 dX2_read_2 5 rfl wd_62 (ok_9 ho1) ?_
  refine aw_callV (M2 := m_X2_fromOldest) (cv := q_cI) dX2_read_5 8 rfl (k_X2_fromOldest l G o1 (u0.1 9 o1 5) ho1 u0) wd_63 wv_X2_fromOldest pk_X2_fromOldest rfl rfl ⟨by decide, by decide⟩ ⟨Nat.zero_le _, Nat.zero_le _⟩ at_9 (ok_9 ho1) rfl rfl rfl (Nat.le_of_ble_eq_true rfl) (fun x2 u1 => ?_)
  show qAW l G m_X2_read (q_mq G q_cU) 8 [(0, .ref (q_ad G 9 o1)), (1, .int x1)] [.int x2] u1 _
  refine aw_istore_n dX2_read_8 9 rfl rfl [(2, .int x2), (0, .ref (q_ad G 9 o1)), (1, .int x1)] (by decide) rfl ?_
  refine aw_aload_n (i := 0) dX2_read_9 10 rfl rfl 1 rfl ?_
  refine gf_X2_0 dX2_read_10 13 rfl wd_64 (ok_9 ho1) ?_
  refine aw_iload_n (i := 2) dX2_read_13 14 rfl rfl 0 rfl ?_
  refine aw_iload_n (i := 1) dX2_read_14 15 rfl rfl 2 rfl ?_
  refine aw_iast dX2_read_15 16 rfl at_52 (al_52 _) (ok_52 ho1) (fun h1 => ?_)
  refine aw_ltm (fun u2 => ?_)
  refine aw_aload_n (i := 0) dX2_read_16 17 rfl rfl 1 rfl ?_
  refine gf_X2_1 dX2_read_17 20 rfl wd_65 (ok_9 ho1) ?_
  refine aw_iload_n (i := 2) dX2_read_20 21 rfl rfl 0 rfl ?_
  refine aw_iconst (x := 0) dX2_read_21 22 rfl rfl ?_
  refine aw_zast dX2_read_22 23 rfl at_53 (al_53 _) (ok_53 ho1) (fun h2 => ?_)
  refine aw_ltm (fun u3 => ?_)
  refine aw_aload_n (i := 0) dX2_read_23 24 rfl rfl 1 rfl ?_
  refine gf_X2_5 dX2_read_24 27 rfl wd_62 (ok_9 ho1) ?_
  refine aw_bipush (x := 48) dX2_read_27 29 rfl rfl ?_
  refine aw_jn (fun k => ∀  (u4 : qM), qAW l G m_X2_read (q_mq G q_cU) 54 [] [] u4 (k u4)) ?_ ?_
  · intro u4
    exact aw_vret dX2_read_54 rfl
  · intro j1 hj1
    refine aw_icmp_ge dX2_read_29 32 rfl 45 rfl (fun h3 => ?_) (fun h3 => ?_)
    · refine aw_aload_n (i := 0) dX2_read_45 46 rfl rfl 1 rfl ?_
      refine aw_aload_n (i := 0) dX2_read_46 47 rfl rfl 1 rfl ?_
      refine aw_iconst (x := 1) dX2_read_47 48 rfl rfl ?_
      refine aw_callV (M2 := m_X2_fromOldest) (cv := q_cI) dX2_read_48 51 rfl (k_X2_fromOldest l G o1 1 ho1 u3) wd_63 wv_X2_fromOldest pk_X2_fromOldest rfl rfl ⟨by decide, by decide⟩ ⟨Nat.zero_le _, Nat.zero_le _⟩ at_9 (ok_9 ho1) rfl rfl rfl (Nat.le_of_ble_eq_true rfl) (fun x3 u5 => ?_)
      show qAW l G m_X2_read (q_mq G q_cU) 51 [(2, .int x2), (0, .ref (q_ad G 9 o1)), (1, .int x1)] [.int x3, .ref (q_ad G 9 o1)] u5 _
      refine pf_X2_4 dX2_read_51 54 rfl wd_61 (ok_9 ho1) ?_
      refine aw_ltm (fun u6 => ?_)
      exact aw_conv [] rfl (hj1 u6)
    · refine aw_aload_n (i := 0) dX2_read_32 33 rfl rfl 1 rfl ?_
      refine aw_dup dX2_read_33 34 rfl rfl ?_
      refine gf_X2_5 dX2_read_34 37 rfl wd_62 (ok_9 ho1) ?_
      refine aw_iconst (x := 1) dX2_read_37 38 rfl rfl ?_
      refine aw_iadd dX2_read_38 39 rfl ?_
      refine pf_X2_5 dX2_read_39 42 rfl wd_62 (ok_9 ho1) ?_
      refine aw_ltm (fun u7 => ?_)
      refine aw_goto dX2_read_42 54 rfl ?_
      exact aw_conv [] rfl (hj1 u7)
theorem dX7_isThere_0 : decode cX7_isThere 0 = .ok (.aload_n 0, 1) := by decide +kernel
theorem dX7_isThere_1 : decode cX7_isThere 1 = .ok (.getfield 14, 3) := by decide +kernel
theorem dX7_isThere_4 : decode cX7_isThere 4 = .ok (.iload_n 1, 1) := by decide +kernel
theorem dX7_isThere_5 : decode cX7_isThere 5 = .ok (.iaload, 1) := by decide +kernel
theorem dX7_isThere_6 : decode cX7_isThere 6 = .ok (.ifCond .lt 7, 3) := by decide +kernel
theorem dX7_isThere_9 : decode cX7_isThere 9 = .ok (.iconst 1, 1) := by decide +kernel
theorem dX7_isThere_10 : decode cX7_isThere 10 = .ok (.goto 4, 3) := by decide +kernel
theorem dX7_isThere_13 : decode cX7_isThere 13 = .ok (.iconst 0, 1) := by decide +kernel
theorem dX7_isThere_14 : decode cX7_isThere 14 = .ok (.ireturn, 1) := by decide +kernel
noncomputable def f_X7_isThere (o1 : Nat) (x1 : Int32) (u0 : qM) : Option (Int32 × qM) :=
  q_ck (q_in x1 (q_slen o1)) (q_jn (fun (x2 : Int32) (u1 : qM) => q_ck (q_b x2) (some (x2, u1))) (fun j1 => if (u0.1 33 o1 (Int32.toNatClampNeg x1)) < 0 then j1 0 u0 else j1 1 u0))
set_option maxRecDepth 100000 in
set_option maxHeartbeats 4000000 in
theorem k_X7_isThere (l : Launch) (G : qG) (o1 : Nat) (x1 : Int32) (ho1 : o1 < 3) (u0 : qM) : qCt l G m_X7_isThere q_cI [.ref (q_ad G 1 o1), .int x1] u0 (f_X7_isThere o1 x1 u0) := by
  refine q_entry pk_X7_isThere (Nat.le_of_ble_eq_true rfl) ?_
  show qAW l G m_X7_isThere (q_mq G q_cI) 0 [(0, .ref (q_ad G 1 o1)), (1, .int x1)] [] u0 (f_X7_isThere o1 x1 u0)
  unfold f_X7_isThere
  refine aw_aload_n (i := 0) dX7_isThere_0 1 rfl rfl 0 rfl ?_
  refine gf_X7_1 dX7_isThere_1 4 rfl wd_34 (ok_1 ho1) ?_
  refine aw_iload_n (i := 1) dX7_isThere_4 5 rfl rfl 1 rfl ?_
  refine aw_iald dX7_isThere_5 6 rfl at_33 rfl (ok_33 ho1) (fun h1 => ?_)
  refine aw_jn (fun k => ∀ (x2 : Int32) (u1 : qM), qAW l G m_X7_isThere (q_mq G q_cI) 14 [] [.int x2] u1 (k x2 u1)) ?_ ?_
  · intro x2 u1
    refine aw_ck (fun h3 => ?_)
    exact aw_zret dX7_isThere_14 rfl h3
  · intro j1 hj1
    refine aw_if_lt dX7_isThere_6 9 rfl 13 rfl (fun h2 => ?_) (fun h2 => ?_)
    · refine aw_iconst (x := 0) dX7_isThere_13 14 rfl rfl ?_
      exact aw_conv [] rfl (hj1 0 u0)
    · refine aw_iconst (x := 1) dX7_isThere_9 10 rfl rfl ?_
      refine aw_goto dX7_isThere_10 14 rfl ?_
      exact aw_conv [] rfl (hj1 1 u0)
theorem dX7_hasPlace_0 : decode cX7_hasPlace 0 = .ok (.iload_n 2, 1) := by decide +kernel
theorem dX7_hasPlace_1 : decode cX7_hasPlace 1 = .ok (.ifCond .lt 17, 3) := by decide +kernel
theorem dX7_hasPlace_4 : decode cX7_hasPlace 4 = .ok (.iload_n 2, 1) := by decide +kernel
theorem dX7_hasPlace_5 : decode cX7_hasPlace 5 = .ok (.aload_n 0, 1) := by decide +kernel
theorem dX7_hasPlace_6 : decode cX7_hasPlace 6 = .ok (.getfield 14, 3) := by decide +kernel
theorem dX7_hasPlace_9 : decode cX7_hasPlace 9 = .ok (.iload_n 1, 1) := by decide +kernel
theorem dX7_hasPlace_10 : decode cX7_hasPlace 10 = .ok (.iaload, 1) := by decide +kernel
theorem dX7_hasPlace_11 : decode cX7_hasPlace 11 = .ok (.if_icmp .ge 7, 3) := by decide +kernel
theorem dX7_hasPlace_14 : decode cX7_hasPlace 14 = .ok (.iconst 1, 1) := by decide +kernel
theorem dX7_hasPlace_15 : decode cX7_hasPlace 15 = .ok (.goto 4, 3) := by decide +kernel
theorem dX7_hasPlace_18 : decode cX7_hasPlace 18 = .ok (.iconst 0, 1) := by decide +kernel
theorem dX7_hasPlace_19 : decode cX7_hasPlace 19 = .ok (.ireturn, 1) := by decide +kernel
noncomputable def f_X7_hasPlace (o1 : Nat) (x1 : Int32) (x2 : Int32) (u0 : qM) : Option (Int32 × qM) :=
  q_jn (fun (x3 : Int32) (u1 : qM) => q_ck (q_b x3) (some (x3, u1))) (fun j1 => q_jn (fun  (u2 : qM) => j1 0 u2) (fun j2 => if x2 < 0 then j2 u0 else q_ck (q_in x1 (q_slen o1)) (if (u0.1 33 o1 (Int32.toNatClampNeg x1)) ≤ x2 then j2 u0 else j1 1 u0)))
set_option maxRecDepth 100000 in
set_option maxHeartbeats 4000000 in
theorem k_X7_hasPlace (l : Launch) (G : qG) (o1 : Nat) (x1 : Int32) (x2 : Int32) (ho1 : o1 < 3) (u0 : qM) : qCt l G m_X7_hasPlace q_cI [.ref (q_ad G 1 o1), .int x1, .int x2] u0 (f_X7_hasPlace o1 x1 x2 u0) := by
  refine q_entry pk_X7_hasPlace (Nat.le_of_ble_eq_true rfl) ?_
  show qAW l G m_X7_hasPlace (q_mq G q_cI) 0 [(0, .ref (q_ad G 1 o1)), (1, .int x1), (2, .int x2)] [] u0 (f_X7_hasPlace o1 x1 x2 u0)
  unfold f_X7_hasPlace
  refine aw_iload_n (i := 2) dX7_hasPlace_0 1 rfl rfl 2 rfl ?_
  refine aw_jn (fun k => ∀ (x3 : Int32) (u1 : qM), qAW l G m_X7_hasPlace (q_mq G q_cI) 19 [] [.int x3] u1 (k x3 u1)) ?_ ?_
  · intro x3 u1
    refine aw_ck (fun h2 => ?_)
    exact aw_zret dX7_hasPlace_19 rfl h2
  · intro j1 hj1
    refine aw_jn (fun k => ∀  (u2 : qM), qAW l G m_X7_hasPlace (q_mq G q_cI) 18 [] [] u2 (k u2)) ?_ ?_
    · intro u2
      refine aw_iconst (x := 0) dX7_hasPlace_18 19 rfl rfl ?_
      exact hj1 0 u2
    · intro j2 hj2
      refine aw_if_lt dX7_hasPlace_1 4 rfl 18 rfl (fun h1 => ?_) (fun h1 => ?_)
      · exact aw_conv [] rfl (hj2 u0)
      · refine aw_iload_n (i := 2) dX7_hasPlace_4 5 rfl rfl 2 rfl ?_
        refine aw_aload_n (i := 0) dX7_hasPlace_5 6 rfl rfl 0 rfl ?_
        refine gf_X7_1 dX7_hasPlace_6 9 rfl wd_34 (ok_1 ho1) ?_
        refine aw_iload_n (i := 1) dX7_hasPlace_9 10 rfl rfl 1 rfl ?_
        refine aw_iald dX7_hasPlace_10 11 rfl at_33 rfl (ok_33 ho1) (fun h3 => ?_)
        refine aw_icmp_ge dX7_hasPlace_11 14 rfl 18 rfl (fun h4 => ?_) (fun h4 => ?_)
        · exact aw_conv [] rfl (hj2 u0)
        · refine aw_iconst (x := 1) dX7_hasPlace_14 15 rfl rfl ?_
          refine aw_goto dX7_hasPlace_15 19 rfl ?_
          exact aw_conv [] rfl (hj1 1 u0)
theorem dX7_make_0 : decode cX7_make 0 = .ok (.aload_n 0, 1) := by decide +kernel
theorem dX7_make_1 : decode cX7_make 1 = .ok (.getfield 14, 3) := by decide +kernel
theorem dX7_make_4 : decode cX7_make 4 = .ok (.iload_n 1, 1) := by decide +kernel
theorem dX7_make_5 : decode cX7_make 5 = .ok (.iload_n 2, 1) := by decide +kernel
theorem dX7_make_6 : decode cX7_make 6 = .ok (.iastore, 1) := by decide +kernel
theorem dX7_make_7 : decode cX7_make 7 = .ok (.iconst 0, 1) := by decide +kernel
theorem dX7_make_8 : decode cX7_make 8 = .ok (.istore 4, 2) := by decide +kernel
theorem dX7_make_10 : decode cX7_make 10 = .ok (.iload 4, 2) := by decide +kernel
theorem dX7_make_12 : decode cX7_make 12 = .ok (.iload_n 2, 1) := by decide +kernel
theorem dX7_make_13 : decode cX7_make 13 = .ok (.if_icmp .ge 19, 3) := by decide +kernel
theorem dX7_make_16 : decode cX7_make 16 = .ok (.aload_n 0, 1) := by decide +kernel
theorem dX7_make_17 : decode cX7_make 17 = .ok (.getfield 9, 3) := by decide +kernel
theorem dX7_make_20 : decode cX7_make 20 = .ok (.iload_n 1, 1) := by decide +kernel
theorem dX7_make_21 : decode cX7_make 21 = .ok (.aaload, 1) := by decide +kernel
theorem dX7_make_22 : decode cX7_make 22 = .ok (.iload 4, 2) := by decide +kernel
theorem dX7_make_24 : decode cX7_make 24 = .ok (.iload_n 3, 1) := by decide +kernel
theorem dX7_make_25 : decode cX7_make 25 = .ok (.iastore, 1) := by decide +kernel
theorem dX7_make_26 : decode cX7_make 26 = .ok (.iinc 4 1, 3) := by decide +kernel
theorem dX7_make_29 : decode cX7_make 29 = .ok (.goto (-19), 3) := by decide +kernel
theorem dX7_make_32 : decode cX7_make 32 = .ok (.return_, 1) := by decide +kernel
noncomputable def L_X7_make_10 (o1 : Nat) (x1 : Int32) (x2 : Int32) (x3 : Int32) : Nat → Int32 → qM → (qM → Option (Unit × qM)) → Option (Unit × qM)
  | 0, _, _, _ => none
  | n + 1, x4, u2, e1 => if x2 ≤ x4 then e1 u2 else q_ck (q_in x1 (q_slen o1)) (q_ck (q_in x4 (q_rlen o1)) (q_lt (q_si u2 (30 + o1) (Int32.toNatClampNeg x1) (Int32.toNatClampNeg x4) x3) (fun (u3 : qM) => q_lt (x4 + 1) (fun (x5 : Int32) => L_X7_make_10 o1 x1 x2 x3 n x5 u3 e1))))
noncomputable def f_X7_make (o1 : Nat) (x1 : Int32) (x2 : Int32) (x3 : Int32) (u0 : qM) : Option (Unit × qM) :=
  q_ck (q_in x1 (q_slen o1)) (q_lt (q_si u0 33 o1 (Int32.toNatClampNeg x1) x2) (fun (u1 : qM) => L_X7_make_10 o1 x1 x2 x3 q_fu 0 u1 (fun u4 => some ((), u4))))
set_option maxRecDepth 100000 in
set_option maxHeartbeats 4000000 in
theorem TL_X7_make_10 (l : Launch) (G : qG) (o1 : Nat) (x1 : Int32) (x2 : Int32) (x3 : Int32) (q1 : o1 < 3) (e1 : qM → Option (Unit × qM)) (he1 : ∀  (v : qM), qAW l G m_X7_make (q_mq G q_cU) 32 [] [] v (e1 v)) : ∀ (n : Nat) (x4 : Int32) (u2 : qM), qAW l G m_X7_make (q_mq G q_cU) 10 [(0, .ref (q_ad G 1 o1)), (1, .int x1), (2, .int x2), (3, .int x3), (4, .int x4)] [] u2 (L_X7_make_10 o1 x1 x2 x3 n x4 u2 e1) := by
  intro n
  induction n with
  | zero => intros; exact aw_none
  | succ n ih =>
    intro x4 u2
    unfold L_X7_make_10
    refine aw_iload (i := 4) dX7_make_10 12 rfl 4 rfl ?_
    refine aw_iload_n (i := 2) dX7_make_12 13 rfl rfl 2 rfl ?_
    refine aw_icmp_ge dX7_make_13 16 rfl 32 rfl (fun h2 => ?_) (fun h2 => ?_)
    · exact aw_conv [] rfl (he1 u2)
    · refine aw_aload_n (i := 0) dX7_make_16 17 rfl rfl 0 rfl ?_
      refine gf_X7_0 dX7_make_17 20 rfl wd_66 (ok_1 q1) ?_
      refine aw_iload_n (i := 1) dX7_make_20 21 rfl rfl 1 rfl ?_
      refine aw_aald dX7_make_21 22 rfl at_20 (by decide) (by decide) rfl rfl rfl (ok_20 q1) rfl (fun h3 => ?_)
      refine aw_iload (i := 4) dX7_make_22 24 rfl 4 rfl ?_
      refine aw_iload_n (i := 3) dX7_make_24 25 rfl rfl 3 rfl ?_
      refine aw_iast dX7_make_25 26 rfl (row_at q1) (row_al q1 _) (row_ok q1 (q_in_lt h3)) (fun h4 => ?_)
      refine aw_ltm (fun u3 => ?_)
      refine aw_iincx (i := 4) dX7_make_26 29 rfl 4 rfl 1 rfl (fun x5 => [(4, .int x5), (0, .ref (q_ad G 1 o1)), (1, .int x1), (2, .int x2), (3, .int x3)]) (by decide) (fun _ => rfl) (fun x5 => ?_)
      refine aw_goto dX7_make_29 10 rfl ?_
      exact aw_conv [1, 2, 3, 4, 0] rfl (ih x5 u3)
set_option maxRecDepth 100000 in
set_option maxHeartbeats 4000000 in
theorem k_X7_make (l : Launch) (G : qG) (o1 : Nat) (x1 : Int32) (x2 : Int32) (x3 : Int32) (ho1 : o1 < 3) (u0 : qM) : qCt l G m_X7_make q_cU [.ref (q_ad G 1 o1), .int x1, .int x2, .int x3] u0 (f_X7_make o1 x1 x2 x3 u0) := by
  refine q_entry pk_X7_make (Nat.le_of_ble_eq_true rfl) ?_
  show qAW l G m_X7_make (q_mq G q_cU) 0 [(0, .ref (q_ad G 1 o1)), (1, .int x1), (2, .int x2), (3, .int x3)] [] u0 (f_X7_make o1 x1 x2 x3 u0)
  unfold f_X7_make
  refine aw_aload_n (i := 0) dX7_make_0 1 rfl rfl 0 rfl ?_
  refine gf_X7_1 dX7_make_1 4 rfl wd_34 (ok_1 ho1) ?_
  refine aw_iload_n (i := 1) dX7_make_4 5 rfl rfl 1 rfl ?_
  refine aw_iload_n (i := 2) dX7_make_5 6 rfl rfl 2 rfl ?_
  refine aw_iast dX7_make_6 7 rfl at_33 rfl (ok_33 ho1) (fun h1 => ?_)
  refine aw_ltm (fun u1 => ?_)
  refine aw_iconst (x := 0) dX7_make_7 8 rfl rfl ?_
  refine aw_istore dX7_make_8 10 rfl [(4, .int 0), (0, .ref (q_ad G 1 o1)), (1, .int x1), (2, .int x2), (3, .int x3)] (by decide) rfl ?_
  refine aw_conv [1, 2, 3, 4, 0] rfl (TL_X7_make_10 l G o1 x1 x2 x3 ho1 _ ?_ _ 0 u1)
  · intro u4
    exact aw_vret dX7_make_32 rfl
theorem dX8_addRivers_0 : decode cX8_addRivers 0 = .ok (.iconst 0, 1) := by decide +kernel
theorem dX8_addRivers_1 : decode cX8_addRivers 1 = .ok (.istore_n 2, 1) := by decide +kernel
theorem dX8_addRivers_2 : decode cX8_addRivers 2 = .ok (.iconst 0, 1) := by decide +kernel
theorem dX8_addRivers_3 : decode cX8_addRivers 3 = .ok (.istore_n 3, 1) := by decide +kernel
theorem dX8_addRivers_4 : decode cX8_addRivers 4 = .ok (.iload_n 3, 1) := by decide +kernel
theorem dX8_addRivers_5 : decode cX8_addRivers 5 = .ok (.aload_n 1, 1) := by decide +kernel
theorem dX8_addRivers_6 : decode cX8_addRivers 6 = .ok (.getfield 127, 3) := by decide +kernel
theorem dX8_addRivers_9 : decode cX8_addRivers 9 = .ok (.getfield 131, 3) := by decide +kernel
theorem dX8_addRivers_12 : decode cX8_addRivers 12 = .ok (.if_icmp .ge 47, 3) := by decide +kernel
theorem dX8_addRivers_15 : decode cX8_addRivers 15 = .ok (.aload_n 0, 1) := by decide +kernel
theorem dX8_addRivers_16 : decode cX8_addRivers 16 = .ok (.getfield 18, 3) := by decide +kernel
theorem dX8_addRivers_19 : decode cX8_addRivers 19 = .ok (.aload_n 1, 1) := by decide +kernel
theorem dX8_addRivers_20 : decode cX8_addRivers 20 = .ok (.getfield 127, 3) := by decide +kernel
theorem dX8_addRivers_23 : decode cX8_addRivers 23 = .ok (.getfield 136, 3) := by decide +kernel
theorem dX8_addRivers_26 : decode cX8_addRivers 26 = .ok (.iload_n 3, 1) := by decide +kernel
theorem dX8_addRivers_27 : decode cX8_addRivers 27 = .ok (.iaload, 1) := by decide +kernel
theorem dX8_addRivers_28 : decode cX8_addRivers 28 = .ok (.dup2, 1) := by decide +kernel
theorem dX8_addRivers_29 : decode cX8_addRivers 29 = .ok (.iaload, 1) := by decide +kernel
theorem dX8_addRivers_30 : decode cX8_addRivers 30 = .ok (.aload_n 1, 1) := by decide +kernel
theorem dX8_addRivers_31 : decode cX8_addRivers 31 = .ok (.getfield 127, 3) := by decide +kernel
theorem dX8_addRivers_34 : decode cX8_addRivers 34 = .ok (.getfield 139, 3) := by decide +kernel
theorem dX8_addRivers_37 : decode cX8_addRivers 37 = .ok (.iload_n 3, 1) := by decide +kernel
theorem dX8_addRivers_38 : decode cX8_addRivers 38 = .ok (.iaload, 1) := by decide +kernel
theorem dX8_addRivers_39 : decode cX8_addRivers 39 = .ok (.iadd, 1) := by decide +kernel
theorem dX8_addRivers_40 : decode cX8_addRivers 40 = .ok (.iastore, 1) := by decide +kernel
theorem dX8_addRivers_41 : decode cX8_addRivers 41 = .ok (.iload_n 2, 1) := by decide +kernel
theorem dX8_addRivers_42 : decode cX8_addRivers 42 = .ok (.aload_n 1, 1) := by decide +kernel
theorem dX8_addRivers_43 : decode cX8_addRivers 43 = .ok (.getfield 127, 3) := by decide +kernel
theorem dX8_addRivers_46 : decode cX8_addRivers 46 = .ok (.getfield 139, 3) := by decide +kernel
theorem dX8_addRivers_49 : decode cX8_addRivers 49 = .ok (.iload_n 3, 1) := by decide +kernel
theorem dX8_addRivers_50 : decode cX8_addRivers 50 = .ok (.iaload, 1) := by decide +kernel
theorem dX8_addRivers_51 : decode cX8_addRivers 51 = .ok (.iadd, 1) := by decide +kernel
theorem dX8_addRivers_52 : decode cX8_addRivers 52 = .ok (.istore_n 2, 1) := by decide +kernel
theorem dX8_addRivers_53 : decode cX8_addRivers 53 = .ok (.iinc 3 1, 3) := by decide +kernel
theorem dX8_addRivers_56 : decode cX8_addRivers 56 = .ok (.goto (-52), 3) := by decide +kernel
theorem dX8_addRivers_59 : decode cX8_addRivers 59 = .ok (.iload_n 2, 1) := by decide +kernel
theorem dX8_addRivers_60 : decode cX8_addRivers 60 = .ok (.ireturn, 1) := by decide +kernel
noncomputable def L_X8_addRivers_4 (o1 : Nat) : Nat → Int32 → Int32 → qM → (Int32 → qM → Option (Int32 × qM)) → Option (Int32 × qM)
  | 0, _, _, _, _ => none
  | n + 1, x1, x2, u1, e1 => if (u1.1 4 o1 2) ≤ x2 then e1 x1 u1 else q_ck (q_in x2 4) (q_lt (u1.1 43 o1 (Int32.toNatClampNeg x2)) (fun (x3 : Int32) => q_ck (q_in x3 48) (q_ck (q_in x2 4) (q_ck (q_in x3 48) (q_lt (q_si u1 49 0 (Int32.toNatClampNeg x3) ((u1.1 49 0 (Int32.toNatClampNeg x3)) + (u1.1 44 o1 (Int32.toNatClampNeg x2)))) (fun (u2 : qM) => q_ck (q_in x2 4) (q_lt (x1 + (u2.1 44 o1 (Int32.toNatClampNeg x2))) (fun (x4 : Int32) => q_lt (x2 + 1) (fun (x5 : Int32) => L_X8_addRivers_4 o1 n x4 x5 u2 e1)))))))))
noncomputable def f_X8_addRivers (o1 : Nat) (u0 : qM) : Option (Int32 × qM) :=
  L_X8_addRivers_4 o1 q_fu 0 0 u0 (fun x6 u3 => some (x6, u3))
set_option maxRecDepth 100000 in
set_option maxHeartbeats 4000000 in
theorem TL_X8_addRivers_4 (l : Launch) (G : qG) (o1 : Nat) (q1 : o1 < 7) (e1 : Int32 → qM → Option (Int32 × qM)) (he1 : ∀ (y1 : Int32) (v : qM), qAW l G m_X8_addRivers (q_mq G q_cI) 59 [(2, .int y1)] [] v (e1 y1 v)) : ∀ (n : Nat) (x1 : Int32) (x2 : Int32) (u1 : qM), qAW l G m_X8_addRivers (q_mq G q_cI) 4 [(0, .ref (q_ad G 6 0)), (1, .ref (q_ad G 2 o1)), (2, .int x1), (3, .int x2)] [] u1 (L_X8_addRivers_4 o1 n x1 x2 u1 e1) := by
  intro n
  induction n with
  | zero => intros; exact aw_none
  | succ n ih =>
    intro x1 x2 u1
    unfold L_X8_addRivers_4
    refine aw_iload_n (i := 3) dX8_addRivers_4 5 rfl rfl 3 rfl ?_
    refine aw_aload_n (i := 1) dX8_addRivers_5 6 rfl rfl 1 rfl ?_
    refine gfN_X0_6 dX8_addRivers_6 9 rfl "SeaCells" (ns_40) (ok_2 q1) ?_
    refine gfN_X5_2 dX8_addRivers_9 12 rfl "SeaCells" (ns_17) (ok_4 q1) ?_
    refine aw_icmp_ge dX8_addRivers_12 15 rfl 59 rfl (fun h1 => ?_) (fun h1 => ?_)
    · exact aw_conv [2] rfl (he1 x1 u1)
    · refine aw_aload_n (i := 0) dX8_addRivers_15 16 rfl rfl 0 rfl ?_
      refine gf_X8_2 dX8_addRivers_16 19 rfl wd_67 (ok_6 (by decide)) ?_
      refine aw_aload_n (i := 1) dX8_addRivers_19 20 rfl rfl 1 rfl ?_
      refine gfN_X0_6 dX8_addRivers_20 23 rfl "SeaCells" (ns_40) (ok_2 q1) ?_
      refine gfN_X5_0 dX8_addRivers_23 26 rfl "SeaCells" (ns_11) (ok_4 q1) ?_
      refine aw_iload_n (i := 3) dX8_addRivers_26 27 rfl rfl 3 rfl ?_
      refine aw_iald dX8_addRivers_27 28 rfl at_43 (al_43 _) (ok_43 q1) (fun h2 => ?_)
      refine aw_lti (fun x3 => ?_)
      refine aw_dup2 dX8_addRivers_28 29 rfl rfl rfl ?_
      refine aw_iald dX8_addRivers_29 30 rfl at_49 (al_49 _) (ok_49 (by decide)) (fun h3 => ?_)
      refine aw_aload_n (i := 1) dX8_addRivers_30 31 rfl rfl 1 rfl ?_
      refine gfN_X0_6 dX8_addRivers_31 34 rfl "SeaCells" (ns_40) (ok_2 q1) ?_
      refine gfN_X5_1 dX8_addRivers_34 37 rfl "SeaCells" (ns_14) (ok_4 q1) ?_
      refine aw_iload_n (i := 3) dX8_addRivers_37 38 rfl rfl 3 rfl ?_
      refine aw_iald dX8_addRivers_38 39 rfl at_44 (al_44 _) (ok_44 q1) (fun h4 => ?_)
      refine aw_iadd dX8_addRivers_39 40 rfl ?_
      refine aw_iast dX8_addRivers_40 41 rfl at_49 (al_49 _) (ok_49 (by decide)) (fun h5 => ?_)
      refine aw_ltm (fun u2 => ?_)
      refine aw_iload_n (i := 2) dX8_addRivers_41 42 rfl rfl 2 rfl ?_
      refine aw_aload_n (i := 1) dX8_addRivers_42 43 rfl rfl 1 rfl ?_
      refine gfN_X0_6 dX8_addRivers_43 46 rfl "SeaCells" (ns_40) (ok_2 q1) ?_
      refine gfN_X5_1 dX8_addRivers_46 49 rfl "SeaCells" (ns_14) (ok_4 q1) ?_
      refine aw_iload_n (i := 3) dX8_addRivers_49 50 rfl rfl 3 rfl ?_
      refine aw_iald dX8_addRivers_50 51 rfl at_44 (al_44 _) (ok_44 q1) (fun h6 => ?_)
      refine aw_iadd dX8_addRivers_51 52 rfl ?_
      refine aw_lti (fun x4 => ?_)
      refine aw_istore_n dX8_addRivers_52 53 rfl rfl [(2, .int x4), (0, .ref (q_ad G 6 0)), (1, .ref (q_ad G 2 o1)), (3, .int x2)] (by decide) rfl ?_
      refine aw_iincx (i := 3) dX8_addRivers_53 56 rfl 3 rfl 1 rfl (fun x5 => [(3, .int x5), (2, .int x4), (0, .ref (q_ad G 6 0)), (1, .ref (q_ad G 2 o1))]) (by decide) (fun _ => rfl) (fun x5 => ?_)
      refine aw_goto dX8_addRivers_56 4 rfl ?_
      exact aw_conv [2, 3, 1, 0] rfl (ih x4 x5 u2)
set_option maxRecDepth 100000 in
set_option maxHeartbeats 4000000 in
theorem k_X8_addRivers (l : Launch) (G : qG) (o1 : Nat) (ho1 : o1 < 7) (u0 : qM) : qCt l G m_X8_addRivers q_cI [.ref (q_ad G 6 0), .ref (q_ad G 2 o1)] u0 (f_X8_addRivers o1 u0) := by
  refine q_entry pk_X8_addRivers (Nat.le_of_ble_eq_true rfl) ?_
  show qAW l G m_X8_addRivers (q_mq G q_cI) 0 [(0, .ref (q_ad G 6 0)), (1, .ref (q_ad G 2 o1))] [] u0 (f_X8_addRivers o1 u0)
  unfold f_X8_addRivers
  refine aw_iconst (x := 0) dX8_addRivers_0 1 rfl rfl ?_
  refine aw_istore_n dX8_addRivers_1 2 rfl rfl [(2, .int 0), (0, .ref (q_ad G 6 0)), (1, .ref (q_ad G 2 o1))] (by decide) rfl ?_
  refine aw_iconst (x := 0) dX8_addRivers_2 3 rfl rfl ?_
  refine aw_istore_n dX8_addRivers_3 4 rfl rfl [(3, .int 0), (2, .int 0), (0, .ref (q_ad G 6 0)), (1, .ref (q_ad G 2 o1))] (by decide) rfl ?_
  refine aw_conv [2, 3, 1, 0] rfl (TL_X8_addRivers_4 l G o1 ho1 _ ?_ _ 0 0 u0)
  · intro x6 u3
    refine aw_iload_n (i := 2) dX8_addRivers_59 60 rfl rfl 0 rfl ?_
    exact aw_iret dX8_addRivers_60 rfl
theorem dX8_share_0 : decode cX8_share 0 = .ok (.iload_n 2, 1) := by decide +kernel
theorem dX8_share_1 : decode cX8_share 1 = .ok (.ifCond .le 15, 3) := by decide +kernel
theorem dX8_share_4 : decode cX8_share 4 = .ok (.iload_n 0, 1) := by decide +kernel
theorem dX8_share_5 : decode cX8_share 5 = .ok (.i2l, 1) := by decide +kernel
theorem dX8_share_6 : decode cX8_share 6 = .ok (.iload_n 1, 1) := by decide +kernel
theorem dX8_share_7 : decode cX8_share 7 = .ok (.i2l, 1) := by decide +kernel
theorem dX8_share_8 : decode cX8_share 8 = .ok (.lmul, 1) := by decide +kernel
theorem dX8_share_9 : decode cX8_share 9 = .ok (.iload_n 2, 1) := by decide +kernel
theorem dX8_share_10 : decode cX8_share 10 = .ok (.i2l, 1) := by decide +kernel
theorem dX8_share_11 : decode cX8_share 11 = .ok (.ldiv, 1) := by decide +kernel
theorem dX8_share_12 : decode cX8_share 12 = .ok (.l2i, 1) := by decide +kernel
theorem dX8_share_13 : decode cX8_share 13 = .ok (.goto 4, 3) := by decide +kernel
theorem dX8_share_16 : decode cX8_share 16 = .ok (.iconst 0, 1) := by decide +kernel
theorem dX8_share_17 : decode cX8_share 17 = .ok (.ireturn, 1) := by decide +kernel
noncomputable def f_X8_share (x1 : Int32) (x2 : Int32) (x3 : Int32) (u0 : qM) : Option (Int32 × qM) :=
  q_jn (fun (x4 : Int32) (u1 : qM) => some (x4, u1)) (fun j1 => if x3 ≤ 0 then j1 0 u0 else q_ck (q_nzl (Int32.toInt64 x3)) (j1 (Int64.toInt32 (((Int32.toInt64 x1) * (Int32.toInt64 x2)) / (Int32.toInt64 x3))) u0))
set_option maxRecDepth 100000 in
set_option maxHeartbeats 4000000 in
theorem k_X8_share (l : Launch) (G : qG) (x1 : Int32) (x2 : Int32) (x3 : Int32)  (u0 : qM) : qCt l G m_X8_share q_cI [.int x1, .int x2, .int x3] u0 (f_X8_share x1 x2 x3 u0) := by
  refine q_entry pk_X8_share (Nat.le_of_ble_eq_true rfl) ?_
  show qAW l G m_X8_share (q_mq G q_cI) 0 [(0, .int x1), (1, .int x2), (2, .int x3)] [] u0 (f_X8_share x1 x2 x3 u0)
  unfold f_X8_share
  refine aw_iload_n (i := 2) dX8_share_0 1 rfl rfl 2 rfl ?_
  refine aw_jn (fun k => ∀ (x4 : Int32) (u1 : qM), qAW l G m_X8_share (q_mq G q_cI) 17 [] [.int x4] u1 (k x4 u1)) ?_ ?_
  · intro x4 u1
    exact aw_iret dX8_share_17 rfl
  · intro j1 hj1
    refine aw_if_le dX8_share_1 4 rfl 16 rfl (fun h1 => ?_) (fun h1 => ?_)
    · refine aw_iconst (x := 0) dX8_share_16 17 rfl rfl ?_
      exact aw_conv [] rfl (hj1 0 u0)
    · refine aw_iload_n (i := 0) dX8_share_4 5 rfl rfl 0 rfl ?_
      refine aw_i2l dX8_share_5 6 rfl ?_
      refine aw_iload_n (i := 1) dX8_share_6 7 rfl rfl 1 rfl ?_
      refine aw_i2l dX8_share_7 8 rfl ?_
      refine aw_lmul dX8_share_8 9 rfl ?_
      refine aw_iload_n (i := 2) dX8_share_9 10 rfl rfl 2 rfl ?_
      refine aw_i2l dX8_share_10 11 rfl ?_
      refine aw_ck (fun h2 => ?_)
      refine aw_ldiv dX8_share_11 12 rfl (of_decide_eq_true h2) ?_
      refine aw_l2i dX8_share_12 13 rfl ?_
      refine aw_goto dX8_share_13 17 rfl ?_
      exact aw_conv [] rfl (hj1 (Int64.toInt32 (((Int32.toInt64 x1) * (Int32.toInt64 x2)) / (Int32.toInt64 x3))) u0)
theorem dX8_source_0 : decode cX8_source 0 = .ok (.aload_n 0, 1) := by decide +kernel
theorem dX8_source_1 : decode cX8_source 1 = .ok (.getfield 9, 3) := by decide +kernel
theorem dX8_source_4 : decode cX8_source 4 = .ok (.iload_n 2, 1) := by decide +kernel
theorem dX8_source_5 : decode cX8_source 5 = .ok (.iaload, 1) := by decide +kernel
theorem dX8_source_6 : decode cX8_source 6 = .ok (.ifCond .le 9, 3) := by decide +kernel
theorem dX8_source_9 : decode cX8_source 9 = .ok (.iload_n 2, 1) := by decide +kernel
theorem dX8_source_10 : decode cX8_source 10 = .ok (.iconst 2, 1) := by decide +kernel
theorem dX8_source_11 : decode cX8_source 11 = .ok (.idiv, 1) := by decide +kernel
theorem dX8_source_12 : decode cX8_source 12 = .ok (.goto 8, 3) := by decide +kernel
theorem dX8_source_15 : decode cX8_source 15 = .ok (.aload_n 1, 1) := by decide +kernel
theorem dX8_source_16 : decode cX8_source 16 = .ok (.iload_n 2, 1) := by decide +kernel
theorem dX8_source_17 : decode cX8_source 17 = .ok (.invokevirtual 90, 3) := by decide +kernel
theorem dX8_source_20 : decode cX8_source 20 = .ok (.ireturn, 1) := by decide +kernel
noncomputable def f_X8_source (o1 : Nat) (x1 : Int32) (u0 : qM) : Option (Int32 × qM) :=
  q_ck (q_in x1 96) (q_jn (fun (x2 : Int32) (u1 : qM) => some (x2, u1)) (fun j1 => if (u0.1 47 0 (Int32.toNatClampNeg x1)) ≤ 0 then q_bd (f_X0_farCell o1 x1 u0) (fun (x3 : Int32) (u2 : qM) => j1 x3 u2) else j1 (x1 / 2) u0))
set_option maxRecDepth 100000 in
set_option maxHeartbeats 4000000 in
theorem k_X8_source (l : Launch) (G : qG) (o1 : Nat) (x1 : Int32) (ho1 : o1 < 7) (u0 : qM) : qCt l G m_X8_source q_cI [.ref (q_ad G 6 0), .ref (q_ad G 2 o1), .int x1] u0 (f_X8_source o1 x1 u0) := by
  refine q_entry pk_X8_source (Nat.le_of_ble_eq_true rfl) ?_
  show qAW l G m_X8_source (q_mq G q_cI) 0 [(0, .ref (q_ad G 6 0)), (1, .ref (q_ad G 2 o1)), (2, .int x1)] [] u0 (f_X8_source o1 x1 u0)
  unfold f_X8_source
  refine aw_aload_n (i := 0) dX8_source_0 1 rfl rfl 0 rfl ?_
  refine gf_X8_0 dX8_source_1 4 rfl wd_68 (ok_6 (by decide)) ?_
  refine aw_iload_n (i := 2) dX8_source_4 5 rfl rfl 2 rfl ?_
  refine aw_iald dX8_source_5 6 rfl at_47 (al_47 _) (ok_47 (by decide)) (fun h1 => ?_)
  refine aw_jn (fun k => ∀ (x2 : Int32) (u1 : qM), qAW l G m_X8_source (q_mq G q_cI) 20 [] [.int x2] u1 (k x2 u1)) ?_ ?_
  · intro x2 u1
    exact aw_iret dX8_source_20 rfl
  · intro j1 hj1
    refine aw_if_le dX8_source_6 9 rfl 15 rfl (fun h2 => ?_) (fun h2 => ?_)
    · refine aw_aload_n (i := 1) dX8_source_15 16 rfl rfl 1 rfl ?_
      refine aw_iload_n (i := 2) dX8_source_16 17 rfl rfl 2 rfl ?_
      refine aw_callV (M2 := m_X0_farCell) (cv := q_cI) dX8_source_17 20 rfl (k_X0_farCell l G o1 x1 ho1 u0) wd_69 wv_X0_farCell pk_X0_farCell rfl rfl ⟨by decide, by decide⟩ ⟨Nat.zero_le _, Nat.zero_le _⟩ at_2 (ok_2 ho1) rfl rfl rfl (Nat.le_of_ble_eq_true rfl) (fun x3 u2 => ?_)
      show qAW l G m_X8_source (q_mq G q_cI) 20 [(0, .ref (q_ad G 6 0)), (1, .ref (q_ad G 2 o1)), (2, .int x1)] [.int x3] u2 _
      exact aw_conv [] rfl (hj1 x3 u2)
    · refine aw_iload_n (i := 2) dX8_source_9 10 rfl rfl 2 rfl ?_
      refine aw_iconst (x := 2) dX8_source_10 11 rfl rfl ?_
      refine aw_idiv dX8_source_11 12 rfl (by decide) ?_
      refine aw_goto dX8_source_12 20 rfl ?_
      exact aw_conv [] rfl (hj1 (x1 / 2) u0)
theorem dX8_carryStuff_0 : decode cX8_carryStuff 0 = .ok (.aload_n 1, 1) := by decide +kernel
theorem dX8_carryStuff_1 : decode cX8_carryStuff 1 = .ok (.getfield 143, 3) := by decide +kernel
theorem dX8_carryStuff_4 : decode cX8_carryStuff 4 = .ok (.iload_n 2, 1) := by decide +kernel
theorem dX8_carryStuff_5 : decode cX8_carryStuff 5 = .ok (.aload_n 0, 1) := by decide +kernel
theorem dX8_carryStuff_6 : decode cX8_carryStuff 6 = .ok (.getfield 21, 3) := by decide +kernel
theorem dX8_carryStuff_9 : decode cX8_carryStuff 9 = .ok (.iconst 0, 1) := by decide +kernel
theorem dX8_carryStuff_10 : decode cX8_carryStuff 10 = .ok (.aload_n 1, 1) := by decide +kernel
theorem dX8_carryStuff_11 : decode cX8_carryStuff 11 = .ok (.invokevirtual 49, 3) := by decide +kernel
theorem dX8_carryStuff_14 : decode cX8_carryStuff 14 = .ok (.invokestatic 53, 3) := by decide +kernel
theorem dX8_carryStuff_17 : decode cX8_carryStuff 17 = .ok (.iconst 0, 1) := by decide +kernel
theorem dX8_carryStuff_18 : decode cX8_carryStuff 18 = .ok (.istore_n 3, 1) := by decide +kernel
theorem dX8_carryStuff_19 : decode cX8_carryStuff 19 = .ok (.iload_n 3, 1) := by decide +kernel
theorem dX8_carryStuff_20 : decode cX8_carryStuff 20 = .ok (.iconst 2, 1) := by decide +kernel
theorem dX8_carryStuff_21 : decode cX8_carryStuff 21 = .ok (.aload_n 1, 1) := by decide +kernel
theorem dX8_carryStuff_22 : decode cX8_carryStuff 22 = .ok (.invokevirtual 49, 3) := by decide +kernel
theorem dX8_carryStuff_25 : decode cX8_carryStuff 25 = .ok (.imul, 1) := by decide +kernel
theorem dX8_carryStuff_26 : decode cX8_carryStuff 26 = .ok (.if_icmp .ge 105, 3) := by decide +kernel
theorem dX8_carryStuff_29 : decode cX8_carryStuff 29 = .ok (.aload_n 0, 1) := by decide +kernel
theorem dX8_carryStuff_30 : decode cX8_carryStuff 30 = .ok (.getfield 9, 3) := by decide +kernel
theorem dX8_carryStuff_33 : decode cX8_carryStuff 33 = .ok (.iload_n 3, 1) := by decide +kernel
theorem dX8_carryStuff_34 : decode cX8_carryStuff 34 = .ok (.iaload, 1) := by decide +kernel
theorem dX8_carryStuff_35 : decode cX8_carryStuff 35 = .ok (.ifCond .ne 6, 3) := by decide +kernel
theorem dX8_carryStuff_38 : decode cX8_carryStuff 38 = .ok (.goto 87, 3) := by decide +kernel
theorem dX8_carryStuff_41 : decode cX8_carryStuff 41 = .ok (.aload_n 0, 1) := by decide +kernel
theorem dX8_carryStuff_42 : decode cX8_carryStuff 42 = .ok (.aload_n 1, 1) := by decide +kernel
theorem dX8_carryStuff_43 : decode cX8_carryStuff 43 = .ok (.iload_n 3, 1) := by decide +kernel
theorem dX8_carryStuff_44 : decode cX8_carryStuff 44 = .ok (.invokevirtual 115, 3) := by decide +kernel
theorem dX8_carryStuff_47 : decode cX8_carryStuff 47 = .ok (.istore 4, 2) := by decide +kernel
theorem dX8_carryStuff_49 : decode cX8_carryStuff 49 = .ok (.aload_n 0, 1) := by decide +kernel
theorem dX8_carryStuff_50 : decode cX8_carryStuff 50 = .ok (.getfield 9, 3) := by decide +kernel
theorem dX8_carryStuff_53 : decode cX8_carryStuff 53 = .ok (.iload_n 3, 1) := by decide +kernel
theorem dX8_carryStuff_54 : decode cX8_carryStuff 54 = .ok (.iaload, 1) := by decide +kernel
theorem dX8_carryStuff_55 : decode cX8_carryStuff 55 = .ok (.ifCond .le 11, 3) := by decide +kernel
theorem dX8_carryStuff_58 : decode cX8_carryStuff 58 = .ok (.aload_n 1, 1) := by decide +kernel
theorem dX8_carryStuff_59 : decode cX8_carryStuff 59 = .ok (.iload_n 3, 1) := by decide +kernel
theorem dX8_carryStuff_60 : decode cX8_carryStuff 60 = .ok (.invokevirtual 90, 3) := by decide +kernel
theorem dX8_carryStuff_63 : decode cX8_carryStuff 63 = .ok (.goto 6, 3) := by decide +kernel
theorem dX8_carryStuff_66 : decode cX8_carryStuff 66 = .ok (.iload_n 3, 1) := by decide +kernel
theorem dX8_carryStuff_67 : decode cX8_carryStuff 67 = .ok (.iconst 2, 1) := by decide +kernel
theorem dX8_carryStuff_68 : decode cX8_carryStuff 68 = .ok (.idiv, 1) := by decide +kernel
theorem dX8_carryStuff_69 : decode cX8_carryStuff 69 = .ok (.istore 5, 2) := by decide +kernel
theorem dX8_carryStuff_71 : decode cX8_carryStuff 71 = .ok (.aload_n 1, 1) := by decide +kernel
theorem dX8_carryStuff_72 : decode cX8_carryStuff 72 = .ok (.getfield 143, 3) := by decide +kernel
theorem dX8_carryStuff_75 : decode cX8_carryStuff 75 = .ok (.iload_n 2, 1) := by decide +kernel
theorem dX8_carryStuff_76 : decode cX8_carryStuff 76 = .ok (.iload 4, 2) := by decide +kernel
theorem dX8_carryStuff_78 : decode cX8_carryStuff 78 = .ok (.iadd, 1) := by decide +kernel
theorem dX8_carryStuff_79 : decode cX8_carryStuff 79 = .ok (.iaload, 1) := by decide +kernel
theorem dX8_carryStuff_80 : decode cX8_carryStuff 80 = .ok (.aload_n 0, 1) := by decide +kernel
theorem dX8_carryStuff_81 : decode cX8_carryStuff 81 = .ok (.getfield 9, 3) := by decide +kernel
theorem dX8_carryStuff_84 : decode cX8_carryStuff 84 = .ok (.iload_n 3, 1) := by decide +kernel
theorem dX8_carryStuff_85 : decode cX8_carryStuff 85 = .ok (.iaload, 1) := by decide +kernel
theorem dX8_carryStuff_86 : decode cX8_carryStuff 86 = .ok (.invokestatic 118, 3) := by decide +kernel
theorem dX8_carryStuff_89 : decode cX8_carryStuff 89 = .ok (.aload_n 1, 1) := by decide +kernel
theorem dX8_carryStuff_90 : decode cX8_carryStuff 90 = .ok (.getfield 59, 3) := by decide +kernel
theorem dX8_carryStuff_93 : decode cX8_carryStuff 93 = .ok (.iload 4, 2) := by decide +kernel
theorem dX8_carryStuff_95 : decode cX8_carryStuff 95 = .ok (.iaload, 1) := by decide +kernel
theorem dX8_carryStuff_96 : decode cX8_carryStuff 96 = .ok (.invokestatic 123, 3) := by decide +kernel
theorem dX8_carryStuff_99 : decode cX8_carryStuff 99 = .ok (.istore 6, 2) := by decide +kernel
theorem dX8_carryStuff_101 : decode cX8_carryStuff 101 = .ok (.aload_n 0, 1) := by decide +kernel
theorem dX8_carryStuff_102 : decode cX8_carryStuff 102 = .ok (.getfield 21, 3) := by decide +kernel
theorem dX8_carryStuff_105 : decode cX8_carryStuff 105 = .ok (.iload 4, 2) := by decide +kernel
theorem dX8_carryStuff_107 : decode cX8_carryStuff 107 = .ok (.dup2, 1) := by decide +kernel
theorem dX8_carryStuff_108 : decode cX8_carryStuff 108 = .ok (.iaload, 1) := by decide +kernel
theorem dX8_carryStuff_109 : decode cX8_carryStuff 109 = .ok (.iload 6, 2) := by decide +kernel
theorem dX8_carryStuff_111 : decode cX8_carryStuff 111 = .ok (.isub, 1) := by decide +kernel
theorem dX8_carryStuff_112 : decode cX8_carryStuff 112 = .ok (.iastore, 1) := by decide +kernel
theorem dX8_carryStuff_113 : decode cX8_carryStuff 113 = .ok (.aload_n 0, 1) := by decide +kernel
theorem dX8_carryStuff_114 : decode cX8_carryStuff 114 = .ok (.getfield 21, 3) := by decide +kernel
theorem dX8_carryStuff_117 : decode cX8_carryStuff 117 = .ok (.iload 5, 2) := by decide +kernel
theorem dX8_carryStuff_119 : decode cX8_carryStuff 119 = .ok (.dup2, 1) := by decide +kernel
theorem dX8_carryStuff_120 : decode cX8_carryStuff 120 = .ok (.iaload, 1) := by decide +kernel
theorem dX8_carryStuff_121 : decode cX8_carryStuff 121 = .ok (.iload 6, 2) := by decide +kernel
theorem dX8_carryStuff_123 : decode cX8_carryStuff 123 = .ok (.iadd, 1) := by decide +kernel
theorem dX8_carryStuff_124 : decode cX8_carryStuff 124 = .ok (.iastore, 1) := by decide +kernel
theorem dX8_carryStuff_125 : decode cX8_carryStuff 125 = .ok (.iinc 3 1, 3) := by decide +kernel
theorem dX8_carryStuff_128 : decode cX8_carryStuff 128 = .ok (.goto (-109), 3) := by decide +kernel
theorem dX8_carryStuff_131 : decode cX8_carryStuff 131 = .ok (.aload_n 0, 1) := by decide +kernel
theorem dX8_carryStuff_132 : decode cX8_carryStuff 132 = .ok (.getfield 21, 3) := by decide +kernel
theorem dX8_carryStuff_135 : decode cX8_carryStuff 135 = .ok (.iconst 0, 1) := by decide +kernel
theorem dX8_carryStuff_136 : decode cX8_carryStuff 136 = .ok (.aload_n 1, 1) := by decide +kernel
theorem dX8_carryStuff_137 : decode cX8_carryStuff 137 = .ok (.getfield 143, 3) := by decide +kernel
theorem dX8_carryStuff_140 : decode cX8_carryStuff 140 = .ok (.iload_n 2, 1) := by decide +kernel
theorem dX8_carryStuff_141 : decode cX8_carryStuff 141 = .ok (.aload_n 1, 1) := by decide +kernel
theorem dX8_carryStuff_142 : decode cX8_carryStuff 142 = .ok (.invokevirtual 49, 3) := by decide +kernel
theorem dX8_carryStuff_145 : decode cX8_carryStuff 145 = .ok (.invokestatic 53, 3) := by decide +kernel
theorem dX8_carryStuff_148 : decode cX8_carryStuff 148 = .ok (.return_, 1) := by decide +kernel
noncomputable def L_X8_carryStuff_19 (o1 : Nat) (x1 : Int32) : Nat → Int32 → qM → (qM → Option (Unit × qM)) → Option (Unit × qM)
  | 0, _, _, _ => none
  | n + 1, x3, u3, e1 => q_bd (f_X0_cells o1 u3) (fun (x4 : Int32) (u4 : qM) => if (2 * x4) ≤ x3 then e1 u4 else q_ck (q_in x3 96) (q_jn (fun  (u5 : qM) => q_lt (x3 + 1) (fun (x5 : Int32) => L_X8_carryStuff_19 o1 x1 n x5 u5 e1)) (fun j1 => if (u4.1 47 0 (Int32.toNatClampNeg x3)) = 0 then j1 u4 else q_bd (f_X8_source o1 x3 u4) (fun (x6 : Int32) (u6 : qM) => q_ck (q_in x3 96) (q_jn (fun (x7 : Int32) (u7 : qM) => q_ck (q_in (x1 + x6) 144) (q_ck (q_in x3 96) (q_ck (q_in x6 48) (q_bd (f_X8_share (u7.1 39 o1 (Int32.toNatClampNeg (x1 + x6))) (if (0 : Int32) ≤ (u7.1 47 0 (Int32.toNatClampNeg x3)) then u7.1 47 0 (Int32.toNatClampNeg x3) else 0 - (u7.1 47 0 (Int32.toNatClampNeg x3))) (u7.1 38 o1 (Int32.toNatClampNeg x6)) u7) (fun (x8 : Int32) (u8 : qM) => q_ck (q_in x6 48) (q_ck (q_in x6 48) (q_lt (q_si u8 50 0 (Int32.toNatClampNeg x6) ((u8.1 50 0 (Int32.toNatClampNeg x6)) - x8)) (fun (u9 : qM) => q_ck (q_in x7 48) (q_ck (q_in x7 48) (q_lt (q_si u9 50 0 (Int32.toNatClampNeg x7) ((u9.1 50 0 (Int32.toNatClampNeg x7)) + x8)) (fun (u10 : qM) => j1 u10))))))))))) (fun j2 => if (u6.1 47 0 (Int32.toNatClampNeg x3)) ≤ 0 then j2 (x3 / 2) u6 else q_bd (f_X0_farCell o1 x3 u6) (fun (x9 : Int32) (u11 : qM) => j2 x9 u11)))))))
noncomputable def f_X8_carryStuff (o1 : Nat) (x1 : Int32) (u0 : qM) : Option (Unit × qM) :=
  q_bd (f_X0_cells o1 u0) (fun (x2 : Int32) (u1 : qM) => q_ck (q_cr x1 0 x2 144 48) (q_lt (q_sc u1 39 o1 50 0 (Int32.toNatClampNeg x1) (Int32.toNatClampNeg 0) (Int32.toNatClampNeg x2)) (fun (u2 : qM) => L_X8_carryStuff_19 o1 x1 q_fu 0 u2 (fun u12 => q_bd (f_X0_cells o1 u12) (fun (x10 : Int32) (u13 : qM) => q_ck (q_cr 0 x1 x10 48 144) (q_lt (q_sc u13 50 0 39 o1 (Int32.toNatClampNeg 0) (Int32.toNatClampNeg x1) (Int32.toNatClampNeg x10)) (fun (u14 : qM) => some ((), u14))))))))
set_option maxRecDepth 100000 in
set_option maxHeartbeats 4000000 in
theorem TL_X8_carryStuff_19 (l : Launch) (G : qG) (o1 : Nat) (x1 : Int32) (q1 : o1 < 7) (e1 : qM → Option (Unit × qM)) (he1 : ∀  (v : qM), qAW l G m_X8_carryStuff (q_mq G q_cU) 131 [(0, .ref (q_ad G 6 0)), (1, .ref (q_ad G 2 o1)), (2, .int x1)] [] v (e1 v)) : ∀ (n : Nat) (x3 : Int32) (u3 : qM), qAW l G m_X8_carryStuff (q_mq G q_cU) 19 [(0, .ref (q_ad G 6 0)), (1, .ref (q_ad G 2 o1)), (2, .int x1), (3, .int x3)] [] u3 (L_X8_carryStuff_19 o1 x1 n x3 u3 e1) := by
  intro n
  induction n with
  | zero => intros; exact aw_none
  | succ n ih =>
    intro x3 u3
    unfold L_X8_carryStuff_19
    refine aw_iload_n (i := 3) dX8_carryStuff_19 20 rfl rfl 3 rfl ?_
    refine aw_iconst (x := 2) dX8_carryStuff_20 21 rfl rfl ?_
    refine aw_aload_n (i := 1) dX8_carryStuff_21 22 rfl rfl 1 rfl ?_
    refine aw_callV (M2 := m_X0_cells) (cv := q_cI) dX8_carryStuff_22 25 rfl (k_X0_cells l G o1 q1 u3) wd_71 wv_X0_cells pk_X0_cells rfl rfl ⟨by decide, by decide⟩ ⟨Nat.zero_le _, Nat.zero_le _⟩ at_2 (ok_2 q1) rfl rfl rfl (Nat.le_of_ble_eq_true rfl) (fun x4 u4 => ?_)
    show qAW l G m_X8_carryStuff (q_mq G q_cU) 25 [(0, .ref (q_ad G 6 0)), (1, .ref (q_ad G 2 o1)), (2, .int x1), (3, .int x3)] [.int x4, .int 2, .int x3] u4 _
    refine aw_imul dX8_carryStuff_25 26 rfl ?_
    refine aw_icmp_ge dX8_carryStuff_26 29 rfl 131 rfl (fun h2 => ?_) (fun h2 => ?_)
    · exact aw_conv [0, 1, 2] rfl (he1 u4)
    · refine aw_aload_n (i := 0) dX8_carryStuff_29 30 rfl rfl 0 rfl ?_
      refine gf_X8_0 dX8_carryStuff_30 33 rfl wd_68 (ok_6 (by decide)) ?_
      refine aw_iload_n (i := 3) dX8_carryStuff_33 34 rfl rfl 3 rfl ?_
      refine aw_iald dX8_carryStuff_34 35 rfl at_47 (al_47 _) (ok_47 (by decide)) (fun h3 => ?_)
      refine aw_jn (fun k => ∀  (u5 : qM), qAW l G m_X8_carryStuff (q_mq G q_cU) 125 [(0, .ref (q_ad G 6 0)), (1, .ref (q_ad G 2 o1)), (2, .int x1), (3, .int x3)] [] u5 (k u5)) ?_ ?_
      · intro u5
        refine aw_iincx (i := 3) dX8_carryStuff_125 128 rfl 3 rfl 1 rfl (fun x5 => [(3, .int x5), (0, .ref (q_ad G 6 0)), (1, .ref (q_ad G 2 o1)), (2, .int x1)]) (by decide) (fun _ => rfl) (fun x5 => ?_)
        refine aw_goto dX8_carryStuff_128 19 rfl ?_
        exact aw_conv [1, 2, 3, 0] rfl (ih x5 u5)
      · intro j1 hj1
        refine aw_if_ne dX8_carryStuff_35 38 rfl 41 rfl (fun h4 => ?_) (fun h4 => ?_)
        · refine aw_aload_n (i := 0) dX8_carryStuff_41 42 rfl rfl 0 rfl ?_
          refine aw_aload_n (i := 1) dX8_carryStuff_42 43 rfl rfl 1 rfl ?_
          refine aw_iload_n (i := 3) dX8_carryStuff_43 44 rfl rfl 3 rfl ?_
          refine aw_callV (M2 := m_X8_source) (cv := q_cI) dX8_carryStuff_44 47 rfl (k_X8_source l G o1 x3 q1 u4) wd_73 wv_X8_source pk_X8_source rfl rfl ⟨by decide, by decide⟩ ⟨Nat.zero_le _, Nat.zero_le _⟩ at_6 (ok_6 (by decide)) rfl rfl rfl (Nat.le_of_ble_eq_true rfl) (fun x6 u6 => ?_)
          show qAW l G m_X8_carryStuff (q_mq G q_cU) 47 [(0, .ref (q_ad G 6 0)), (1, .ref (q_ad G 2 o1)), (2, .int x1), (3, .int x3)] [.int x6] u6 _
          refine aw_istore dX8_carryStuff_47 49 rfl [(4, .int x6), (0, .ref (q_ad G 6 0)), (1, .ref (q_ad G 2 o1)), (2, .int x1), (3, .int x3)] (by decide) rfl ?_
          refine aw_aload_n (i := 0) dX8_carryStuff_49 50 rfl rfl 1 rfl ?_
          refine gf_X8_0 dX8_carryStuff_50 53 rfl wd_68 (ok_6 (by decide)) ?_
          refine aw_iload_n (i := 3) dX8_carryStuff_53 54 rfl rfl 4 rfl ?_
          refine aw_iald dX8_carryStuff_54 55 rfl at_47 (al_47 _) (ok_47 (by decide)) (fun h5 => ?_)
          refine aw_jn (fun k => ∀ (x7 : Int32) (u7 : qM), qAW l G m_X8_carryStuff (q_mq G q_cU) 69 [(0, .ref (q_ad G 6 0)), (1, .ref (q_ad G 2 o1)), (2, .int x1), (3, .int x3), (4, .int x6)] [.int x7] u7 (k x7 u7)) ?_ ?_
          · intro x7 u7
            refine aw_istore dX8_carryStuff_69 71 rfl [(5, .int x7), (0, .ref (q_ad G 6 0)), (1, .ref (q_ad G 2 o1)), (2, .int x1), (3, .int x3), (4, .int x6)] (by decide) rfl ?_
            refine aw_aload_n (i := 1) dX8_carryStuff_71 72 rfl rfl 2 rfl ?_
            refine gfN_X0_2 dX8_carryStuff_72 75 rfl "SeaCells" (ns_31) (ok_2 q1) ?_
            refine aw_iload_n (i := 2) dX8_carryStuff_75 76 rfl rfl 3 rfl ?_
            refine aw_iload (i := 4) dX8_carryStuff_76 78 rfl 5 rfl ?_
            refine aw_iadd dX8_carryStuff_78 79 rfl ?_
            refine aw_iald dX8_carryStuff_79 80 rfl at_39 (al_39 _) (ok_39 q1) (fun h7 => ?_)
            refine aw_aload_n (i := 0) dX8_carryStuff_80 81 rfl rfl 1 rfl ?_
            refine gf_X8_0 dX8_carryStuff_81 84 rfl wd_68 (ok_6 (by decide)) ?_
            refine aw_iload_n (i := 3) dX8_carryStuff_84 85 rfl rfl 4 rfl ?_
            refine aw_iald dX8_carryStuff_85 86 rfl at_47 (al_47 _) (ok_47 (by decide)) (fun h8 => ?_)
            refine aw_abs dX8_carryStuff_86 89 rfl wd_74 wd_75 wd_52 wd_76 (Nat.le_of_ble_eq_true rfl) (Nat.le_of_ble_eq_true rfl) (Nat.zero_le _) (Nat.zero_le _) ?_
            refine aw_aload_n (i := 1) dX8_carryStuff_89 90 rfl rfl 2 rfl ?_
            refine gfN_X0_1 dX8_carryStuff_90 93 rfl "SeaCells" (ns_29) (ok_2 q1) ?_
            refine aw_iload (i := 4) dX8_carryStuff_93 95 rfl 5 rfl ?_
            refine aw_iald dX8_carryStuff_95 96 rfl at_38 (al_38 _) (ok_38 q1) (fun h9 => ?_)
            refine aw_callS (M2 := m_X8_share) (cv := q_cI) dX8_carryStuff_96 99 rfl (k_X8_share l G (u7.1 39 o1 (Int32.toNatClampNeg (x1 + x6))) (if (0 : Int32) ≤ (u7.1 47 0 (Int32.toNatClampNeg x3)) then u7.1 47 0 (Int32.toNatClampNeg x3) else 0 - (u7.1 47 0 (Int32.toNatClampNeg x3))) (u7.1 38 o1 (Int32.toNatClampNeg x6))  u7) wd_77 wv_X8_share pk_X8_share rfl ⟨by decide, by decide⟩ ⟨Nat.zero_le _, Nat.zero_le _⟩ rfl (Nat.le_of_ble_eq_true rfl) (fun x8 u8 => ?_)
            show qAW l G m_X8_carryStuff (q_mq G q_cU) 99 [(5, .int x7), (0, .ref (q_ad G 6 0)), (1, .ref (q_ad G 2 o1)), (2, .int x1), (3, .int x3), (4, .int x6)] [.int x8] u8 _
            refine aw_istore dX8_carryStuff_99 101 rfl [(6, .int x8), (5, .int x7), (0, .ref (q_ad G 6 0)), (1, .ref (q_ad G 2 o1)), (2, .int x1), (3, .int x3), (4, .int x6)] (by decide) rfl ?_
            refine aw_aload_n (i := 0) dX8_carryStuff_101 102 rfl rfl 2 rfl ?_
            refine gf_X8_3 dX8_carryStuff_102 105 rfl wd_70 (ok_6 (by decide)) ?_
            refine aw_iload (i := 4) dX8_carryStuff_105 107 rfl 6 rfl ?_
            refine aw_dup2 dX8_carryStuff_107 108 rfl rfl rfl ?_
            refine aw_iald dX8_carryStuff_108 109 rfl at_50 (al_50 _) (ok_50 (by decide)) (fun h10 => ?_)
            refine aw_iload (i := 6) dX8_carryStuff_109 111 rfl 0 rfl ?_
            refine aw_isub dX8_carryStuff_111 112 rfl ?_
            refine aw_iast dX8_carryStuff_112 113 rfl at_50 (al_50 _) (ok_50 (by decide)) (fun h11 => ?_)
            refine aw_ltm (fun u9 => ?_)
            refine aw_aload_n (i := 0) dX8_carryStuff_113 114 rfl rfl 2 rfl ?_
            refine gf_X8_3 dX8_carryStuff_114 117 rfl wd_70 (ok_6 (by decide)) ?_
            refine aw_iload (i := 5) dX8_carryStuff_117 119 rfl 1 rfl ?_
            refine aw_dup2 dX8_carryStuff_119 120 rfl rfl rfl ?_
            refine aw_iald dX8_carryStuff_120 121 rfl at_50 (al_50 _) (ok_50 (by decide)) (fun h12 => ?_)
            refine aw_iload (i := 6) dX8_carryStuff_121 123 rfl 0 rfl ?_
            refine aw_iadd dX8_carryStuff_123 124 rfl ?_
            refine aw_iast dX8_carryStuff_124 125 rfl at_50 (al_50 _) (ok_50 (by decide)) (fun h13 => ?_)
            refine aw_ltm (fun u10 => ?_)
            exact aw_conv [2, 3, 4, 5] rfl (hj1 u10)
          · intro j2 hj2
            refine aw_if_le dX8_carryStuff_55 58 rfl 66 rfl (fun h6 => ?_) (fun h6 => ?_)
            · refine aw_iload_n (i := 3) dX8_carryStuff_66 67 rfl rfl 4 rfl ?_
              refine aw_iconst (x := 2) dX8_carryStuff_67 68 rfl rfl ?_
              refine aw_idiv dX8_carryStuff_68 69 rfl (by decide) ?_
              exact aw_conv [1, 2, 3, 4, 0] rfl (hj2 (x3 / 2) u6)
            · refine aw_aload_n (i := 1) dX8_carryStuff_58 59 rfl rfl 2 rfl ?_
              refine aw_iload_n (i := 3) dX8_carryStuff_59 60 rfl rfl 4 rfl ?_
              refine aw_callV (M2 := m_X0_farCell) (cv := q_cI) dX8_carryStuff_60 63 rfl (k_X0_farCell l G o1 x3 q1 u6) wd_69 wv_X0_farCell pk_X0_farCell rfl rfl ⟨by decide, by decide⟩ ⟨Nat.zero_le _, Nat.zero_le _⟩ at_2 (ok_2 q1) rfl rfl rfl (Nat.le_of_ble_eq_true rfl) (fun x9 u11 => ?_)
              show qAW l G m_X8_carryStuff (q_mq G q_cU) 63 [(4, .int x6), (0, .ref (q_ad G 6 0)), (1, .ref (q_ad G 2 o1)), (2, .int x1), (3, .int x3)] [.int x9] u11 _
              refine aw_goto dX8_carryStuff_63 69 rfl ?_
              exact aw_conv [1, 2, 3, 4, 0] rfl (hj2 x9 u11)
        · refine aw_goto dX8_carryStuff_38 125 rfl ?_
          exact hj1 u4
set_option maxRecDepth 100000 in
set_option maxHeartbeats 4000000 in
theorem k_X8_carryStuff (l : Launch) (G : qG) (o1 : Nat) (x1 : Int32) (ho1 : o1 < 7) (u0 : qM) : qCt l G m_X8_carryStuff q_cU [.ref (q_ad G 6 0), .ref (q_ad G 2 o1), .int x1] u0 (f_X8_carryStuff o1 x1 u0) := by
  refine q_entry pk_X8_carryStuff (Nat.le_of_ble_eq_true rfl) ?_
  show qAW l G m_X8_carryStuff (q_mq G q_cU) 0 [(0, .ref (q_ad G 6 0)), (1, .ref (q_ad G 2 o1)), (2, .int x1)] [] u0 (f_X8_carryStuff o1 x1 u0)
  unfold f_X8_carryStuff
  refine aw_aload_n (i := 1) dX8_carryStuff_0 1 rfl rfl 1 rfl ?_
  refine gfN_X0_2 dX8_carryStuff_1 4 rfl "SeaCells" (ns_31) (ok_2 ho1) ?_
  refine aw_iload_n (i := 2) dX8_carryStuff_4 5 rfl rfl 2 rfl ?_
  refine aw_aload_n (i := 0) dX8_carryStuff_5 6 rfl rfl 0 rfl ?_
  refine gf_X8_3 dX8_carryStuff_6 9 rfl wd_70 (ok_6 (by decide)) ?_
  refine aw_iconst (x := 0) dX8_carryStuff_9 10 rfl rfl ?_
  refine aw_aload_n (i := 1) dX8_carryStuff_10 11 rfl rfl 1 rfl ?_
  refine aw_callV (M2 := m_X0_cells) (cv := q_cI) dX8_carryStuff_11 14 rfl (k_X0_cells l G o1 ho1 u0) wd_71 wv_X0_cells pk_X0_cells rfl rfl ⟨by decide, by decide⟩ ⟨Nat.zero_le _, Nat.zero_le _⟩ at_2 (ok_2 ho1) rfl rfl rfl (Nat.le_of_ble_eq_true rfl) (fun x2 u1 => ?_)
  show qAW l G m_X8_carryStuff (q_mq G q_cU) 14 [(0, .ref (q_ad G 6 0)), (1, .ref (q_ad G 2 o1)), (2, .int x1)] [.int x2, .int 0, .ref (q_ad G 50 0), .int x1, .ref (q_ad G 39 o1)] u1 _
  refine aw_copy dX8_carryStuff_14 17 rfl wd_72 wd_29 wd_30 wd_31 at_39 (al_39 _) (ok_39 ho1) at_50 (al_50 _) (ok_50 (by decide)) (Nat.le_of_ble_eq_true rfl) (Nat.le_of_ble_eq_true rfl) (fun h1 => ?_)
  refine aw_ltm (fun u2 => ?_)
  refine aw_iconst (x := 0) dX8_carryStuff_17 18 rfl rfl ?_
  refine aw_istore_n dX8_carryStuff_18 19 rfl rfl [(3, .int 0), (0, .ref (q_ad G 6 0)), (1, .ref (q_ad G 2 o1)), (2, .int x1)] (by decide) rfl ?_
  refine aw_conv [1, 2, 3, 0] rfl (TL_X8_carryStuff_19 l G o1 x1 ho1 _ ?_ _ 0 u2)
  · intro u12
    refine aw_aload_n (i := 0) dX8_carryStuff_131 132 rfl rfl 0 rfl ?_
    refine gf_X8_3 dX8_carryStuff_132 135 rfl wd_70 (ok_6 (by decide)) ?_
    refine aw_iconst (x := 0) dX8_carryStuff_135 136 rfl rfl ?_
    refine aw_aload_n (i := 1) dX8_carryStuff_136 137 rfl rfl 1 rfl ?_
    refine gfN_X0_2 dX8_carryStuff_137 140 rfl "SeaCells" (ns_31) (ok_2 ho1) ?_
    refine aw_iload_n (i := 2) dX8_carryStuff_140 141 rfl rfl 2 rfl ?_
    refine aw_aload_n (i := 1) dX8_carryStuff_141 142 rfl rfl 1 rfl ?_
    refine aw_callV (M2 := m_X0_cells) (cv := q_cI) dX8_carryStuff_142 145 rfl (k_X0_cells l G o1 ho1 u12) wd_71 wv_X0_cells pk_X0_cells rfl rfl ⟨by decide, by decide⟩ ⟨Nat.zero_le _, Nat.zero_le _⟩ at_2 (ok_2 ho1) rfl rfl rfl (Nat.le_of_ble_eq_true rfl) (fun x10 u13 => ?_)
    show qAW l G m_X8_carryStuff (q_mq G q_cU) 145 [(0, .ref (q_ad G 6 0)), (1, .ref (q_ad G 2 o1)), (2, .int x1)] [.int x10, .int x1, .ref (q_ad G 39 o1), .int 0, .ref (q_ad G 50 0)] u13 _
    refine aw_copy dX8_carryStuff_145 148 rfl wd_72 wd_29 wd_30 wd_31 at_50 (al_50 _) (ok_50 (by decide)) at_39 (al_39 _) (ok_39 ho1) (Nat.le_of_ble_eq_true rfl) (Nat.le_of_ble_eq_true rfl) (fun h14 => ?_)
    refine aw_ltm (fun u14 => ?_)
    exact aw_vret dX8_carryStuff_148 rfl
theorem dX8_leadRim_0 : decode cX8_leadRim 0 = .ok (.iconst 0, 1) := by decide +kernel
theorem dX8_leadRim_1 : decode cX8_leadRim 1 = .ok (.istore_n 2, 1) := by decide +kernel
theorem dX8_leadRim_2 : decode cX8_leadRim 2 = .ok (.iload_n 2, 1) := by decide +kernel
theorem dX8_leadRim_3 : decode cX8_leadRim 3 = .ok (.aload_n 0, 1) := by decide +kernel
theorem dX8_leadRim_4 : decode cX8_leadRim 4 = .ok (.getfield 144, 3) := by decide +kernel
theorem dX8_leadRim_7 : decode cX8_leadRim 7 = .ok (.if_icmp .ge 61, 3) := by decide +kernel
theorem dX8_leadRim_10 : decode cX8_leadRim 10 = .ok (.iload_n 2, 1) := by decide +kernel
theorem dX8_leadRim_11 : decode cX8_leadRim 11 = .ok (.aload_n 0, 1) := by decide +kernel
theorem dX8_leadRim_12 : decode cX8_leadRim 12 = .ok (.getfield 147, 3) := by decide +kernel
theorem dX8_leadRim_15 : decode cX8_leadRim 15 = .ok (.imul, 1) := by decide +kernel
theorem dX8_leadRim_16 : decode cX8_leadRim 16 = .ok (.istore_n 3, 1) := by decide +kernel
theorem dX8_leadRim_17 : decode cX8_leadRim 17 = .ok (.iconst 0, 1) := by decide +kernel
theorem dX8_leadRim_18 : decode cX8_leadRim 18 = .ok (.ldc 142, 2) := by decide +kernel
theorem dX8_leadRim_20 : decode cX8_leadRim 20 = .ok (.iload_n 1, 1) := by decide +kernel
theorem dX8_leadRim_21 : decode cX8_leadRim 21 = .ok (.aload_n 0, 1) := by decide +kernel
theorem dX8_leadRim_22 : decode cX8_leadRim 22 = .ok (.getfield 112, 3) := by decide +kernel
theorem dX8_leadRim_25 : decode cX8_leadRim 25 = .ok (.iload_n 3, 1) := by decide +kernel
theorem dX8_leadRim_26 : decode cX8_leadRim 26 = .ok (.iaload, 1) := by decide +kernel
theorem dX8_leadRim_27 : decode cX8_leadRim 27 = .ok (.isub, 1) := by decide +kernel
theorem dX8_leadRim_28 : decode cX8_leadRim 28 = .ok (.invokestatic 150, 3) := by decide +kernel
theorem dX8_leadRim_31 : decode cX8_leadRim 31 = .ok (.invokestatic 154, 3) := by decide +kernel
theorem dX8_leadRim_34 : decode cX8_leadRim 34 = .ok (.istore 4, 2) := by decide +kernel
theorem dX8_leadRim_36 : decode cX8_leadRim 36 = .ok (.aload_n 0, 1) := by decide +kernel
theorem dX8_leadRim_37 : decode cX8_leadRim 37 = .ok (.dup, 1) := by decide +kernel
theorem dX8_leadRim_38 : decode cX8_leadRim 38 = .ok (.getfield 157, 3) := by decide +kernel
theorem dX8_leadRim_41 : decode cX8_leadRim 41 = .ok (.iload 4, 2) := by decide +kernel
theorem dX8_leadRim_43 : decode cX8_leadRim 43 = .ok (.aload_n 0, 1) := by decide +kernel
theorem dX8_leadRim_44 : decode cX8_leadRim 44 = .ok (.getfield 59, 3) := by decide +kernel
theorem dX8_leadRim_47 : decode cX8_leadRim 47 = .ok (.iload_n 3, 1) := by decide +kernel
theorem dX8_leadRim_48 : decode cX8_leadRim 48 = .ok (.iaload, 1) := by decide +kernel
theorem dX8_leadRim_49 : decode cX8_leadRim 49 = .ok (.isub, 1) := by decide +kernel
theorem dX8_leadRim_50 : decode cX8_leadRim 50 = .ok (.iadd, 1) := by decide +kernel
theorem dX8_leadRim_51 : decode cX8_leadRim 51 = .ok (.putfield 157, 3) := by decide +kernel
theorem dX8_leadRim_54 : decode cX8_leadRim 54 = .ok (.aload_n 0, 1) := by decide +kernel
theorem dX8_leadRim_55 : decode cX8_leadRim 55 = .ok (.getfield 59, 3) := by decide +kernel
theorem dX8_leadRim_58 : decode cX8_leadRim 58 = .ok (.iload_n 3, 1) := by decide +kernel
theorem dX8_leadRim_59 : decode cX8_leadRim 59 = .ok (.iload 4, 2) := by decide +kernel
theorem dX8_leadRim_61 : decode cX8_leadRim 61 = .ok (.iastore, 1) := by decide +kernel
theorem dX8_leadRim_62 : decode cX8_leadRim 62 = .ok (.iinc 2 1, 3) := by decide +kernel
theorem dX8_leadRim_65 : decode cX8_leadRim 65 = .ok (.goto (-63), 3) := by decide +kernel
theorem dX8_leadRim_68 : decode cX8_leadRim 68 = .ok (.return_, 1) := by decide +kernel
noncomputable def L_X8_leadRim_2 (o1 : Nat) (x1 : Int32) : Nat → Int32 → qM → (qM → Option (Unit × qM)) → Option (Unit × qM)
  | 0, _, _, _ => none
  | n + 1, x2, u1, e1 => if (u1.1 2 o1 13) ≤ x2 then e1 u1 else q_lt (x2 * (u1.1 2 o1 12)) (fun (x3 : Int32) => q_ck (q_in x3 48) (q_lt ((if 0 < (if (x1 - (u1.1 37 o1 (Int32.toNatClampNeg x3))) < 100000 then x1 - (u1.1 37 o1 (Int32.toNatClampNeg x3)) else 100000) then (if (x1 - (u1.1 37 o1 (Int32.toNatClampNeg x3))) < 100000 then x1 - (u1.1 37 o1 (Int32.toNatClampNeg x3)) else 100000) else 0)) (fun (x4 : Int32) => q_ck (q_in x3 48) (q_lt (q_si u1 2 o1 16 ((u1.1 2 o1 16) + (x4 - (u1.1 38 o1 (Int32.toNatClampNeg x3))))) (fun (u2 : qM) => q_ck (q_in x3 48) (q_lt (q_si u2 38 o1 (Int32.toNatClampNeg x3) x4) (fun (u3 : qM) => q_lt (x2 + 1) (fun (x5 : Int32) => L_X8_leadRim_2 o1 x1 n x5 u3 e1))))))))
noncomputable def f_X8_leadRim (o1 : Nat) (x1 : Int32) (u0 : qM) : Option (Unit × qM) :=
  L_X8_leadRim_2 o1 x1 q_fu 0 u0 (fun u4 => some ((), u4))
set_option maxRecDepth 100000 in
set_option maxHeartbeats 4000000 in
theorem TL_X8_leadRim_2 (l : Launch) (G : qG) (o1 : Nat) (x1 : Int32) (q1 : o1 < 7) (e1 : qM → Option (Unit × qM)) (he1 : ∀  (v : qM), qAW l G m_X8_leadRim (q_mq G q_cU) 68 [] [] v (e1 v)) : ∀ (n : Nat) (x2 : Int32) (u1 : qM), qAW l G m_X8_leadRim (q_mq G q_cU) 2 [(0, .ref (q_ad G 2 o1)), (1, .int x1), (2, .int x2)] [] u1 (L_X8_leadRim_2 o1 x1 n x2 u1 e1) := by
  intro n
  induction n with
  | zero => intros; exact aw_none
  | succ n ih =>
    intro x2 u1
    unfold L_X8_leadRim_2
    refine aw_iload_n (i := 2) dX8_leadRim_2 3 rfl rfl 2 rfl ?_
    refine aw_aload_n (i := 0) dX8_leadRim_3 4 rfl rfl 0 rfl ?_
    refine gfN_X0_13 dX8_leadRim_4 7 rfl "SeaCells" (ns_48) (ok_2 q1) ?_
    refine aw_icmp_ge dX8_leadRim_7 10 rfl 68 rfl (fun h1 => ?_) (fun h1 => ?_)
    · exact aw_conv [] rfl (he1 u1)
    · refine aw_iload_n (i := 2) dX8_leadRim_10 11 rfl rfl 2 rfl ?_
      refine aw_aload_n (i := 0) dX8_leadRim_11 12 rfl rfl 0 rfl ?_
      refine gfN_X0_12 dX8_leadRim_12 15 rfl "SeaCells" (ns_46) (ok_2 q1) ?_
      refine aw_imul dX8_leadRim_15 16 rfl ?_
      refine aw_lti (fun x3 => ?_)
      refine aw_istore_n dX8_leadRim_16 17 rfl rfl [(3, .int x3), (0, .ref (q_ad G 2 o1)), (1, .int x1), (2, .int x2)] (by decide) rfl ?_
      refine aw_iconst (x := 0) dX8_leadRim_17 18 rfl rfl ?_
      refine aw_ldc (x := 100000) dX8_leadRim_18 20 rfl wd_78 ?_
      refine aw_iload_n (i := 1) dX8_leadRim_20 21 rfl rfl 2 rfl ?_
      refine aw_aload_n (i := 0) dX8_leadRim_21 22 rfl rfl 1 rfl ?_
      refine gfN_X0_0 dX8_leadRim_22 25 rfl "SeaCells" (ns_27) (ok_2 q1) ?_
      refine aw_iload_n (i := 3) dX8_leadRim_25 26 rfl rfl 0 rfl ?_
      refine aw_iald dX8_leadRim_26 27 rfl at_37 (al_37 _) (ok_37 q1) (fun h2 => ?_)
      refine aw_isub dX8_leadRim_27 28 rfl ?_
      refine aw_min dX8_leadRim_28 31 rfl wd_79 wd_51 wd_52 wd_53 (Nat.le_of_ble_eq_true rfl) (Nat.le_of_ble_eq_true rfl) (Nat.zero_le _) (Nat.zero_le _) ?_
      refine aw_max dX8_leadRim_31 34 rfl wd_80 wd_55 wd_52 wd_56 (Nat.le_of_ble_eq_true rfl) (Nat.le_of_ble_eq_true rfl) (Nat.zero_le _) (Nat.zero_le _) ?_
      refine aw_lti (fun x4 => ?_)
      refine aw_istore dX8_leadRim_34 36 rfl [(4, .int x4), (3, .int x3), (0, .ref (q_ad G 2 o1)), (1, .int x1), (2, .int x2)] (by decide) rfl ?_
      refine aw_aload_n (i := 0) dX8_leadRim_36 37 rfl rfl 2 rfl ?_
      refine aw_dup dX8_leadRim_37 38 rfl rfl ?_
      refine gfN_X0_16 dX8_leadRim_38 41 rfl "SeaCells" (ns_52) (ok_2 q1) ?_
      refine aw_iload (i := 4) dX8_leadRim_41 43 rfl 0 rfl ?_
      refine aw_aload_n (i := 0) dX8_leadRim_43 44 rfl rfl 2 rfl ?_
      refine gfN_X0_1 dX8_leadRim_44 47 rfl "SeaCells" (ns_29) (ok_2 q1) ?_
      refine aw_iload_n (i := 3) dX8_leadRim_47 48 rfl rfl 1 rfl ?_
      refine aw_iald dX8_leadRim_48 49 rfl at_38 (al_38 _) (ok_38 q1) (fun h3 => ?_)
      refine aw_isub dX8_leadRim_49 50 rfl ?_
      refine aw_iadd dX8_leadRim_50 51 rfl ?_
      refine pfN_X0_16 dX8_leadRim_51 54 rfl "SeaCells" (ns_52) (ok_2 q1) ?_
      refine aw_ltm (fun u2 => ?_)
      refine aw_aload_n (i := 0) dX8_leadRim_54 55 rfl rfl 2 rfl ?_
      refine gfN_X0_1 dX8_leadRim_55 58 rfl "SeaCells" (ns_29) (ok_2 q1) ?_
      refine aw_iload_n (i := 3) dX8_leadRim_58 59 rfl rfl 1 rfl ?_
      refine aw_iload (i := 4) dX8_leadRim_59 61 rfl 0 rfl ?_
      refine aw_iast dX8_leadRim_61 62 rfl at_38 (al_38 _) (ok_38 q1) (fun h4 => ?_)
      refine aw_ltm (fun u3 => ?_)
      refine aw_iincx (i := 2) dX8_leadRim_62 65 rfl 4 rfl 1 rfl (fun x5 => [(2, .int x5), (4, .int x4), (3, .int x3), (0, .ref (q_ad G 2 o1)), (1, .int x1)]) (by decide) (fun _ => rfl) (fun x5 => ?_)
      refine aw_goto dX8_leadRim_65 2 rfl ?_
      exact aw_conv [3, 4, 0] rfl (ih x5 u3)
set_option maxRecDepth 100000 in
set_option maxHeartbeats 4000000 in
theorem k_X8_leadRim (l : Launch) (G : qG) (o1 : Nat) (x1 : Int32) (ho1 : o1 < 7) (u0 : qM) : qCt l G m_X8_leadRim q_cU [.ref (q_ad G 2 o1), .int x1] u0 (f_X8_leadRim o1 x1 u0) := by
  refine q_entry pk_X8_leadRim (Nat.le_of_ble_eq_true rfl) ?_
  show qAW l G m_X8_leadRim (q_mq G q_cU) 0 [(0, .ref (q_ad G 2 o1)), (1, .int x1)] [] u0 (f_X8_leadRim o1 x1 u0)
  unfold f_X8_leadRim
  refine aw_iconst (x := 0) dX8_leadRim_0 1 rfl rfl ?_
  refine aw_istore_n dX8_leadRim_1 2 rfl rfl [(2, .int 0), (0, .ref (q_ad G 2 o1)), (1, .int x1)] (by decide) rfl ?_
  refine aw_conv [1, 2, 0] rfl (TL_X8_leadRim_2 l G o1 x1 ho1 _ ?_ _ 0 u0)
  · intro u4
    exact aw_vret dX8_leadRim_68 rfl
theorem dX8_limitFlows_0 : decode cX8_limitFlows 0 = .ok (.iconst 0, 1) := by decide +kernel
theorem dX8_limitFlows_1 : decode cX8_limitFlows 1 = .ok (.istore_n 2, 1) := by decide +kernel
theorem dX8_limitFlows_2 : decode cX8_limitFlows 2 = .ok (.iload_n 2, 1) := by decide +kernel
theorem dX8_limitFlows_3 : decode cX8_limitFlows 3 = .ok (.aload_n 1, 1) := by decide +kernel
theorem dX8_limitFlows_4 : decode cX8_limitFlows 4 = .ok (.invokevirtual 49, 3) := by decide +kernel
theorem dX8_limitFlows_7 : decode cX8_limitFlows 7 = .ok (.if_icmp .ge 16, 3) := by decide +kernel
theorem dX8_limitFlows_10 : decode cX8_limitFlows 10 = .ok (.aload_n 0, 1) := by decide +kernel
theorem dX8_limitFlows_11 : decode cX8_limitFlows 11 = .ok (.getfield 15, 3) := by decide +kernel
theorem dX8_limitFlows_14 : decode cX8_limitFlows 14 = .ok (.iload_n 2, 1) := by decide +kernel
theorem dX8_limitFlows_15 : decode cX8_limitFlows 15 = .ok (.iconst 0, 1) := by decide +kernel
theorem dX8_limitFlows_16 : decode cX8_limitFlows 16 = .ok (.iastore, 1) := by decide +kernel
theorem dX8_limitFlows_17 : decode cX8_limitFlows 17 = .ok (.iinc 2 1, 3) := by decide +kernel
theorem dX8_limitFlows_20 : decode cX8_limitFlows 20 = .ok (.goto (-18), 3) := by decide +kernel
theorem dX8_limitFlows_23 : decode cX8_limitFlows 23 = .ok (.iconst 0, 1) := by decide +kernel
theorem dX8_limitFlows_24 : decode cX8_limitFlows 24 = .ok (.istore_n 2, 1) := by decide +kernel
theorem dX8_limitFlows_25 : decode cX8_limitFlows 25 = .ok (.iload_n 2, 1) := by decide +kernel
theorem dX8_limitFlows_26 : decode cX8_limitFlows 26 = .ok (.iconst 2, 1) := by decide +kernel
theorem dX8_limitFlows_27 : decode cX8_limitFlows 27 = .ok (.aload_n 1, 1) := by decide +kernel
theorem dX8_limitFlows_28 : decode cX8_limitFlows 28 = .ok (.invokevirtual 49, 3) := by decide +kernel
theorem dX8_limitFlows_31 : decode cX8_limitFlows 31 = .ok (.imul, 1) := by decide +kernel
theorem dX8_limitFlows_32 : decode cX8_limitFlows 32 = .ok (.if_icmp .ge 41, 3) := by decide +kernel
theorem dX8_limitFlows_35 : decode cX8_limitFlows 35 = .ok (.aload_n 0, 1) := by decide +kernel
theorem dX8_limitFlows_36 : decode cX8_limitFlows 36 = .ok (.getfield 9, 3) := by decide +kernel
theorem dX8_limitFlows_39 : decode cX8_limitFlows 39 = .ok (.iload_n 2, 1) := by decide +kernel
theorem dX8_limitFlows_40 : decode cX8_limitFlows 40 = .ok (.iaload, 1) := by decide +kernel
theorem dX8_limitFlows_41 : decode cX8_limitFlows 41 = .ok (.ifCond .eq 26, 3) := by decide +kernel
theorem dX8_limitFlows_44 : decode cX8_limitFlows 44 = .ok (.aload_n 0, 1) := by decide +kernel
theorem dX8_limitFlows_45 : decode cX8_limitFlows 45 = .ok (.getfield 15, 3) := by decide +kernel
theorem dX8_limitFlows_48 : decode cX8_limitFlows 48 = .ok (.aload_n 0, 1) := by decide +kernel
theorem dX8_limitFlows_49 : decode cX8_limitFlows 49 = .ok (.aload_n 1, 1) := by decide +kernel
theorem dX8_limitFlows_50 : decode cX8_limitFlows 50 = .ok (.iload_n 2, 1) := by decide +kernel
theorem dX8_limitFlows_51 : decode cX8_limitFlows 51 = .ok (.invokevirtual 115, 3) := by decide +kernel
theorem dX8_limitFlows_54 : decode cX8_limitFlows 54 = .ok (.dup2, 1) := by decide +kernel
theorem dX8_limitFlows_55 : decode cX8_limitFlows 55 = .ok (.iaload, 1) := by decide +kernel
theorem dX8_limitFlows_56 : decode cX8_limitFlows 56 = .ok (.aload_n 0, 1) := by decide +kernel
theorem dX8_limitFlows_57 : decode cX8_limitFlows 57 = .ok (.getfield 9, 3) := by decide +kernel
theorem dX8_limitFlows_60 : decode cX8_limitFlows 60 = .ok (.iload_n 2, 1) := by decide +kernel
theorem dX8_limitFlows_61 : decode cX8_limitFlows 61 = .ok (.iaload, 1) := by decide +kernel
theorem dX8_limitFlows_62 : decode cX8_limitFlows 62 = .ok (.invokestatic 118, 3) := by decide +kernel
theorem dX8_limitFlows_65 : decode cX8_limitFlows 65 = .ok (.iadd, 1) := by decide +kernel
theorem dX8_limitFlows_66 : decode cX8_limitFlows 66 = .ok (.iastore, 1) := by decide +kernel
theorem dX8_limitFlows_67 : decode cX8_limitFlows 67 = .ok (.iinc 2 1, 3) := by decide +kernel
theorem dX8_limitFlows_70 : decode cX8_limitFlows 70 = .ok (.goto (-45), 3) := by decide +kernel
theorem dX8_limitFlows_73 : decode cX8_limitFlows 73 = .ok (.iconst 0, 1) := by decide +kernel
theorem dX8_limitFlows_74 : decode cX8_limitFlows 74 = .ok (.istore_n 2, 1) := by decide +kernel
theorem dX8_limitFlows_75 : decode cX8_limitFlows 75 = .ok (.iload_n 2, 1) := by decide +kernel
theorem dX8_limitFlows_76 : decode cX8_limitFlows 76 = .ok (.iconst 2, 1) := by decide +kernel
theorem dX8_limitFlows_77 : decode cX8_limitFlows 77 = .ok (.aload_n 1, 1) := by decide +kernel
theorem dX8_limitFlows_78 : decode cX8_limitFlows 78 = .ok (.invokevirtual 49, 3) := by decide +kernel
theorem dX8_limitFlows_81 : decode cX8_limitFlows 81 = .ok (.imul, 1) := by decide +kernel
theorem dX8_limitFlows_82 : decode cX8_limitFlows 82 = .ok (.if_icmp .ge 70, 3) := by decide +kernel
theorem dX8_limitFlows_85 : decode cX8_limitFlows 85 = .ok (.aload_n 0, 1) := by decide +kernel
theorem dX8_limitFlows_86 : decode cX8_limitFlows 86 = .ok (.getfield 9, 3) := by decide +kernel
theorem dX8_limitFlows_89 : decode cX8_limitFlows 89 = .ok (.iload_n 2, 1) := by decide +kernel
theorem dX8_limitFlows_90 : decode cX8_limitFlows 90 = .ok (.iaload, 1) := by decide +kernel
theorem dX8_limitFlows_91 : decode cX8_limitFlows 91 = .ok (.ifCond .ne 6, 3) := by decide +kernel
theorem dX8_limitFlows_94 : decode cX8_limitFlows 94 = .ok (.goto 52, 3) := by decide +kernel
theorem dX8_limitFlows_97 : decode cX8_limitFlows 97 = .ok (.aload_n 0, 1) := by decide +kernel
theorem dX8_limitFlows_98 : decode cX8_limitFlows 98 = .ok (.aload_n 1, 1) := by decide +kernel
theorem dX8_limitFlows_99 : decode cX8_limitFlows 99 = .ok (.iload_n 2, 1) := by decide +kernel
theorem dX8_limitFlows_100 : decode cX8_limitFlows 100 = .ok (.invokevirtual 115, 3) := by decide +kernel
theorem dX8_limitFlows_103 : decode cX8_limitFlows 103 = .ok (.istore_n 3, 1) := by decide +kernel
theorem dX8_limitFlows_104 : decode cX8_limitFlows 104 = .ok (.aload_n 0, 1) := by decide +kernel
theorem dX8_limitFlows_105 : decode cX8_limitFlows 105 = .ok (.getfield 15, 3) := by decide +kernel
theorem dX8_limitFlows_108 : decode cX8_limitFlows 108 = .ok (.iload_n 3, 1) := by decide +kernel
theorem dX8_limitFlows_109 : decode cX8_limitFlows 109 = .ok (.iaload, 1) := by decide +kernel
theorem dX8_limitFlows_110 : decode cX8_limitFlows 110 = .ok (.aload_n 1, 1) := by decide +kernel
theorem dX8_limitFlows_111 : decode cX8_limitFlows 111 = .ok (.getfield 59, 3) := by decide +kernel
theorem dX8_limitFlows_114 : decode cX8_limitFlows 114 = .ok (.iload_n 3, 1) := by decide +kernel
theorem dX8_limitFlows_115 : decode cX8_limitFlows 115 = .ok (.iaload, 1) := by decide +kernel
theorem dX8_limitFlows_116 : decode cX8_limitFlows 116 = .ok (.if_icmp .le 30, 3) := by decide +kernel
theorem dX8_limitFlows_119 : decode cX8_limitFlows 119 = .ok (.aload_n 0, 1) := by decide +kernel
theorem dX8_limitFlows_120 : decode cX8_limitFlows 120 = .ok (.getfield 9, 3) := by decide +kernel
theorem dX8_limitFlows_123 : decode cX8_limitFlows 123 = .ok (.iload_n 2, 1) := by decide +kernel
theorem dX8_limitFlows_124 : decode cX8_limitFlows 124 = .ok (.aload_n 0, 1) := by decide +kernel
theorem dX8_limitFlows_125 : decode cX8_limitFlows 125 = .ok (.getfield 9, 3) := by decide +kernel
theorem dX8_limitFlows_128 : decode cX8_limitFlows 128 = .ok (.iload_n 2, 1) := by decide +kernel
theorem dX8_limitFlows_129 : decode cX8_limitFlows 129 = .ok (.iaload, 1) := by decide +kernel
theorem dX8_limitFlows_130 : decode cX8_limitFlows 130 = .ok (.aload_n 1, 1) := by decide +kernel
theorem dX8_limitFlows_131 : decode cX8_limitFlows 131 = .ok (.getfield 59, 3) := by decide +kernel
theorem dX8_limitFlows_134 : decode cX8_limitFlows 134 = .ok (.iload_n 3, 1) := by decide +kernel
theorem dX8_limitFlows_135 : decode cX8_limitFlows 135 = .ok (.iaload, 1) := by decide +kernel
theorem dX8_limitFlows_136 : decode cX8_limitFlows 136 = .ok (.aload_n 0, 1) := by decide +kernel
theorem dX8_limitFlows_137 : decode cX8_limitFlows 137 = .ok (.getfield 15, 3) := by decide +kernel
theorem dX8_limitFlows_140 : decode cX8_limitFlows 140 = .ok (.iload_n 3, 1) := by decide +kernel
theorem dX8_limitFlows_141 : decode cX8_limitFlows 141 = .ok (.iaload, 1) := by decide +kernel
theorem dX8_limitFlows_142 : decode cX8_limitFlows 142 = .ok (.invokestatic 123, 3) := by decide +kernel
theorem dX8_limitFlows_145 : decode cX8_limitFlows 145 = .ok (.iastore, 1) := by decide +kernel
theorem dX8_limitFlows_146 : decode cX8_limitFlows 146 = .ok (.iinc 2 1, 3) := by decide +kernel
theorem dX8_limitFlows_149 : decode cX8_limitFlows 149 = .ok (.goto (-74), 3) := by decide +kernel
theorem dX8_limitFlows_152 : decode cX8_limitFlows 152 = .ok (.return_, 1) := by decide +kernel
noncomputable def L_X8_limitFlows_2 (o1 : Nat) : Nat → Int32 → qM → (qM → Option (Unit × qM)) → Option (Unit × qM)
  | 0, _, _, _ => none
  | n + 1, x1, u1, e1 => q_bd (f_X0_cells o1 u1) (fun (x2 : Int32) (u2 : qM) => if x2 ≤ x1 then e1 u2 else q_ck (q_in x1 48) (q_lt (q_si u2 48 0 (Int32.toNatClampNeg x1) 0) (fun (u3 : qM) => q_lt (x1 + 1) (fun (x3 : Int32) => L_X8_limitFlows_2 o1 n x3 u3 e1))))
noncomputable def L_X8_limitFlows_25 (o1 : Nat) : Nat → Int32 → qM → (qM → Option (Unit × qM)) → Option (Unit × qM)
  | 0, _, _, _ => none
  | n + 1, x4, u5, e1 => q_bd (f_X0_cells o1 u5) (fun (x5 : Int32) (u6 : qM) => if (2 * x5) ≤ x4 then e1 u6 else q_ck (q_in x4 96) (q_jn (fun  (u7 : qM) => q_lt (x4 + 1) (fun (x6 : Int32) => L_X8_limitFlows_25 o1 n x6 u7 e1)) (fun j1 => if (u6.1 47 0 (Int32.toNatClampNeg x4)) = 0 then j1 u6 else q_bd (f_X8_source o1 x4 u6) (fun (x7 : Int32) (u8 : qM) => q_ck (q_in x7 48) (q_ck (q_in x4 96) (q_ck (q_in x7 48) (q_lt (q_si u8 48 0 (Int32.toNatClampNeg x7) ((u8.1 48 0 (Int32.toNatClampNeg x7)) + (if (0 : Int32) ≤ (u8.1 47 0 (Int32.toNatClampNeg x4)) then u8.1 47 0 (Int32.toNatClampNeg x4) else 0 - (u8.1 47 0 (Int32.toNatClampNeg x4))))) (fun (u9 : qM) => j1 u9))))))))
noncomputable def L_X8_limitFlows_75 (o1 : Nat) : Nat → Int32 → qM → (qM → Option (Unit × qM)) → Option (Unit × qM)
  | 0, _, _, _ => none
  | n + 1, x8, u11, e1 => q_bd (f_X0_cells o1 u11) (fun (x9 : Int32) (u12 : qM) => if (2 * x9) ≤ x8 then e1 u12 else q_ck (q_in x8 96) (q_jn (fun  (u13 : qM) => q_lt (x8 + 1) (fun (x10 : Int32) => L_X8_limitFlows_75 o1 n x10 u13 e1)) (fun j2 => if (u12.1 47 0 (Int32.toNatClampNeg x8)) = 0 then j2 u12 else q_bd (f_X8_source o1 x8 u12) (fun (x11 : Int32) (u14 : qM) => q_ck (q_in x11 48) (q_ck (q_in x11 48) (if (u14.1 48 0 (Int32.toNatClampNeg x11)) ≤ (u14.1 38 o1 (Int32.toNatClampNeg x11)) then j2 u14 else q_ck (q_in x8 96) (q_ck (q_in x11 48) (q_ck (q_in x11 48) (q_bd (f_X8_share (u14.1 47 0 (Int32.toNatClampNeg x8)) (u14.1 38 o1 (Int32.toNatClampNeg x11)) (u14.1 48 0 (Int32.toNatClampNeg x11)) u14) (fun (x12 : Int32) (u15 : qM) => q_ck (q_in x8 96) (q_lt (q_si u15 47 0 (Int32.toNatClampNeg x8) x12) (fun (u16 : qM) => j2 u16))))))))))))
noncomputable def f_X8_limitFlows (o1 : Nat) (u0 : qM) : Option (Unit × qM) :=
  L_X8_limitFlows_2 o1 q_fu 0 u0 (fun u4 => L_X8_limitFlows_25 o1 q_fu 0 u4 (fun u10 => L_X8_limitFlows_75 o1 q_fu 0 u10 (fun u17 => some ((), u17))))
set_option maxRecDepth 100000 in
set_option maxHeartbeats 4000000 in
theorem TL_X8_limitFlows_2 (l : Launch) (G : qG) (o1 : Nat) (q1 : o1 < 7) (e1 : qM → Option (Unit × qM)) (he1 : ∀  (v : qM), qAW l G m_X8_limitFlows (q_mq G q_cU) 23 [(0, .ref (q_ad G 6 0)), (1, .ref (q_ad G 2 o1))] [] v (e1 v)) : ∀ (n : Nat) (x1 : Int32) (u1 : qM), qAW l G m_X8_limitFlows (q_mq G q_cU) 2 [(0, .ref (q_ad G 6 0)), (1, .ref (q_ad G 2 o1)), (2, .int x1)] [] u1 (L_X8_limitFlows_2 o1 n x1 u1 e1) := by
  intro n
  induction n with
  | zero => intros; exact aw_none
  | succ n ih =>
    intro x1 u1
    unfold L_X8_limitFlows_2
    refine aw_iload_n (i := 2) dX8_limitFlows_2 3 rfl rfl 2 rfl ?_
    refine aw_aload_n (i := 1) dX8_limitFlows_3 4 rfl rfl 1 rfl ?_
    refine aw_callV (M2 := m_X0_cells) (cv := q_cI) dX8_limitFlows_4 7 rfl (k_X0_cells l G o1 q1 u1) wd_71 wv_X0_cells pk_X0_cells rfl rfl ⟨by decide, by decide⟩ ⟨Nat.zero_le _, Nat.zero_le _⟩ at_2 (ok_2 q1) rfl rfl rfl (Nat.le_of_ble_eq_true rfl) (fun x2 u2 => ?_)
    show qAW l G m_X8_limitFlows (q_mq G q_cU) 7 [(0, .ref (q_ad G 6 0)), (1, .ref (q_ad G 2 o1)), (2, .int x1)] [.int x2, .int x1] u2 _
    refine aw_icmp_ge dX8_limitFlows_7 10 rfl 23 rfl (fun h1 => ?_) (fun h1 => ?_)
    · exact aw_conv [0, 1] rfl (he1 u2)
    · refine aw_aload_n (i := 0) dX8_limitFlows_10 11 rfl rfl 0 rfl ?_
      refine gf_X8_1 dX8_limitFlows_11 14 rfl wd_81 (ok_6 (by decide)) ?_
      refine aw_iload_n (i := 2) dX8_limitFlows_14 15 rfl rfl 2 rfl ?_
      refine aw_iconst (x := 0) dX8_limitFlows_15 16 rfl rfl ?_
      refine aw_iast dX8_limitFlows_16 17 rfl at_48 (al_48 _) (ok_48 (by decide)) (fun h2 => ?_)
      refine aw_ltm (fun u3 => ?_)
      refine aw_iincx (i := 2) dX8_limitFlows_17 20 rfl 2 rfl 1 rfl (fun x3 => [(2, .int x3), (0, .ref (q_ad G 6 0)), (1, .ref (q_ad G 2 o1))]) (by decide) (fun _ => rfl) (fun x3 => ?_)
      refine aw_goto dX8_limitFlows_20 2 rfl ?_
      exact aw_conv [1, 2, 0] rfl (ih x3 u3)
set_option maxRecDepth 100000 in
set_option maxHeartbeats 4000000 in
theorem TL_X8_limitFlows_25 (l : Launch) (G : qG) (o1 : Nat) (q2 : o1 < 7) (e1 : qM → Option (Unit × qM)) (he1 : ∀  (v : qM), qAW l G m_X8_limitFlows (q_mq G q_cU) 73 [(0, .ref (q_ad G 6 0)), (1, .ref (q_ad G 2 o1))] [] v (e1 v)) : ∀ (n : Nat) (x4 : Int32) (u5 : qM), qAW l G m_X8_limitFlows (q_mq G q_cU) 25 [(0, .ref (q_ad G 6 0)), (1, .ref (q_ad G 2 o1)), (2, .int x4)] [] u5 (L_X8_limitFlows_25 o1 n x4 u5 e1) := by
  intro n
  induction n with
  | zero => intros; exact aw_none
  | succ n ih =>
    intro x4 u5
    unfold L_X8_limitFlows_25
    refine aw_iload_n (i := 2) dX8_limitFlows_25 26 rfl rfl 2 rfl ?_
    refine aw_iconst (x := 2) dX8_limitFlows_26 27 rfl rfl ?_
    refine aw_aload_n (i := 1) dX8_limitFlows_27 28 rfl rfl 1 rfl ?_
    refine aw_callV (M2 := m_X0_cells) (cv := q_cI) dX8_limitFlows_28 31 rfl (k_X0_cells l G o1 q2 u5) wd_71 wv_X0_cells pk_X0_cells rfl rfl ⟨by decide, by decide⟩ ⟨Nat.zero_le _, Nat.zero_le _⟩ at_2 (ok_2 q2) rfl rfl rfl (Nat.le_of_ble_eq_true rfl) (fun x5 u6 => ?_)
    show qAW l G m_X8_limitFlows (q_mq G q_cU) 31 [(0, .ref (q_ad G 6 0)), (1, .ref (q_ad G 2 o1)), (2, .int x4)] [.int x5, .int 2, .int x4] u6 _
    refine aw_imul dX8_limitFlows_31 32 rfl ?_
    refine aw_icmp_ge dX8_limitFlows_32 35 rfl 73 rfl (fun h3 => ?_) (fun h3 => ?_)
    · exact aw_conv [0, 1] rfl (he1 u6)
    · refine aw_aload_n (i := 0) dX8_limitFlows_35 36 rfl rfl 0 rfl ?_
      refine gf_X8_0 dX8_limitFlows_36 39 rfl wd_68 (ok_6 (by decide)) ?_
      refine aw_iload_n (i := 2) dX8_limitFlows_39 40 rfl rfl 2 rfl ?_
      refine aw_iald dX8_limitFlows_40 41 rfl at_47 (al_47 _) (ok_47 (by decide)) (fun h4 => ?_)
      refine aw_jn (fun k => ∀  (u7 : qM), qAW l G m_X8_limitFlows (q_mq G q_cU) 67 [(0, .ref (q_ad G 6 0)), (1, .ref (q_ad G 2 o1)), (2, .int x4)] [] u7 (k u7)) ?_ ?_
      · intro u7
        refine aw_iincx (i := 2) dX8_limitFlows_67 70 rfl 2 rfl 1 rfl (fun x6 => [(2, .int x6), (0, .ref (q_ad G 6 0)), (1, .ref (q_ad G 2 o1))]) (by decide) (fun _ => rfl) (fun x6 => ?_)
        refine aw_goto dX8_limitFlows_70 25 rfl ?_
        exact aw_conv [1, 2, 0] rfl (ih x6 u7)
      · intro j1 hj1
        refine aw_if_eq dX8_limitFlows_41 44 rfl 67 rfl (fun h5 => ?_) (fun h5 => ?_)
        · exact hj1 u6
        · refine aw_aload_n (i := 0) dX8_limitFlows_44 45 rfl rfl 0 rfl ?_
          refine gf_X8_1 dX8_limitFlows_45 48 rfl wd_81 (ok_6 (by decide)) ?_
          refine aw_aload_n (i := 0) dX8_limitFlows_48 49 rfl rfl 0 rfl ?_
          refine aw_aload_n (i := 1) dX8_limitFlows_49 50 rfl rfl 1 rfl ?_
          refine aw_iload_n (i := 2) dX8_limitFlows_50 51 rfl rfl 2 rfl ?_
          refine aw_callV (M2 := m_X8_source) (cv := q_cI) dX8_limitFlows_51 54 rfl (k_X8_source l G o1 x4 q2 u6) wd_73 wv_X8_source pk_X8_source rfl rfl ⟨by decide, by decide⟩ ⟨Nat.zero_le _, Nat.zero_le _⟩ at_6 (ok_6 (by decide)) rfl rfl rfl (Nat.le_of_ble_eq_true rfl) (fun x7 u8 => ?_)
          show qAW l G m_X8_limitFlows (q_mq G q_cU) 54 [(0, .ref (q_ad G 6 0)), (1, .ref (q_ad G 2 o1)), (2, .int x4)] [.int x7, .ref (q_ad G 48 0)] u8 _
          refine aw_dup2 dX8_limitFlows_54 55 rfl rfl rfl ?_
          refine aw_iald dX8_limitFlows_55 56 rfl at_48 (al_48 _) (ok_48 (by decide)) (fun h6 => ?_)
          refine aw_aload_n (i := 0) dX8_limitFlows_56 57 rfl rfl 0 rfl ?_
          refine gf_X8_0 dX8_limitFlows_57 60 rfl wd_68 (ok_6 (by decide)) ?_
          refine aw_iload_n (i := 2) dX8_limitFlows_60 61 rfl rfl 2 rfl ?_
          refine aw_iald dX8_limitFlows_61 62 rfl at_47 (al_47 _) (ok_47 (by decide)) (fun h7 => ?_)
          refine aw_abs dX8_limitFlows_62 65 rfl wd_74 wd_75 wd_52 wd_76 (Nat.le_of_ble_eq_true rfl) (Nat.le_of_ble_eq_true rfl) (Nat.zero_le _) (Nat.zero_le _) ?_
          refine aw_iadd dX8_limitFlows_65 66 rfl ?_
          refine aw_iast dX8_limitFlows_66 67 rfl at_48 (al_48 _) (ok_48 (by decide)) (fun h8 => ?_)
          refine aw_ltm (fun u9 => ?_)
          exact hj1 u9
set_option maxRecDepth 100000 in
set_option maxHeartbeats 4000000 in
theorem TL_X8_limitFlows_75 (l : Launch) (G : qG) (o1 : Nat) (q3 : o1 < 7) (e1 : qM → Option (Unit × qM)) (he1 : ∀  (v : qM), qAW l G m_X8_limitFlows (q_mq G q_cU) 152 [] [] v (e1 v)) : ∀ (n : Nat) (x8 : Int32) (u11 : qM), qAW l G m_X8_limitFlows (q_mq G q_cU) 75 [(0, .ref (q_ad G 6 0)), (1, .ref (q_ad G 2 o1)), (2, .int x8)] [] u11 (L_X8_limitFlows_75 o1 n x8 u11 e1) := by
  intro n
  induction n with
  | zero => intros; exact aw_none
  | succ n ih =>
    intro x8 u11
    unfold L_X8_limitFlows_75
    refine aw_iload_n (i := 2) dX8_limitFlows_75 76 rfl rfl 2 rfl ?_
    refine aw_iconst (x := 2) dX8_limitFlows_76 77 rfl rfl ?_
    refine aw_aload_n (i := 1) dX8_limitFlows_77 78 rfl rfl 1 rfl ?_
    refine aw_callV (M2 := m_X0_cells) (cv := q_cI) dX8_limitFlows_78 81 rfl (k_X0_cells l G o1 q3 u11) wd_71 wv_X0_cells pk_X0_cells rfl rfl ⟨by decide, by decide⟩ ⟨Nat.zero_le _, Nat.zero_le _⟩ at_2 (ok_2 q3) rfl rfl rfl (Nat.le_of_ble_eq_true rfl) (fun x9 u12 => ?_)
    show qAW l G m_X8_limitFlows (q_mq G q_cU) 81 [(0, .ref (q_ad G 6 0)), (1, .ref (q_ad G 2 o1)), (2, .int x8)] [.int x9, .int 2, .int x8] u12 _
    refine aw_imul dX8_limitFlows_81 82 rfl ?_
    refine aw_icmp_ge dX8_limitFlows_82 85 rfl 152 rfl (fun h9 => ?_) (fun h9 => ?_)
    · exact aw_conv [] rfl (he1 u12)
    · refine aw_aload_n (i := 0) dX8_limitFlows_85 86 rfl rfl 0 rfl ?_
      refine gf_X8_0 dX8_limitFlows_86 89 rfl wd_68 (ok_6 (by decide)) ?_
      refine aw_iload_n (i := 2) dX8_limitFlows_89 90 rfl rfl 2 rfl ?_
      refine aw_iald dX8_limitFlows_90 91 rfl at_47 (al_47 _) (ok_47 (by decide)) (fun h10 => ?_)
      refine aw_jn (fun k => ∀  (u13 : qM), qAW l G m_X8_limitFlows (q_mq G q_cU) 146 [(0, .ref (q_ad G 6 0)), (1, .ref (q_ad G 2 o1)), (2, .int x8)] [] u13 (k u13)) ?_ ?_
      · intro u13
        refine aw_iincx (i := 2) dX8_limitFlows_146 149 rfl 2 rfl 1 rfl (fun x10 => [(2, .int x10), (0, .ref (q_ad G 6 0)), (1, .ref (q_ad G 2 o1))]) (by decide) (fun _ => rfl) (fun x10 => ?_)
        refine aw_goto dX8_limitFlows_149 75 rfl ?_
        exact aw_conv [1, 2, 0] rfl (ih x10 u13)
      · intro j2 hj2
        refine aw_if_ne dX8_limitFlows_91 94 rfl 97 rfl (fun h11 => ?_) (fun h11 => ?_)
        · refine aw_aload_n (i := 0) dX8_limitFlows_97 98 rfl rfl 0 rfl ?_
          refine aw_aload_n (i := 1) dX8_limitFlows_98 99 rfl rfl 1 rfl ?_
          refine aw_iload_n (i := 2) dX8_limitFlows_99 100 rfl rfl 2 rfl ?_
          refine aw_callV (M2 := m_X8_source) (cv := q_cI) dX8_limitFlows_100 103 rfl (k_X8_source l G o1 x8 q3 u12) wd_73 wv_X8_source pk_X8_source rfl rfl ⟨by decide, by decide⟩ ⟨Nat.zero_le _, Nat.zero_le _⟩ at_6 (ok_6 (by decide)) rfl rfl rfl (Nat.le_of_ble_eq_true rfl) (fun x11 u14 => ?_)
          show qAW l G m_X8_limitFlows (q_mq G q_cU) 103 [(0, .ref (q_ad G 6 0)), (1, .ref (q_ad G 2 o1)), (2, .int x8)] [.int x11] u14 _
          refine aw_istore_n dX8_limitFlows_103 104 rfl rfl [(3, .int x11), (0, .ref (q_ad G 6 0)), (1, .ref (q_ad G 2 o1)), (2, .int x8)] (by decide) rfl ?_
          refine aw_aload_n (i := 0) dX8_limitFlows_104 105 rfl rfl 1 rfl ?_
          refine gf_X8_1 dX8_limitFlows_105 108 rfl wd_81 (ok_6 (by decide)) ?_
          refine aw_iload_n (i := 3) dX8_limitFlows_108 109 rfl rfl 0 rfl ?_
          refine aw_iald dX8_limitFlows_109 110 rfl at_48 (al_48 _) (ok_48 (by decide)) (fun h12 => ?_)
          refine aw_aload_n (i := 1) dX8_limitFlows_110 111 rfl rfl 2 rfl ?_
          refine gfN_X0_1 dX8_limitFlows_111 114 rfl "SeaCells" (ns_29) (ok_2 q3) ?_
          refine aw_iload_n (i := 3) dX8_limitFlows_114 115 rfl rfl 0 rfl ?_
          refine aw_iald dX8_limitFlows_115 116 rfl at_38 (al_38 _) (ok_38 q3) (fun h13 => ?_)
          refine aw_icmp_le dX8_limitFlows_116 119 rfl 146 rfl (fun h14 => ?_) (fun h14 => ?_)
          · exact aw_conv [1, 2, 3] rfl (hj2 u14)
          · refine aw_aload_n (i := 0) dX8_limitFlows_119 120 rfl rfl 1 rfl ?_
            refine gf_X8_0 dX8_limitFlows_120 123 rfl wd_68 (ok_6 (by decide)) ?_
            refine aw_iload_n (i := 2) dX8_limitFlows_123 124 rfl rfl 3 rfl ?_
            refine aw_aload_n (i := 0) dX8_limitFlows_124 125 rfl rfl 1 rfl ?_
            refine gf_X8_0 dX8_limitFlows_125 128 rfl wd_68 (ok_6 (by decide)) ?_
            refine aw_iload_n (i := 2) dX8_limitFlows_128 129 rfl rfl 3 rfl ?_
            refine aw_iald dX8_limitFlows_129 130 rfl at_47 (al_47 _) (ok_47 (by decide)) (fun h15 => ?_)
            refine aw_aload_n (i := 1) dX8_limitFlows_130 131 rfl rfl 2 rfl ?_
            refine gfN_X0_1 dX8_limitFlows_131 134 rfl "SeaCells" (ns_29) (ok_2 q3) ?_
            refine aw_iload_n (i := 3) dX8_limitFlows_134 135 rfl rfl 0 rfl ?_
            refine aw_iald dX8_limitFlows_135 136 rfl at_38 (al_38 _) (ok_38 q3) (fun h16 => ?_)
            refine aw_aload_n (i := 0) dX8_limitFlows_136 137 rfl rfl 1 rfl ?_
            refine gf_X8_1 dX8_limitFlows_137 140 rfl wd_81 (ok_6 (by decide)) ?_
            refine aw_iload_n (i := 3) dX8_limitFlows_140 141 rfl rfl 0 rfl ?_
            refine aw_iald dX8_limitFlows_141 142 rfl at_48 (al_48 _) (ok_48 (by decide)) (fun h17 => ?_)
            refine aw_callS (M2 := m_X8_share) (cv := q_cI) dX8_limitFlows_142 145 rfl (k_X8_share l G (u14.1 47 0 (Int32.toNatClampNeg x8)) (u14.1 38 o1 (Int32.toNatClampNeg x11)) (u14.1 48 0 (Int32.toNatClampNeg x11))  u14) wd_77 wv_X8_share pk_X8_share rfl ⟨by decide, by decide⟩ ⟨Nat.zero_le _, Nat.zero_le _⟩ rfl (Nat.le_of_ble_eq_true rfl) (fun x12 u15 => ?_)
            show qAW l G m_X8_limitFlows (q_mq G q_cU) 145 [(3, .int x11), (0, .ref (q_ad G 6 0)), (1, .ref (q_ad G 2 o1)), (2, .int x8)] [.int x12, .int x8, .ref (q_ad G 47 0)] u15 _
            refine aw_iast dX8_limitFlows_145 146 rfl at_47 (al_47 _) (ok_47 (by decide)) (fun h18 => ?_)
            refine aw_ltm (fun u16 => ?_)
            exact aw_conv [1, 2, 3] rfl (hj2 u16)
        · refine aw_goto dX8_limitFlows_94 146 rfl ?_
          exact hj2 u12
set_option maxRecDepth 100000 in
set_option maxHeartbeats 4000000 in
theorem k_X8_limitFlows (l : Launch) (G : qG) (o1 : Nat) (ho1 : o1 < 7) (u0 : qM) : qCt l G m_X8_limitFlows q_cU [.ref (q_ad G 6 0), .ref (q_ad G 2 o1)] u0 (f_X8_limitFlows o1 u0) := by
  refine q_entry pk_X8_limitFlows (Nat.le_of_ble_eq_true rfl) ?_
  show qAW l G m_X8_limitFlows (q_mq G q_cU) 0 [(0, .ref (q_ad G 6 0)), (1, .ref (q_ad G 2 o1))] [] u0 (f_X8_limitFlows o1 u0)
  unfold f_X8_limitFlows
  refine aw_iconst (x := 0) dX8_limitFlows_0 1 rfl rfl ?_
  refine aw_istore_n dX8_limitFlows_1 2 rfl rfl [(2, .int 0), (0, .ref (q_ad G 6 0)), (1, .ref (q_ad G 2 o1))] (by decide) rfl ?_
  refine aw_conv [1, 2, 0] rfl (TL_X8_limitFlows_2 l G o1 ho1 _ ?_ _ 0 u0)
  · intro u4
    refine aw_iconst (x := 0) dX8_limitFlows_23 24 rfl rfl ?_
    refine aw_istore_n dX8_limitFlows_24 25 rfl rfl [(2, .int 0), (0, .ref (q_ad G 6 0)), (1, .ref (q_ad G 2 o1))] (by decide) rfl ?_
    refine aw_conv [1, 2, 0] rfl (TL_X8_limitFlows_25 l G o1 ho1 _ ?_ _ 0 u4)
    · intro u10
      refine aw_iconst (x := 0) dX8_limitFlows_73 74 rfl rfl ?_
      refine aw_istore_n dX8_limitFlows_74 75 rfl rfl [(2, .int 0), (0, .ref (q_ad G 6 0)), (1, .ref (q_ad G 2 o1))] (by decide) rfl ?_
      refine aw_conv [1, 2, 0] rfl (TL_X8_limitFlows_75 l G o1 ho1 _ ?_ _ 0 u10)
      · intro u17
        exact aw_vret dX8_limitFlows_152 rfl
theorem dX8_moveWater_0 : decode cX8_moveWater 0 = .ok (.aload_n 1, 1) := by decide +kernel
theorem dX8_moveWater_1 : decode cX8_moveWater 1 = .ok (.getfield 59, 3) := by decide +kernel
theorem dX8_moveWater_4 : decode cX8_moveWater 4 = .ok (.iconst 0, 1) := by decide +kernel
theorem dX8_moveWater_5 : decode cX8_moveWater 5 = .ok (.aload_n 0, 1) := by decide +kernel
theorem dX8_moveWater_6 : decode cX8_moveWater 6 = .ok (.getfield 18, 3) := by decide +kernel
theorem dX8_moveWater_9 : decode cX8_moveWater 9 = .ok (.iconst 0, 1) := by decide +kernel
theorem dX8_moveWater_10 : decode cX8_moveWater 10 = .ok (.aload_n 1, 1) := by decide +kernel
theorem dX8_moveWater_11 : decode cX8_moveWater 11 = .ok (.invokevirtual 49, 3) := by decide +kernel
theorem dX8_moveWater_14 : decode cX8_moveWater 14 = .ok (.invokestatic 53, 3) := by decide +kernel
theorem dX8_moveWater_17 : decode cX8_moveWater 17 = .ok (.iconst 0, 1) := by decide +kernel
theorem dX8_moveWater_18 : decode cX8_moveWater 18 = .ok (.istore_n 2, 1) := by decide +kernel
theorem dX8_moveWater_19 : decode cX8_moveWater 19 = .ok (.iload_n 2, 1) := by decide +kernel
theorem dX8_moveWater_20 : decode cX8_moveWater 20 = .ok (.iconst 2, 1) := by decide +kernel
theorem dX8_moveWater_21 : decode cX8_moveWater 21 = .ok (.aload_n 1, 1) := by decide +kernel
theorem dX8_moveWater_22 : decode cX8_moveWater 22 = .ok (.invokevirtual 49, 3) := by decide +kernel
theorem dX8_moveWater_25 : decode cX8_moveWater 25 = .ok (.imul, 1) := by decide +kernel
theorem dX8_moveWater_26 : decode cX8_moveWater 26 = .ok (.if_icmp .ge 57, 3) := by decide +kernel
theorem dX8_moveWater_29 : decode cX8_moveWater 29 = .ok (.aload_n 0, 1) := by decide +kernel
theorem dX8_moveWater_30 : decode cX8_moveWater 30 = .ok (.getfield 9, 3) := by decide +kernel
theorem dX8_moveWater_33 : decode cX8_moveWater 33 = .ok (.iload_n 2, 1) := by decide +kernel
theorem dX8_moveWater_34 : decode cX8_moveWater 34 = .ok (.iaload, 1) := by decide +kernel
theorem dX8_moveWater_35 : decode cX8_moveWater 35 = .ok (.ifCond .ne 6, 3) := by decide +kernel
theorem dX8_moveWater_38 : decode cX8_moveWater 38 = .ok (.goto 39, 3) := by decide +kernel
theorem dX8_moveWater_41 : decode cX8_moveWater 41 = .ok (.aload_n 0, 1) := by decide +kernel
theorem dX8_moveWater_42 : decode cX8_moveWater 42 = .ok (.getfield 18, 3) := by decide +kernel
theorem dX8_moveWater_45 : decode cX8_moveWater 45 = .ok (.iload_n 2, 1) := by decide +kernel
theorem dX8_moveWater_46 : decode cX8_moveWater 46 = .ok (.iconst 2, 1) := by decide +kernel
theorem dX8_moveWater_47 : decode cX8_moveWater 47 = .ok (.idiv, 1) := by decide +kernel
theorem dX8_moveWater_48 : decode cX8_moveWater 48 = .ok (.dup2, 1) := by decide +kernel
theorem dX8_moveWater_49 : decode cX8_moveWater 49 = .ok (.iaload, 1) := by decide +kernel
theorem dX8_moveWater_50 : decode cX8_moveWater 50 = .ok (.aload_n 0, 1) := by decide +kernel
theorem dX8_moveWater_51 : decode cX8_moveWater 51 = .ok (.getfield 9, 3) := by decide +kernel
theorem dX8_moveWater_54 : decode cX8_moveWater 54 = .ok (.iload_n 2, 1) := by decide +kernel
theorem dX8_moveWater_55 : decode cX8_moveWater 55 = .ok (.iaload, 1) := by decide +kernel
theorem dX8_moveWater_56 : decode cX8_moveWater 56 = .ok (.isub, 1) := by decide +kernel
theorem dX8_moveWater_57 : decode cX8_moveWater 57 = .ok (.iastore, 1) := by decide +kernel
theorem dX8_moveWater_58 : decode cX8_moveWater 58 = .ok (.aload_n 0, 1) := by decide +kernel
theorem dX8_moveWater_59 : decode cX8_moveWater 59 = .ok (.getfield 18, 3) := by decide +kernel
theorem dX8_moveWater_62 : decode cX8_moveWater 62 = .ok (.aload_n 1, 1) := by decide +kernel
theorem dX8_moveWater_63 : decode cX8_moveWater 63 = .ok (.iload_n 2, 1) := by decide +kernel
theorem dX8_moveWater_64 : decode cX8_moveWater 64 = .ok (.invokevirtual 90, 3) := by decide +kernel
theorem dX8_moveWater_67 : decode cX8_moveWater 67 = .ok (.dup2, 1) := by decide +kernel
theorem dX8_moveWater_68 : decode cX8_moveWater 68 = .ok (.iaload, 1) := by decide +kernel
theorem dX8_moveWater_69 : decode cX8_moveWater 69 = .ok (.aload_n 0, 1) := by decide +kernel
theorem dX8_moveWater_70 : decode cX8_moveWater 70 = .ok (.getfield 9, 3) := by decide +kernel
theorem dX8_moveWater_73 : decode cX8_moveWater 73 = .ok (.iload_n 2, 1) := by decide +kernel
theorem dX8_moveWater_74 : decode cX8_moveWater 74 = .ok (.iaload, 1) := by decide +kernel
theorem dX8_moveWater_75 : decode cX8_moveWater 75 = .ok (.iadd, 1) := by decide +kernel
theorem dX8_moveWater_76 : decode cX8_moveWater 76 = .ok (.iastore, 1) := by decide +kernel
theorem dX8_moveWater_77 : decode cX8_moveWater 77 = .ok (.iinc 2 1, 3) := by decide +kernel
theorem dX8_moveWater_80 : decode cX8_moveWater 80 = .ok (.goto (-61), 3) := by decide +kernel
theorem dX8_moveWater_83 : decode cX8_moveWater 83 = .ok (.return_, 1) := by decide +kernel
noncomputable def L_X8_moveWater_19 (o1 : Nat) : Nat → Int32 → qM → (qM → Option (Unit × qM)) → Option (Unit × qM)
  | 0, _, _, _ => none
  | n + 1, x2, u3, e1 => q_bd (f_X0_cells o1 u3) (fun (x3 : Int32) (u4 : qM) => if (2 * x3) ≤ x2 then e1 u4 else q_ck (q_in x2 96) (q_jn (fun  (u5 : qM) => q_lt (x2 + 1) (fun (x4 : Int32) => L_X8_moveWater_19 o1 n x4 u5 e1)) (fun j1 => if (u4.1 47 0 (Int32.toNatClampNeg x2)) = 0 then j1 u4 else q_lt (x2 / 2) (fun (x5 : Int32) => q_ck (q_in x5 48) (q_ck (q_in x2 96) (q_ck (q_in x5 48) (q_lt (q_si u4 49 0 (Int32.toNatClampNeg x5) ((u4.1 49 0 (Int32.toNatClampNeg x5)) - (u4.1 47 0 (Int32.toNatClampNeg x2)))) (fun (u6 : qM) => q_bd (f_X0_farCell o1 x2 u6) (fun (x6 : Int32) (u7 : qM) => q_ck (q_in x6 48) (q_ck (q_in x2 96) (q_ck (q_in x6 48) (q_lt (q_si u7 49 0 (Int32.toNatClampNeg x6) ((u7.1 49 0 (Int32.toNatClampNeg x6)) + (u7.1 47 0 (Int32.toNatClampNeg x2)))) (fun (u8 : qM) => j1 u8)))))))))))))
noncomputable def f_X8_moveWater (o1 : Nat) (u0 : qM) : Option (Unit × qM) :=
  q_bd (f_X0_cells o1 u0) (fun (x1 : Int32) (u1 : qM) => q_ck (q_cr 0 0 x1 48 48) (q_lt (q_sc u1 38 o1 49 0 (Int32.toNatClampNeg 0) (Int32.toNatClampNeg 0) (Int32.toNatClampNeg x1)) (fun (u2 : qM) => L_X8_moveWater_19 o1 q_fu 0 u2 (fun u9 => some ((), u9)))))
set_option maxRecDepth 100000 in
set_option maxHeartbeats 4000000 in
theorem TL_X8_moveWater_19 (l : Launch) (G : qG) (o1 : Nat) (q1 : o1 < 7) (e1 : qM → Option (Unit × qM)) (he1 : ∀  (v : qM), qAW l G m_X8_moveWater (q_mq G q_cU) 83 [] [] v (e1 v)) : ∀ (n : Nat) (x2 : Int32) (u3 : qM), qAW l G m_X8_moveWater (q_mq G q_cU) 19 [(0, .ref (q_ad G 6 0)), (1, .ref (q_ad G 2 o1)), (2, .int x2)] [] u3 (L_X8_moveWater_19 o1 n x2 u3 e1) := by
  intro n
  induction n with
  | zero => intros; exact aw_none
  | succ n ih =>
    intro x2 u3
    unfold L_X8_moveWater_19
    refine aw_iload_n (i := 2) dX8_moveWater_19 20 rfl rfl 2 rfl ?_
    refine aw_iconst (x := 2) dX8_moveWater_20 21 rfl rfl ?_
    refine aw_aload_n (i := 1) dX8_moveWater_21 22 rfl rfl 1 rfl ?_
    refine aw_callV (M2 := m_X0_cells) (cv := q_cI) dX8_moveWater_22 25 rfl (k_X0_cells l G o1 q1 u3) wd_71 wv_X0_cells pk_X0_cells rfl rfl ⟨by decide, by decide⟩ ⟨Nat.zero_le _, Nat.zero_le _⟩ at_2 (ok_2 q1) rfl rfl rfl (Nat.le_of_ble_eq_true rfl) (fun x3 u4 => ?_)
    show qAW l G m_X8_moveWater (q_mq G q_cU) 25 [(0, .ref (q_ad G 6 0)), (1, .ref (q_ad G 2 o1)), (2, .int x2)] [.int x3, .int 2, .int x2] u4 _
    refine aw_imul dX8_moveWater_25 26 rfl ?_
    refine aw_icmp_ge dX8_moveWater_26 29 rfl 83 rfl (fun h2 => ?_) (fun h2 => ?_)
    · exact aw_conv [] rfl (he1 u4)
    · refine aw_aload_n (i := 0) dX8_moveWater_29 30 rfl rfl 0 rfl ?_
      refine gf_X8_0 dX8_moveWater_30 33 rfl wd_68 (ok_6 (by decide)) ?_
      refine aw_iload_n (i := 2) dX8_moveWater_33 34 rfl rfl 2 rfl ?_
      refine aw_iald dX8_moveWater_34 35 rfl at_47 (al_47 _) (ok_47 (by decide)) (fun h3 => ?_)
      refine aw_jn (fun k => ∀  (u5 : qM), qAW l G m_X8_moveWater (q_mq G q_cU) 77 [(0, .ref (q_ad G 6 0)), (1, .ref (q_ad G 2 o1)), (2, .int x2)] [] u5 (k u5)) ?_ ?_
      · intro u5
        refine aw_iincx (i := 2) dX8_moveWater_77 80 rfl 2 rfl 1 rfl (fun x4 => [(2, .int x4), (0, .ref (q_ad G 6 0)), (1, .ref (q_ad G 2 o1))]) (by decide) (fun _ => rfl) (fun x4 => ?_)
        refine aw_goto dX8_moveWater_80 19 rfl ?_
        exact aw_conv [1, 2, 0] rfl (ih x4 u5)
      · intro j1 hj1
        refine aw_if_ne dX8_moveWater_35 38 rfl 41 rfl (fun h4 => ?_) (fun h4 => ?_)
        · refine aw_aload_n (i := 0) dX8_moveWater_41 42 rfl rfl 0 rfl ?_
          refine gf_X8_2 dX8_moveWater_42 45 rfl wd_67 (ok_6 (by decide)) ?_
          refine aw_iload_n (i := 2) dX8_moveWater_45 46 rfl rfl 2 rfl ?_
          refine aw_iconst (x := 2) dX8_moveWater_46 47 rfl rfl ?_
          refine aw_idiv dX8_moveWater_47 48 rfl (by decide) ?_
          refine aw_lti (fun x5 => ?_)
          refine aw_dup2 dX8_moveWater_48 49 rfl rfl rfl ?_
          refine aw_iald dX8_moveWater_49 50 rfl at_49 (al_49 _) (ok_49 (by decide)) (fun h5 => ?_)
          refine aw_aload_n (i := 0) dX8_moveWater_50 51 rfl rfl 0 rfl ?_
          refine gf_X8_0 dX8_moveWater_51 54 rfl wd_68 (ok_6 (by decide)) ?_
          refine aw_iload_n (i := 2) dX8_moveWater_54 55 rfl rfl 2 rfl ?_
          refine aw_iald dX8_moveWater_55 56 rfl at_47 (al_47 _) (ok_47 (by decide)) (fun h6 => ?_)
          refine aw_isub dX8_moveWater_56 57 rfl ?_
          refine aw_iast dX8_moveWater_57 58 rfl at_49 (al_49 _) (ok_49 (by decide)) (fun h7 => ?_)
          refine aw_ltm (fun u6 => ?_)
          refine aw_aload_n (i := 0) dX8_moveWater_58 59 rfl rfl 0 rfl ?_
          refine gf_X8_2 dX8_moveWater_59 62 rfl wd_67 (ok_6 (by decide)) ?_
          refine aw_aload_n (i := 1) dX8_moveWater_62 63 rfl rfl 1 rfl ?_
          refine aw_iload_n (i := 2) dX8_moveWater_63 64 rfl rfl 2 rfl ?_
          refine aw_callV (M2 := m_X0_farCell) (cv := q_cI) dX8_moveWater_64 67 rfl (k_X0_farCell l G o1 x2 q1 u6) wd_69 wv_X0_farCell pk_X0_farCell rfl rfl ⟨by decide, by decide⟩ ⟨Nat.zero_le _, Nat.zero_le _⟩ at_2 (ok_2 q1) rfl rfl rfl (Nat.le_of_ble_eq_true rfl) (fun x6 u7 => ?_)
          show qAW l G m_X8_moveWater (q_mq G q_cU) 67 [(0, .ref (q_ad G 6 0)), (1, .ref (q_ad G 2 o1)), (2, .int x2)] [.int x6, .ref (q_ad G 49 0)] u7 _
          refine aw_dup2 dX8_moveWater_67 68 rfl rfl rfl ?_
          refine aw_iald dX8_moveWater_68 69 rfl at_49 (al_49 _) (ok_49 (by decide)) (fun h8 => ?_)
          refine aw_aload_n (i := 0) dX8_moveWater_69 70 rfl rfl 0 rfl ?_
          refine gf_X8_0 dX8_moveWater_70 73 rfl wd_68 (ok_6 (by decide)) ?_
          refine aw_iload_n (i := 2) dX8_moveWater_73 74 rfl rfl 2 rfl ?_
          refine aw_iald dX8_moveWater_74 75 rfl at_47 (al_47 _) (ok_47 (by decide)) (fun h9 => ?_)
          refine aw_iadd dX8_moveWater_75 76 rfl ?_
          refine aw_iast dX8_moveWater_76 77 rfl at_49 (al_49 _) (ok_49 (by decide)) (fun h10 => ?_)
          refine aw_ltm (fun u8 => ?_)
          exact hj1 u8
        · refine aw_goto dX8_moveWater_38 77 rfl ?_
          exact hj1 u4
set_option maxRecDepth 100000 in
set_option maxHeartbeats 4000000 in
theorem k_X8_moveWater (l : Launch) (G : qG) (o1 : Nat) (ho1 : o1 < 7) (u0 : qM) : qCt l G m_X8_moveWater q_cU [.ref (q_ad G 6 0), .ref (q_ad G 2 o1)] u0 (f_X8_moveWater o1 u0) := by
  refine q_entry pk_X8_moveWater (Nat.le_of_ble_eq_true rfl) ?_
  show qAW l G m_X8_moveWater (q_mq G q_cU) 0 [(0, .ref (q_ad G 6 0)), (1, .ref (q_ad G 2 o1))] [] u0 (f_X8_moveWater o1 u0)
  unfold f_X8_moveWater
  refine aw_aload_n (i := 1) dX8_moveWater_0 1 rfl rfl 1 rfl ?_
  refine gfN_X0_1 dX8_moveWater_1 4 rfl "SeaCells" (ns_29) (ok_2 ho1) ?_
  refine aw_iconst (x := 0) dX8_moveWater_4 5 rfl rfl ?_
  refine aw_aload_n (i := 0) dX8_moveWater_5 6 rfl rfl 0 rfl ?_
  refine gf_X8_2 dX8_moveWater_6 9 rfl wd_67 (ok_6 (by decide)) ?_
  refine aw_iconst (x := 0) dX8_moveWater_9 10 rfl rfl ?_
  refine aw_aload_n (i := 1) dX8_moveWater_10 11 rfl rfl 1 rfl ?_
  refine aw_callV (M2 := m_X0_cells) (cv := q_cI) dX8_moveWater_11 14 rfl (k_X0_cells l G o1 ho1 u0) wd_71 wv_X0_cells pk_X0_cells rfl rfl ⟨by decide, by decide⟩ ⟨Nat.zero_le _, Nat.zero_le _⟩ at_2 (ok_2 ho1) rfl rfl rfl (Nat.le_of_ble_eq_true rfl) (fun x1 u1 => ?_)
  show qAW l G m_X8_moveWater (q_mq G q_cU) 14 [(0, .ref (q_ad G 6 0)), (1, .ref (q_ad G 2 o1))] [.int x1, .int 0, .ref (q_ad G 49 0), .int 0, .ref (q_ad G 38 o1)] u1 _
  refine aw_copy dX8_moveWater_14 17 rfl wd_72 wd_29 wd_30 wd_31 at_38 (al_38 _) (ok_38 ho1) at_49 (al_49 _) (ok_49 (by decide)) (Nat.le_of_ble_eq_true rfl) (Nat.le_of_ble_eq_true rfl) (fun h1 => ?_)
  refine aw_ltm (fun u2 => ?_)
  refine aw_iconst (x := 0) dX8_moveWater_17 18 rfl rfl ?_
  refine aw_istore_n dX8_moveWater_18 19 rfl rfl [(2, .int 0), (0, .ref (q_ad G 6 0)), (1, .ref (q_ad G 2 o1))] (by decide) rfl ?_
  refine aw_conv [1, 2, 0] rfl (TL_X8_moveWater_19 l G o1 ho1 _ ?_ _ 0 u2)
  · intro u9
    exact aw_vret dX8_moveWater_83 rfl
theorem dX8_pushed_0 : decode cX8_pushed 0 = .ok (.iload_n 2, 1) := by decide +kernel
theorem dX8_pushed_1 : decode cX8_pushed 1 = .ok (.iconst 2, 1) := by decide +kernel
theorem dX8_pushed_2 : decode cX8_pushed 2 = .ok (.idiv, 1) := by decide +kernel
theorem dX8_pushed_3 : decode cX8_pushed 3 = .ok (.istore_n 3, 1) := by decide +kernel
theorem dX8_pushed_4 : decode cX8_pushed 4 = .ok (.aload_n 1, 1) := by decide +kernel
theorem dX8_pushed_5 : decode cX8_pushed 5 = .ok (.iload_n 2, 1) := by decide +kernel
theorem dX8_pushed_6 : decode cX8_pushed 6 = .ok (.invokevirtual 90, 3) := by decide +kernel
theorem dX8_pushed_9 : decode cX8_pushed 9 = .ok (.istore 4, 2) := by decide +kernel
theorem dX8_pushed_11 : decode cX8_pushed 11 = .ok (.aload_n 1, 1) := by decide +kernel
theorem dX8_pushed_12 : decode cX8_pushed 12 = .ok (.iload_n 3, 1) := by decide +kernel
theorem dX8_pushed_13 : decode cX8_pushed 13 = .ok (.invokevirtual 94, 3) := by decide +kernel
theorem dX8_pushed_16 : decode cX8_pushed 16 = .ok (.istore 5, 2) := by decide +kernel
theorem dX8_pushed_18 : decode cX8_pushed 18 = .ok (.aload_n 1, 1) := by decide +kernel
theorem dX8_pushed_19 : decode cX8_pushed 19 = .ok (.iload 4, 2) := by decide +kernel
theorem dX8_pushed_21 : decode cX8_pushed 21 = .ok (.invokevirtual 94, 3) := by decide +kernel
theorem dX8_pushed_24 : decode cX8_pushed 24 = .ok (.istore 6, 2) := by decide +kernel
theorem dX8_pushed_26 : decode cX8_pushed 26 = .ok (.aload_n 1, 1) := by decide +kernel
theorem dX8_pushed_27 : decode cX8_pushed 27 = .ok (.getfield 46, 3) := by decide +kernel
theorem dX8_pushed_30 : decode cX8_pushed 30 = .ok (.iload_n 2, 1) := by decide +kernel
theorem dX8_pushed_31 : decode cX8_pushed 31 = .ok (.iaload, 1) := by decide +kernel
theorem dX8_pushed_32 : decode cX8_pushed 32 = .ok (.aload_n 1, 1) := by decide +kernel
theorem dX8_pushed_33 : decode cX8_pushed 33 = .ok (.getfield 97, 3) := by decide +kernel
theorem dX8_pushed_36 : decode cX8_pushed 36 = .ok (.getfield 101, 3) := by decide +kernel
theorem dX8_pushed_39 : decode cX8_pushed 39 = .ok (.iload 5, 2) := by decide +kernel
theorem dX8_pushed_41 : decode cX8_pushed 41 = .ok (.iload 6, 2) := by decide +kernel
theorem dX8_pushed_43 : decode cX8_pushed 43 = .ok (.isub, 1) := by decide +kernel
theorem dX8_pushed_44 : decode cX8_pushed 44 = .ok (.imul, 1) := by decide +kernel
theorem dX8_pushed_45 : decode cX8_pushed 45 = .ok (.bipush 8, 2) := by decide +kernel
theorem dX8_pushed_47 : decode cX8_pushed 47 = .ok (.idiv, 1) := by decide +kernel
theorem dX8_pushed_48 : decode cX8_pushed 48 = .ok (.iadd, 1) := by decide +kernel
theorem dX8_pushed_49 : decode cX8_pushed 49 = .ok (.aload_n 1, 1) := by decide +kernel
theorem dX8_pushed_50 : decode cX8_pushed 50 = .ok (.iload_n 2, 1) := by decide +kernel
theorem dX8_pushed_51 : decode cX8_pushed 51 = .ok (.invokevirtual 106, 3) := by decide +kernel
theorem dX8_pushed_54 : decode cX8_pushed 54 = .ok (.iadd, 1) := by decide +kernel
theorem dX8_pushed_55 : decode cX8_pushed 55 = .ok (.istore 7, 2) := by decide +kernel
theorem dX8_pushed_57 : decode cX8_pushed 57 = .ok (.aload_n 1, 1) := by decide +kernel
theorem dX8_pushed_58 : decode cX8_pushed 58 = .ok (.getfield 97, 3) := by decide +kernel
theorem dX8_pushed_61 : decode cX8_pushed 61 = .ok (.getfield 109, 3) := by decide +kernel
theorem dX8_pushed_64 : decode cX8_pushed 64 = .ok (.ifCond .le 18, 3) := by decide +kernel
theorem dX8_pushed_67 : decode cX8_pushed 67 = .ok (.iload 7, 2) := by decide +kernel
theorem dX8_pushed_69 : decode cX8_pushed 69 = .ok (.iload 7, 2) := by decide +kernel
theorem dX8_pushed_71 : decode cX8_pushed 71 = .ok (.aload_n 1, 1) := by decide +kernel
theorem dX8_pushed_72 : decode cX8_pushed 72 = .ok (.getfield 97, 3) := by decide +kernel
theorem dX8_pushed_75 : decode cX8_pushed 75 = .ok (.getfield 109, 3) := by decide +kernel
theorem dX8_pushed_78 : decode cX8_pushed 78 = .ok (.idiv, 1) := by decide +kernel
theorem dX8_pushed_79 : decode cX8_pushed 79 = .ok (.isub, 1) := by decide +kernel
theorem dX8_pushed_80 : decode cX8_pushed 80 = .ok (.istore 7, 2) := by decide +kernel
theorem dX8_pushed_82 : decode cX8_pushed 82 = .ok (.iload 7, 2) := by decide +kernel
theorem dX8_pushed_84 : decode cX8_pushed 84 = .ok (.ifCond .le 26, 3) := by decide +kernel
theorem dX8_pushed_87 : decode cX8_pushed 87 = .ok (.aload_n 1, 1) := by decide +kernel
theorem dX8_pushed_88 : decode cX8_pushed 88 = .ok (.getfield 59, 3) := by decide +kernel
theorem dX8_pushed_91 : decode cX8_pushed 91 = .ok (.iload_n 3, 1) := by decide +kernel
theorem dX8_pushed_92 : decode cX8_pushed 92 = .ok (.iaload, 1) := by decide +kernel
theorem dX8_pushed_93 : decode cX8_pushed 93 = .ok (.ifCond .eq 15, 3) := by decide +kernel
theorem dX8_pushed_96 : decode cX8_pushed 96 = .ok (.aload_n 1, 1) := by decide +kernel
theorem dX8_pushed_97 : decode cX8_pushed 97 = .ok (.getfield 112, 3) := by decide +kernel
theorem dX8_pushed_100 : decode cX8_pushed 100 = .ok (.iload 4, 2) := by decide +kernel
theorem dX8_pushed_102 : decode cX8_pushed 102 = .ok (.iaload, 1) := by decide +kernel
theorem dX8_pushed_103 : decode cX8_pushed 103 = .ok (.iload 5, 2) := by decide +kernel
theorem dX8_pushed_105 : decode cX8_pushed 105 = .ok (.if_icmp .lt 5, 3) := by decide +kernel
theorem dX8_pushed_108 : decode cX8_pushed 108 = .ok (.iconst 0, 1) := by decide +kernel
theorem dX8_pushed_109 : decode cX8_pushed 109 = .ok (.ireturn, 1) := by decide +kernel
theorem dX8_pushed_110 : decode cX8_pushed 110 = .ok (.iload 7, 2) := by decide +kernel
theorem dX8_pushed_112 : decode cX8_pushed 112 = .ok (.ifCond .ge 26, 3) := by decide +kernel
theorem dX8_pushed_115 : decode cX8_pushed 115 = .ok (.aload_n 1, 1) := by decide +kernel
theorem dX8_pushed_116 : decode cX8_pushed 116 = .ok (.getfield 59, 3) := by decide +kernel
theorem dX8_pushed_119 : decode cX8_pushed 119 = .ok (.iload 4, 2) := by decide +kernel
theorem dX8_pushed_121 : decode cX8_pushed 121 = .ok (.iaload, 1) := by decide +kernel
theorem dX8_pushed_122 : decode cX8_pushed 122 = .ok (.ifCond .eq 14, 3) := by decide +kernel
theorem dX8_pushed_125 : decode cX8_pushed 125 = .ok (.aload_n 1, 1) := by decide +kernel
theorem dX8_pushed_126 : decode cX8_pushed 126 = .ok (.getfield 112, 3) := by decide +kernel
theorem dX8_pushed_129 : decode cX8_pushed 129 = .ok (.iload_n 3, 1) := by decide +kernel
theorem dX8_pushed_130 : decode cX8_pushed 130 = .ok (.iaload, 1) := by decide +kernel
theorem dX8_pushed_131 : decode cX8_pushed 131 = .ok (.iload 6, 2) := by decide +kernel
theorem dX8_pushed_133 : decode cX8_pushed 133 = .ok (.if_icmp .lt 5, 3) := by decide +kernel
theorem dX8_pushed_136 : decode cX8_pushed 136 = .ok (.iconst 0, 1) := by decide +kernel
theorem dX8_pushed_137 : decode cX8_pushed 137 = .ok (.ireturn, 1) := by decide +kernel
theorem dX8_pushed_138 : decode cX8_pushed 138 = .ok (.iload 7, 2) := by decide +kernel
theorem dX8_pushed_140 : decode cX8_pushed 140 = .ok (.ireturn, 1) := by decide +kernel
noncomputable def f_X8_pushed (o1 : Nat) (x1 : Int32) (u0 : qM) : Option (Int32 × qM) :=
  q_lt (x1 / 2) (fun (x2 : Int32) => q_bd (f_X0_farCell o1 x1 u0) (fun (x3 : Int32) (u1 : qM) => q_bd (f_X0_level o1 x2 u1) (fun (x4 : Int32) (u2 : qM) => q_bd (f_X0_level o1 x3 u2) (fun (x5 : Int32) (u3 : qM) => q_ck (q_in x1 96) (q_bd (f_X0_windAt o1 x1 u3) (fun (x6 : Int32) (u4 : qM) => q_lt (((u3.1 40 o1 (Int32.toNatClampNeg x1)) + (((u3.1 3 o1 0) * (x4 - x5)) / 8)) + x6) (fun (x7 : Int32) => q_jn (fun (x8 : Int32) (u5 : qM) => q_jn (fun  (u6 : qM) => q_jn (fun  (u7 : qM) => some (x8, u7)) (fun j3 => if (0 : Int32) ≤ x8 then j3 u6 else q_ck (q_in x3 48) (q_jn (fun  (u8 : qM) => some (0, u8)) (fun j4 => if (u6.1 38 o1 (Int32.toNatClampNeg x3)) = 0 then j4 u6 else q_ck (q_in x2 48) (if (u6.1 37 o1 (Int32.toNatClampNeg x2)) < x5 then j3 u6 else j4 u6))))) (fun j2 => if x8 ≤ 0 then j2 u5 else q_ck (q_in x2 48) (q_jn (fun  (u9 : qM) => some (0, u9)) (fun j5 => if (u5.1 38 o1 (Int32.toNatClampNeg x2)) = 0 then j5 u5 else q_ck (q_in x3 48) (if (u5.1 37 o1 (Int32.toNatClampNeg x3)) < x4 then j2 u5 else j5 u5))))) (fun j1 => if (u4.1 3 o1 1) ≤ 0 then j1 x7 u4 else q_ck (q_nz (u4.1 3 o1 1)) (q_lt (x7 - (x7 / (u4.1 3 o1 1))) (fun (x9 : Int32) => j1 x9 u4))))))))))
set_option maxRecDepth 100000 in
set_option maxHeartbeats 4000000 in
theorem k_X8_pushed (l : Launch) (G : qG) (o1 : Nat) (x1 : Int32) (ho1 : o1 < 7) (u0 : qM) : qCt l G m_X8_pushed q_cI [.ref (q_ad G 6 0), .ref (q_ad G 2 o1), .int x1] u0 (f_X8_pushed o1 x1 u0) := by
  refine q_entry pk_X8_pushed (Nat.le_of_ble_eq_true rfl) ?_
  show qAW l G m_X8_pushed (q_mq G q_cI) 0 [(0, .ref (q_ad G 6 0)), (1, .ref (q_ad G 2 o1)), (2, .int x1)] [] u0 (f_X8_pushed o1 x1 u0)
  unfold f_X8_pushed
  refine aw_iload_n (i := 2) dX8_pushed_0 1 rfl rfl 2 rfl ?_
  refine aw_iconst (x := 2) dX8_pushed_1 2 rfl rfl ?_
  refine aw_idiv dX8_pushed_2 3 rfl (by decide) ?_
  refine aw_lti (fun x2 => ?_)
  refine aw_istore_n dX8_pushed_3 4 rfl rfl [(3, .int x2), (0, .ref (q_ad G 6 0)), (1, .ref (q_ad G 2 o1)), (2, .int x1)] (by decide) rfl ?_
  refine aw_aload_n (i := 1) dX8_pushed_4 5 rfl rfl 2 rfl ?_
  refine aw_iload_n (i := 2) dX8_pushed_5 6 rfl rfl 3 rfl ?_
  refine aw_callV (M2 := m_X0_farCell) (cv := q_cI) dX8_pushed_6 9 rfl (k_X0_farCell l G o1 x1 ho1 u0) wd_69 wv_X0_farCell pk_X0_farCell rfl rfl ⟨by decide, by decide⟩ ⟨Nat.zero_le _, Nat.zero_le _⟩ at_2 (ok_2 ho1) rfl rfl rfl (Nat.le_of_ble_eq_true rfl) (fun x3 u1 => ?_)
  show qAW l G m_X8_pushed (q_mq G q_cI) 9 [(3, .int x2), (0, .ref (q_ad G 6 0)), (1, .ref (q_ad G 2 o1)), (2, .int x1)] [.int x3] u1 _
  refine aw_istore dX8_pushed_9 11 rfl [(4, .int x3), (3, .int x2), (0, .ref (q_ad G 6 0)), (1, .ref (q_ad G 2 o1)), (2, .int x1)] (by decide) rfl ?_
  refine aw_aload_n (i := 1) dX8_pushed_11 12 rfl rfl 3 rfl ?_
  refine aw_iload_n (i := 3) dX8_pushed_12 13 rfl rfl 1 rfl ?_
  refine aw_callV (M2 := m_X0_level) (cv := q_cI) dX8_pushed_13 16 rfl (k_X0_level l G o1 x2 ho1 u1) wd_82 wv_X0_level pk_X0_level rfl rfl ⟨by decide, by decide⟩ ⟨Nat.zero_le _, Nat.zero_le _⟩ at_2 (ok_2 ho1) rfl rfl rfl (Nat.le_of_ble_eq_true rfl) (fun x4 u2 => ?_)
  show qAW l G m_X8_pushed (q_mq G q_cI) 16 [(4, .int x3), (3, .int x2), (0, .ref (q_ad G 6 0)), (1, .ref (q_ad G 2 o1)), (2, .int x1)] [.int x4] u2 _
  refine aw_istore dX8_pushed_16 18 rfl [(5, .int x4), (4, .int x3), (3, .int x2), (0, .ref (q_ad G 6 0)), (1, .ref (q_ad G 2 o1)), (2, .int x1)] (by decide) rfl ?_
  refine aw_aload_n (i := 1) dX8_pushed_18 19 rfl rfl 4 rfl ?_
  refine aw_iload (i := 4) dX8_pushed_19 21 rfl 1 rfl ?_
  refine aw_callV (M2 := m_X0_level) (cv := q_cI) dX8_pushed_21 24 rfl (k_X0_level l G o1 x3 ho1 u2) wd_82 wv_X0_level pk_X0_level rfl rfl ⟨by decide, by decide⟩ ⟨Nat.zero_le _, Nat.zero_le _⟩ at_2 (ok_2 ho1) rfl rfl rfl (Nat.le_of_ble_eq_true rfl) (fun x5 u3 => ?_)
  show qAW l G m_X8_pushed (q_mq G q_cI) 24 [(5, .int x4), (4, .int x3), (3, .int x2), (0, .ref (q_ad G 6 0)), (1, .ref (q_ad G 2 o1)), (2, .int x1)] [.int x5] u3 _
  refine aw_istore dX8_pushed_24 26 rfl [(6, .int x5), (5, .int x4), (4, .int x3), (3, .int x2), (0, .ref (q_ad G 6 0)), (1, .ref (q_ad G 2 o1)), (2, .int x1)] (by decide) rfl ?_
  refine aw_aload_n (i := 1) dX8_pushed_26 27 rfl rfl 5 rfl ?_
  refine gfN_X0_3 dX8_pushed_27 30 rfl "SeaCells" (ns_34) (ok_2 ho1) ?_
  refine aw_iload_n (i := 2) dX8_pushed_30 31 rfl rfl 6 rfl ?_
  refine aw_iald dX8_pushed_31 32 rfl at_40 (al_40 _) (ok_40 ho1) (fun h1 => ?_)
  refine aw_aload_n (i := 1) dX8_pushed_32 33 rfl rfl 5 rfl ?_
  refine gfN_X0_5 dX8_pushed_33 36 rfl "SeaCells" (ns_38) (ok_2 ho1) ?_
  refine gfN_X3_0 dX8_pushed_36 39 rfl "SeaCells" (ns_3) (ok_3 ho1) ?_
  refine aw_iload (i := 5) dX8_pushed_39 41 rfl 1 rfl ?_
  refine aw_iload (i := 6) dX8_pushed_41 43 rfl 0 rfl ?_
  refine aw_isub dX8_pushed_43 44 rfl ?_
  refine aw_imul dX8_pushed_44 45 rfl ?_
  refine aw_bipush (x := 8) dX8_pushed_45 47 rfl rfl ?_
  refine aw_idiv dX8_pushed_47 48 rfl (by decide) ?_
  refine aw_iadd dX8_pushed_48 49 rfl ?_
  refine aw_aload_n (i := 1) dX8_pushed_49 50 rfl rfl 5 rfl ?_
  refine aw_iload_n (i := 2) dX8_pushed_50 51 rfl rfl 6 rfl ?_
  refine aw_callV (M2 := m_X0_windAt) (cv := q_cI) dX8_pushed_51 54 rfl (k_X0_windAt l G o1 x1 ho1 u3) wd_83 wv_X0_windAt pk_X0_windAt rfl rfl ⟨by decide, by decide⟩ ⟨Nat.zero_le _, Nat.zero_le _⟩ at_2 (ok_2 ho1) rfl rfl rfl (Nat.le_of_ble_eq_true rfl) (fun x6 u4 => ?_)
  show qAW l G m_X8_pushed (q_mq G q_cI) 54 [(6, .int x5), (5, .int x4), (4, .int x3), (3, .int x2), (0, .ref (q_ad G 6 0)), (1, .ref (q_ad G 2 o1)), (2, .int x1)] [.int x6, .int ((u3.1 40 o1 (Int32.toNatClampNeg x1)) + (((u3.1 3 o1 0) * (x4 - x5)) / 8))] u4 _
  refine aw_iadd dX8_pushed_54 55 rfl ?_
  refine aw_lti (fun x7 => ?_)
  refine aw_istore dX8_pushed_55 57 rfl [(7, .int x7), (6, .int x5), (5, .int x4), (4, .int x3), (3, .int x2), (0, .ref (q_ad G 6 0)), (1, .ref (q_ad G 2 o1)), (2, .int x1)] (by decide) rfl ?_
  refine aw_aload_n (i := 1) dX8_pushed_57 58 rfl rfl 6 rfl ?_
  refine gfN_X0_5 dX8_pushed_58 61 rfl "SeaCells" (ns_38) (ok_2 ho1) ?_
  refine gfN_X3_1 dX8_pushed_61 64 rfl "SeaCells" (ns_5) (ok_3 ho1) ?_
  refine aw_jn (fun k => ∀ (x8 : Int32) (u5 : qM), qAW l G m_X8_pushed (q_mq G q_cI) 82 [(1, .ref (q_ad G 2 o1)), (3, .int x2), (4, .int x3), (5, .int x4), (6, .int x5), (7, .int x8)] [] u5 (k x8 u5)) ?_ ?_
  · intro x8 u5
    refine aw_iload (i := 7) dX8_pushed_82 84 rfl 5 rfl ?_
    refine aw_jn (fun k => ∀  (u6 : qM), qAW l G m_X8_pushed (q_mq G q_cI) 110 [(1, .ref (q_ad G 2 o1)), (3, .int x2), (4, .int x3), (6, .int x5), (7, .int x8)] [] u6 (k u6)) ?_ ?_
    · intro u6
      refine aw_iload (i := 7) dX8_pushed_110 112 rfl 4 rfl ?_
      refine aw_jn (fun k => ∀  (u7 : qM), qAW l G m_X8_pushed (q_mq G q_cI) 138 [(7, .int x8)] [] u7 (k u7)) ?_ ?_
      · intro u7
        refine aw_iload (i := 7) dX8_pushed_138 140 rfl 0 rfl ?_
        exact aw_iret dX8_pushed_140 rfl
      · intro j3 hj3
        refine aw_if_ge dX8_pushed_112 115 rfl 138 rfl (fun h4 => ?_) (fun h4 => ?_)
        · exact aw_conv [4] rfl (hj3 u6)
        · refine aw_aload_n (i := 1) dX8_pushed_115 116 rfl rfl 0 rfl ?_
          refine gfN_X0_1 dX8_pushed_116 119 rfl "SeaCells" (ns_29) (ok_2 ho1) ?_
          refine aw_iload (i := 4) dX8_pushed_119 121 rfl 2 rfl ?_
          refine aw_iald dX8_pushed_121 122 rfl at_38 (al_38 _) (ok_38 ho1) (fun h5 => ?_)
          refine aw_jn (fun k => ∀  (u8 : qM), qAW l G m_X8_pushed (q_mq G q_cI) 136 [] [] u8 (k u8)) ?_ ?_
          · intro u8
            refine aw_iconst (x := 0) dX8_pushed_136 137 rfl rfl ?_
            exact aw_iret dX8_pushed_137 rfl
          · intro j4 hj4
            refine aw_if_eq dX8_pushed_122 125 rfl 136 rfl (fun h6 => ?_) (fun h6 => ?_)
            · exact aw_conv [] rfl (hj4 u6)
            · refine aw_aload_n (i := 1) dX8_pushed_125 126 rfl rfl 0 rfl ?_
              refine gfN_X0_0 dX8_pushed_126 129 rfl "SeaCells" (ns_27) (ok_2 ho1) ?_
              refine aw_iload_n (i := 3) dX8_pushed_129 130 rfl rfl 1 rfl ?_
              refine aw_iald dX8_pushed_130 131 rfl at_37 (al_37 _) (ok_37 ho1) (fun h7 => ?_)
              refine aw_iload (i := 6) dX8_pushed_131 133 rfl 3 rfl ?_
              refine aw_icmp_lt dX8_pushed_133 136 rfl 138 rfl (fun h8 => ?_) (fun h8 => ?_)
              · exact aw_conv [4] rfl (hj3 u6)
              · exact aw_conv [] rfl (hj4 u6)
    · intro j2 hj2
      refine aw_if_le dX8_pushed_84 87 rfl 110 rfl (fun h3 => ?_) (fun h3 => ?_)
      · exact aw_conv [0, 1, 2, 4, 5] rfl (hj2 u5)
      · refine aw_aload_n (i := 1) dX8_pushed_87 88 rfl rfl 0 rfl ?_
        refine gfN_X0_1 dX8_pushed_88 91 rfl "SeaCells" (ns_29) (ok_2 ho1) ?_
        refine aw_iload_n (i := 3) dX8_pushed_91 92 rfl rfl 1 rfl ?_
        refine aw_iald dX8_pushed_92 93 rfl at_38 (al_38 _) (ok_38 ho1) (fun h9 => ?_)
        refine aw_jn (fun k => ∀  (u9 : qM), qAW l G m_X8_pushed (q_mq G q_cI) 108 [] [] u9 (k u9)) ?_ ?_
        · intro u9
          refine aw_iconst (x := 0) dX8_pushed_108 109 rfl rfl ?_
          exact aw_iret dX8_pushed_109 rfl
        · intro j5 hj5
          refine aw_if_eq dX8_pushed_93 96 rfl 108 rfl (fun h10 => ?_) (fun h10 => ?_)
          · exact aw_conv [] rfl (hj5 u5)
          · refine aw_aload_n (i := 1) dX8_pushed_96 97 rfl rfl 0 rfl ?_
            refine gfN_X0_0 dX8_pushed_97 100 rfl "SeaCells" (ns_27) (ok_2 ho1) ?_
            refine aw_iload (i := 4) dX8_pushed_100 102 rfl 2 rfl ?_
            refine aw_iald dX8_pushed_102 103 rfl at_37 (al_37 _) (ok_37 ho1) (fun h11 => ?_)
            refine aw_iload (i := 5) dX8_pushed_103 105 rfl 3 rfl ?_
            refine aw_icmp_lt dX8_pushed_105 108 rfl 110 rfl (fun h12 => ?_) (fun h12 => ?_)
            · exact aw_conv [0, 1, 2, 4, 5] rfl (hj2 u5)
            · exact aw_conv [] rfl (hj5 u5)
  · intro j1 hj1
    refine aw_if_le dX8_pushed_64 67 rfl 82 rfl (fun h2 => ?_) (fun h2 => ?_)
    · exact aw_conv [6, 4, 3, 2, 1, 0] rfl (hj1 x7 u4)
    · refine aw_iload (i := 7) dX8_pushed_67 69 rfl 0 rfl ?_
      refine aw_iload (i := 7) dX8_pushed_69 71 rfl 0 rfl ?_
      refine aw_aload_n (i := 1) dX8_pushed_71 72 rfl rfl 6 rfl ?_
      refine gfN_X0_5 dX8_pushed_72 75 rfl "SeaCells" (ns_38) (ok_2 ho1) ?_
      refine gfN_X3_1 dX8_pushed_75 78 rfl "SeaCells" (ns_5) (ok_3 ho1) ?_
      refine aw_ck (fun h13 => ?_)
      refine aw_idiv dX8_pushed_78 79 rfl (of_decide_eq_true h13) ?_
      refine aw_isub dX8_pushed_79 80 rfl ?_
      refine aw_lti (fun x9 => ?_)
      refine aw_istore dX8_pushed_80 82 rfl [(7, .int x9), (6, .int x5), (5, .int x4), (4, .int x3), (3, .int x2), (0, .ref (q_ad G 6 0)), (1, .ref (q_ad G 2 o1)), (2, .int x1)] (by decide) rfl ?_
      exact aw_conv [6, 4, 3, 2, 1, 0] rfl (hj1 x9 u4)
theorem dX8_pushFlows_0 : decode cX8_pushFlows 0 = .ok (.iconst 0, 1) := by decide +kernel
theorem dX8_pushFlows_1 : decode cX8_pushFlows 1 = .ok (.istore_n 2, 1) := by decide +kernel
theorem dX8_pushFlows_2 : decode cX8_pushFlows 2 = .ok (.iload_n 2, 1) := by decide +kernel
theorem dX8_pushFlows_3 : decode cX8_pushFlows 3 = .ok (.iconst 2, 1) := by decide +kernel
theorem dX8_pushFlows_4 : decode cX8_pushFlows 4 = .ok (.aload_n 1, 1) := by decide +kernel
theorem dX8_pushFlows_5 : decode cX8_pushFlows 5 = .ok (.invokevirtual 49, 3) := by decide +kernel
theorem dX8_pushFlows_8 : decode cX8_pushFlows 8 = .ok (.imul, 1) := by decide +kernel
theorem dX8_pushFlows_9 : decode cX8_pushFlows 9 = .ok (.if_icmp .ge 42, 3) := by decide +kernel
theorem dX8_pushFlows_12 : decode cX8_pushFlows 12 = .ok (.aload_n 0, 1) := by decide +kernel
theorem dX8_pushFlows_13 : decode cX8_pushFlows 13 = .ok (.getfield 9, 3) := by decide +kernel
theorem dX8_pushFlows_16 : decode cX8_pushFlows 16 = .ok (.iload_n 2, 1) := by decide +kernel
theorem dX8_pushFlows_17 : decode cX8_pushFlows 17 = .ok (.aload_n 1, 1) := by decide +kernel
theorem dX8_pushFlows_18 : decode cX8_pushFlows 18 = .ok (.iload_n 2, 1) := by decide +kernel
theorem dX8_pushFlows_19 : decode cX8_pushFlows 19 = .ok (.invokevirtual 78, 3) := by decide +kernel
theorem dX8_pushFlows_22 : decode cX8_pushFlows 22 = .ok (.ifCond .eq 21, 3) := by decide +kernel
theorem dX8_pushFlows_25 : decode cX8_pushFlows 25 = .ok (.aload_n 1, 1) := by decide +kernel
theorem dX8_pushFlows_26 : decode cX8_pushFlows 26 = .ok (.getfield 82, 3) := by decide +kernel
theorem dX8_pushFlows_29 : decode cX8_pushFlows 29 = .ok (.iload_n 2, 1) := by decide +kernel
theorem dX8_pushFlows_30 : decode cX8_pushFlows 30 = .ok (.baload, 1) := by decide +kernel
theorem dX8_pushFlows_31 : decode cX8_pushFlows 31 = .ok (.ifCond .ne 12, 3) := by decide +kernel
theorem dX8_pushFlows_34 : decode cX8_pushFlows 34 = .ok (.aload_n 0, 1) := by decide +kernel
theorem dX8_pushFlows_35 : decode cX8_pushFlows 35 = .ok (.aload_n 1, 1) := by decide +kernel
theorem dX8_pushFlows_36 : decode cX8_pushFlows 36 = .ok (.iload_n 2, 1) := by decide +kernel
theorem dX8_pushFlows_37 : decode cX8_pushFlows 37 = .ok (.invokevirtual 86, 3) := by decide +kernel
theorem dX8_pushFlows_40 : decode cX8_pushFlows 40 = .ok (.goto 4, 3) := by decide +kernel
theorem dX8_pushFlows_43 : decode cX8_pushFlows 43 = .ok (.iconst 0, 1) := by decide +kernel
theorem dX8_pushFlows_44 : decode cX8_pushFlows 44 = .ok (.iastore, 1) := by decide +kernel
theorem dX8_pushFlows_45 : decode cX8_pushFlows 45 = .ok (.iinc 2 1, 3) := by decide +kernel
theorem dX8_pushFlows_48 : decode cX8_pushFlows 48 = .ok (.goto (-46), 3) := by decide +kernel
theorem dX8_pushFlows_51 : decode cX8_pushFlows 51 = .ok (.return_, 1) := by decide +kernel
noncomputable def L_X8_pushFlows_2 (o1 : Nat) : Nat → Int32 → qM → (qM → Option (Unit × qM)) → Option (Unit × qM)
  | 0, _, _, _ => none
  | n + 1, x1, u1, e1 => q_bd (f_X0_cells o1 u1) (fun (x2 : Int32) (u2 : qM) => if (2 * x2) ≤ x1 then e1 u2 else q_bd (f_X0_hasSide o1 x1 u2) (fun (x3 : Int32) (u3 : qM) => q_jn (fun (x4 : Int32) (u4 : qM) => q_ck (q_in x1 96) (q_lt (q_si u4 47 0 (Int32.toNatClampNeg x1) x4) (fun (u5 : qM) => q_lt (x1 + 1) (fun (x5 : Int32) => L_X8_pushFlows_2 o1 n x5 u5 e1)))) (fun j1 => q_jn (fun  (u6 : qM) => j1 0 u6) (fun j2 => if x3 = 0 then j2 u3 else q_ck (q_in x1 96) (if (u3.1 41 o1 (Int32.toNatClampNeg x1)) = 0 then q_bd (f_X8_pushed o1 x1 u3) (fun (x6 : Int32) (u7 : qM) => j1 x6 u7) else j2 u3)))))
noncomputable def f_X8_pushFlows (o1 : Nat) (u0 : qM) : Option (Unit × qM) :=
  L_X8_pushFlows_2 o1 q_fu 0 u0 (fun u8 => some ((), u8))
set_option maxRecDepth 100000 in
set_option maxHeartbeats 4000000 in
theorem TL_X8_pushFlows_2 (l : Launch) (G : qG) (o1 : Nat) (q1 : o1 < 7) (e1 : qM → Option (Unit × qM)) (he1 : ∀  (v : qM), qAW l G m_X8_pushFlows (q_mq G q_cU) 51 [] [] v (e1 v)) : ∀ (n : Nat) (x1 : Int32) (u1 : qM), qAW l G m_X8_pushFlows (q_mq G q_cU) 2 [(0, .ref (q_ad G 6 0)), (1, .ref (q_ad G 2 o1)), (2, .int x1)] [] u1 (L_X8_pushFlows_2 o1 n x1 u1 e1) := by
  intro n
  induction n with
  | zero => intros; exact aw_none
  | succ n ih =>
    intro x1 u1
    unfold L_X8_pushFlows_2
    refine aw_iload_n (i := 2) dX8_pushFlows_2 3 rfl rfl 2 rfl ?_
    refine aw_iconst (x := 2) dX8_pushFlows_3 4 rfl rfl ?_
    refine aw_aload_n (i := 1) dX8_pushFlows_4 5 rfl rfl 1 rfl ?_
    refine aw_callV (M2 := m_X0_cells) (cv := q_cI) dX8_pushFlows_5 8 rfl (k_X0_cells l G o1 q1 u1) wd_71 wv_X0_cells pk_X0_cells rfl rfl ⟨by decide, by decide⟩ ⟨Nat.zero_le _, Nat.zero_le _⟩ at_2 (ok_2 q1) rfl rfl rfl (Nat.le_of_ble_eq_true rfl) (fun x2 u2 => ?_)
    show qAW l G m_X8_pushFlows (q_mq G q_cU) 8 [(0, .ref (q_ad G 6 0)), (1, .ref (q_ad G 2 o1)), (2, .int x1)] [.int x2, .int 2, .int x1] u2 _
    refine aw_imul dX8_pushFlows_8 9 rfl ?_
    refine aw_icmp_ge dX8_pushFlows_9 12 rfl 51 rfl (fun h1 => ?_) (fun h1 => ?_)
    · exact aw_conv [] rfl (he1 u2)
    · refine aw_aload_n (i := 0) dX8_pushFlows_12 13 rfl rfl 0 rfl ?_
      refine gf_X8_0 dX8_pushFlows_13 16 rfl wd_68 (ok_6 (by decide)) ?_
      refine aw_iload_n (i := 2) dX8_pushFlows_16 17 rfl rfl 2 rfl ?_
      refine aw_aload_n (i := 1) dX8_pushFlows_17 18 rfl rfl 1 rfl ?_
      refine aw_iload_n (i := 2) dX8_pushFlows_18 19 rfl rfl 2 rfl ?_
      refine aw_callV (M2 := m_X0_hasSide) (cv := q_cI) dX8_pushFlows_19 22 rfl (k_X0_hasSide l G o1 x1 q1 u2) wd_84 wv_X0_hasSide pk_X0_hasSide rfl rfl ⟨by decide, by decide⟩ ⟨Nat.zero_le _, Nat.zero_le _⟩ at_2 (ok_2 q1) rfl rfl rfl (Nat.le_of_ble_eq_true rfl) (fun x3 u3 => ?_)
      show qAW l G m_X8_pushFlows (q_mq G q_cU) 22 [(0, .ref (q_ad G 6 0)), (1, .ref (q_ad G 2 o1)), (2, .int x1)] [.int x3, .int x1, .ref (q_ad G 47 0)] u3 _
      refine aw_jn (fun k => ∀ (x4 : Int32) (u4 : qM), qAW l G m_X8_pushFlows (q_mq G q_cU) 44 [(0, .ref (q_ad G 6 0)), (1, .ref (q_ad G 2 o1)), (2, .int x1)] [.int x4, .int x1, .ref (q_ad G 47 0)] u4 (k x4 u4)) ?_ ?_
      · intro x4 u4
        refine aw_iast dX8_pushFlows_44 45 rfl at_47 (al_47 _) (ok_47 (by decide)) (fun h3 => ?_)
        refine aw_ltm (fun u5 => ?_)
        refine aw_iincx (i := 2) dX8_pushFlows_45 48 rfl 2 rfl 1 rfl (fun x5 => [(2, .int x5), (0, .ref (q_ad G 6 0)), (1, .ref (q_ad G 2 o1))]) (by decide) (fun _ => rfl) (fun x5 => ?_)
        refine aw_goto dX8_pushFlows_48 2 rfl ?_
        exact aw_conv [1, 2, 0] rfl (ih x5 u5)
      · intro j1 hj1
        refine aw_jn (fun k => ∀  (u6 : qM), qAW l G m_X8_pushFlows (q_mq G q_cU) 43 [(0, .ref (q_ad G 6 0)), (1, .ref (q_ad G 2 o1)), (2, .int x1)] [.int x1, .ref (q_ad G 47 0)] u6 (k u6)) ?_ ?_
        · intro u6
          refine aw_iconst (x := 0) dX8_pushFlows_43 44 rfl rfl ?_
          exact hj1 0 u6
        · intro j2 hj2
          refine aw_if_eq dX8_pushFlows_22 25 rfl 43 rfl (fun h2 => ?_) (fun h2 => ?_)
          · exact hj2 u3
          · refine aw_aload_n (i := 1) dX8_pushFlows_25 26 rfl rfl 1 rfl ?_
            refine gfN_X0_4 dX8_pushFlows_26 29 rfl "SeaCells" (ns_36) (ok_2 q1) ?_
            refine aw_iload_n (i := 2) dX8_pushFlows_29 30 rfl rfl 2 rfl ?_
            refine aw_zald dX8_pushFlows_30 31 rfl at_41 (al_41 _) (ok_41 q1) (fun h4 => ?_)
            refine aw_if_ne dX8_pushFlows_31 34 rfl 43 rfl (fun h5 => ?_) (fun h5 => ?_)
            · exact hj2 u3
            · refine aw_aload_n (i := 0) dX8_pushFlows_34 35 rfl rfl 0 rfl ?_
              refine aw_aload_n (i := 1) dX8_pushFlows_35 36 rfl rfl 1 rfl ?_
              refine aw_iload_n (i := 2) dX8_pushFlows_36 37 rfl rfl 2 rfl ?_
              refine aw_callV (M2 := m_X8_pushed) (cv := q_cI) dX8_pushFlows_37 40 rfl (k_X8_pushed l G o1 x1 q1 u3) wd_85 wv_X8_pushed pk_X8_pushed rfl rfl ⟨by decide, by decide⟩ ⟨Nat.zero_le _, Nat.zero_le _⟩ at_6 (ok_6 (by decide)) rfl rfl rfl (Nat.le_of_ble_eq_true rfl) (fun x6 u7 => ?_)
              show qAW l G m_X8_pushFlows (q_mq G q_cU) 40 [(0, .ref (q_ad G 6 0)), (1, .ref (q_ad G 2 o1)), (2, .int x1)] [.int x6, .int x1, .ref (q_ad G 47 0)] u7 _
              refine aw_goto dX8_pushFlows_40 44 rfl ?_
              exact hj1 x6 u7
set_option maxRecDepth 100000 in
set_option maxHeartbeats 4000000 in
theorem k_X8_pushFlows (l : Launch) (G : qG) (o1 : Nat) (ho1 : o1 < 7) (u0 : qM) : qCt l G m_X8_pushFlows q_cU [.ref (q_ad G 6 0), .ref (q_ad G 2 o1)] u0 (f_X8_pushFlows o1 u0) := by
  refine q_entry pk_X8_pushFlows (Nat.le_of_ble_eq_true rfl) ?_
  show qAW l G m_X8_pushFlows (q_mq G q_cU) 0 [(0, .ref (q_ad G 6 0)), (1, .ref (q_ad G 2 o1))] [] u0 (f_X8_pushFlows o1 u0)
  unfold f_X8_pushFlows
  refine aw_iconst (x := 0) dX8_pushFlows_0 1 rfl rfl ?_
  refine aw_istore_n dX8_pushFlows_1 2 rfl rfl [(2, .int 0), (0, .ref (q_ad G 6 0)), (1, .ref (q_ad G 2 o1))] (by decide) rfl ?_
  refine aw_conv [1, 2, 0] rfl (TL_X8_pushFlows_2 l G o1 ho1 _ ?_ _ 0 u0)
  · intro u8
    exact aw_vret dX8_pushFlows_51 rfl
theorem dX8_tooMuch_0 : decode cX8_tooMuch 0 = .ok (.iconst 0, 1) := by decide +kernel
theorem dX8_tooMuch_1 : decode cX8_tooMuch 1 = .ok (.istore_n 2, 1) := by decide +kernel
theorem dX8_tooMuch_2 : decode cX8_tooMuch 2 = .ok (.iload_n 2, 1) := by decide +kernel
theorem dX8_tooMuch_3 : decode cX8_tooMuch 3 = .ok (.aload_n 1, 1) := by decide +kernel
theorem dX8_tooMuch_4 : decode cX8_tooMuch 4 = .ok (.invokevirtual 49, 3) := by decide +kernel
theorem dX8_tooMuch_7 : decode cX8_tooMuch 7 = .ok (.if_icmp .ge 22, 3) := by decide +kernel
theorem dX8_tooMuch_10 : decode cX8_tooMuch 10 = .ok (.aload_n 0, 1) := by decide +kernel
theorem dX8_tooMuch_11 : decode cX8_tooMuch 11 = .ok (.getfield 18, 3) := by decide +kernel
theorem dX8_tooMuch_14 : decode cX8_tooMuch 14 = .ok (.iload_n 2, 1) := by decide +kernel
theorem dX8_tooMuch_15 : decode cX8_tooMuch 15 = .ok (.iaload, 1) := by decide +kernel
theorem dX8_tooMuch_16 : decode cX8_tooMuch 16 = .ok (.ldc 142, 2) := by decide +kernel
theorem dX8_tooMuch_18 : decode cX8_tooMuch 18 = .ok (.if_icmp .le 5, 3) := by decide +kernel
theorem dX8_tooMuch_21 : decode cX8_tooMuch 21 = .ok (.iconst 1, 1) := by decide +kernel
theorem dX8_tooMuch_22 : decode cX8_tooMuch 22 = .ok (.ireturn, 1) := by decide +kernel
theorem dX8_tooMuch_23 : decode cX8_tooMuch 23 = .ok (.iinc 2 1, 3) := by decide +kernel
theorem dX8_tooMuch_26 : decode cX8_tooMuch 26 = .ok (.goto (-24), 3) := by decide +kernel
theorem dX8_tooMuch_29 : decode cX8_tooMuch 29 = .ok (.iconst 0, 1) := by decide +kernel
theorem dX8_tooMuch_30 : decode cX8_tooMuch 30 = .ok (.ireturn, 1) := by decide +kernel
noncomputable def L_X8_tooMuch_2 (o1 : Nat) : Nat → Int32 → qM → (qM → Option (Int32 × qM)) → (qM → Option (Int32 × qM)) → Option (Int32 × qM)
  | 0, _, _, _, _ => none
  | n + 1, x1, u1, e1, e2 => q_bd (f_X0_cells o1 u1) (fun (x2 : Int32) (u2 : qM) => if x2 ≤ x1 then e1 u2 else q_ck (q_in x1 48) (if (u2.1 49 0 (Int32.toNatClampNeg x1)) ≤ 100000 then q_lt (x1 + 1) (fun (x3 : Int32) => L_X8_tooMuch_2 o1 n x3 u2 e1 e2) else e2 u2))
noncomputable def f_X8_tooMuch (o1 : Nat) (u0 : qM) : Option (Int32 × qM) :=
  L_X8_tooMuch_2 o1 q_fu 0 u0 (fun u3 => some (0, u3)) (fun u4 => some (1, u4))
set_option maxRecDepth 100000 in
set_option maxHeartbeats 4000000 in
theorem TL_X8_tooMuch_2 (l : Launch) (G : qG) (o1 : Nat) (q1 : o1 < 7) (e1 : qM → Option (Int32 × qM)) (e2 : qM → Option (Int32 × qM)) (he1 : ∀  (v : qM), qAW l G m_X8_tooMuch (q_mq G q_cI) 29 [] [] v (e1 v)) (he2 : ∀  (v : qM), qAW l G m_X8_tooMuch (q_mq G q_cI) 21 [] [] v (e2 v)) : ∀ (n : Nat) (x1 : Int32) (u1 : qM), qAW l G m_X8_tooMuch (q_mq G q_cI) 2 [(0, .ref (q_ad G 6 0)), (1, .ref (q_ad G 2 o1)), (2, .int x1)] [] u1 (L_X8_tooMuch_2 o1 n x1 u1 e1 e2) := by
  intro n
  induction n with
  | zero => intros; exact aw_none
  | succ n ih =>
    intro x1 u1
    unfold L_X8_tooMuch_2
    refine aw_iload_n (i := 2) dX8_tooMuch_2 3 rfl rfl 2 rfl ?_
    refine aw_aload_n (i := 1) dX8_tooMuch_3 4 rfl rfl 1 rfl ?_
    refine aw_callV (M2 := m_X0_cells) (cv := q_cI) dX8_tooMuch_4 7 rfl (k_X0_cells l G o1 q1 u1) wd_71 wv_X0_cells pk_X0_cells rfl rfl ⟨by decide, by decide⟩ ⟨Nat.zero_le _, Nat.zero_le _⟩ at_2 (ok_2 q1) rfl rfl rfl (Nat.le_of_ble_eq_true rfl) (fun x2 u2 => ?_)
    show qAW l G m_X8_tooMuch (q_mq G q_cI) 7 [(0, .ref (q_ad G 6 0)), (1, .ref (q_ad G 2 o1)), (2, .int x1)] [.int x2, .int x1] u2 _
    refine aw_icmp_ge dX8_tooMuch_7 10 rfl 29 rfl (fun h1 => ?_) (fun h1 => ?_)
    · exact aw_conv [] rfl (he1 u2)
    · refine aw_aload_n (i := 0) dX8_tooMuch_10 11 rfl rfl 0 rfl ?_
      refine gf_X8_2 dX8_tooMuch_11 14 rfl wd_67 (ok_6 (by decide)) ?_
      refine aw_iload_n (i := 2) dX8_tooMuch_14 15 rfl rfl 2 rfl ?_
      refine aw_iald dX8_tooMuch_15 16 rfl at_49 (al_49 _) (ok_49 (by decide)) (fun h2 => ?_)
      refine aw_ldc (x := 100000) dX8_tooMuch_16 18 rfl wd_78 ?_
      refine aw_icmp_le dX8_tooMuch_18 21 rfl 23 rfl (fun h3 => ?_) (fun h3 => ?_)
      · refine aw_iincx (i := 2) dX8_tooMuch_23 26 rfl 2 rfl 1 rfl (fun x3 => [(2, .int x3), (0, .ref (q_ad G 6 0)), (1, .ref (q_ad G 2 o1))]) (by decide) (fun _ => rfl) (fun x3 => ?_)
        refine aw_goto dX8_tooMuch_26 2 rfl ?_
        exact aw_conv [1, 2, 0] rfl (ih x3 u2)
      · exact aw_conv [] rfl (he2 u2)
set_option maxRecDepth 100000 in
set_option maxHeartbeats 4000000 in
theorem k_X8_tooMuch (l : Launch) (G : qG) (o1 : Nat) (ho1 : o1 < 7) (u0 : qM) : qCt l G m_X8_tooMuch q_cI [.ref (q_ad G 6 0), .ref (q_ad G 2 o1)] u0 (f_X8_tooMuch o1 u0) := by
  refine q_entry pk_X8_tooMuch (Nat.le_of_ble_eq_true rfl) ?_
  show qAW l G m_X8_tooMuch (q_mq G q_cI) 0 [(0, .ref (q_ad G 6 0)), (1, .ref (q_ad G 2 o1))] [] u0 (f_X8_tooMuch o1 u0)
  unfold f_X8_tooMuch
  refine aw_iconst (x := 0) dX8_tooMuch_0 1 rfl rfl ?_
  refine aw_istore_n dX8_tooMuch_1 2 rfl rfl [(2, .int 0), (0, .ref (q_ad G 6 0)), (1, .ref (q_ad G 2 o1))] (by decide) rfl ?_
  refine aw_conv [1, 2, 0] rfl (TL_X8_tooMuch_2 l G o1 ho1 _ _ ?_ ?_ _ 0 u0)
  · intro u3
    refine aw_iconst (x := 0) dX8_tooMuch_29 30 rfl rfl ?_
    exact aw_zret dX8_tooMuch_30 rfl (by decide)
  · intro u4
    refine aw_iconst (x := 1) dX8_tooMuch_21 22 rfl rfl ?_
    exact aw_zret dX8_tooMuch_22 rfl (by decide)
theorem dX8_advance_0 : decode cX8_advance 0 = .ok (.aload_n 0, 1) := by decide +kernel
theorem dX8_advance_1 : decode cX8_advance 1 = .ok (.aload_n 1, 1) := by decide +kernel
theorem dX8_advance_2 : decode cX8_advance 2 = .ok (.invokevirtual 24, 3) := by decide +kernel
theorem dX8_advance_5 : decode cX8_advance 5 = .ok (.aload_n 0, 1) := by decide +kernel
theorem dX8_advance_6 : decode cX8_advance 6 = .ok (.aload_n 1, 1) := by decide +kernel
theorem dX8_advance_7 : decode cX8_advance 7 = .ok (.invokevirtual 28, 3) := by decide +kernel
theorem dX8_advance_10 : decode cX8_advance 10 = .ok (.aload_n 0, 1) := by decide +kernel
theorem dX8_advance_11 : decode cX8_advance 11 = .ok (.aload_n 1, 1) := by decide +kernel
theorem dX8_advance_12 : decode cX8_advance 12 = .ok (.invokevirtual 31, 3) := by decide +kernel
theorem dX8_advance_15 : decode cX8_advance 15 = .ok (.aload_n 0, 1) := by decide +kernel
theorem dX8_advance_16 : decode cX8_advance 16 = .ok (.aload_n 1, 1) := by decide +kernel
theorem dX8_advance_17 : decode cX8_advance 17 = .ok (.invokevirtual 34, 3) := by decide +kernel
theorem dX8_advance_20 : decode cX8_advance 20 = .ok (.istore_n 3, 1) := by decide +kernel
theorem dX8_advance_21 : decode cX8_advance 21 = .ok (.aload_n 0, 1) := by decide +kernel
theorem dX8_advance_22 : decode cX8_advance 22 = .ok (.aload_n 1, 1) := by decide +kernel
theorem dX8_advance_23 : decode cX8_advance 23 = .ok (.invokevirtual 38, 3) := by decide +kernel
theorem dX8_advance_26 : decode cX8_advance 26 = .ok (.ifCond .eq 5, 3) := by decide +kernel
theorem dX8_advance_29 : decode cX8_advance 29 = .ok (.iconst 0, 1) := by decide +kernel
theorem dX8_advance_30 : decode cX8_advance 30 = .ok (.ireturn, 1) := by decide +kernel
theorem dX8_advance_31 : decode cX8_advance 31 = .ok (.iconst 0, 1) := by decide +kernel
theorem dX8_advance_32 : decode cX8_advance 32 = .ok (.istore 4, 2) := by decide +kernel
theorem dX8_advance_34 : decode cX8_advance 34 = .ok (.iload 4, 2) := by decide +kernel
theorem dX8_advance_36 : decode cX8_advance 36 = .ok (.iconst 3, 1) := by decide +kernel
theorem dX8_advance_37 : decode cX8_advance 37 = .ok (.if_icmp .ge 19, 3) := by decide +kernel
theorem dX8_advance_40 : decode cX8_advance 40 = .ok (.aload_n 0, 1) := by decide +kernel
theorem dX8_advance_41 : decode cX8_advance 41 = .ok (.aload_n 1, 1) := by decide +kernel
theorem dX8_advance_42 : decode cX8_advance 42 = .ok (.iload 4, 2) := by decide +kernel
theorem dX8_advance_44 : decode cX8_advance 44 = .ok (.bipush 48, 2) := by decide +kernel
theorem dX8_advance_46 : decode cX8_advance 46 = .ok (.imul, 1) := by decide +kernel
theorem dX8_advance_47 : decode cX8_advance 47 = .ok (.invokevirtual 42, 3) := by decide +kernel
theorem dX8_advance_50 : decode cX8_advance 50 = .ok (.iinc 4 1, 3) := by decide +kernel
theorem dX8_advance_53 : decode cX8_advance 53 = .ok (.goto (-19), 3) := by decide +kernel
theorem dX8_advance_56 : decode cX8_advance 56 = .ok (.aload_n 0, 1) := by decide +kernel
theorem dX8_advance_57 : decode cX8_advance 57 = .ok (.getfield 9, 3) := by decide +kernel
theorem dX8_advance_60 : decode cX8_advance 60 = .ok (.iconst 0, 1) := by decide +kernel
theorem dX8_advance_61 : decode cX8_advance 61 = .ok (.aload_n 1, 1) := by decide +kernel
theorem dX8_advance_62 : decode cX8_advance 62 = .ok (.getfield 46, 3) := by decide +kernel
theorem dX8_advance_65 : decode cX8_advance 65 = .ok (.iconst 0, 1) := by decide +kernel
theorem dX8_advance_66 : decode cX8_advance 66 = .ok (.iconst 2, 1) := by decide +kernel
theorem dX8_advance_67 : decode cX8_advance 67 = .ok (.aload_n 1, 1) := by decide +kernel
theorem dX8_advance_68 : decode cX8_advance 68 = .ok (.invokevirtual 49, 3) := by decide +kernel
theorem dX8_advance_71 : decode cX8_advance 71 = .ok (.imul, 1) := by decide +kernel
theorem dX8_advance_72 : decode cX8_advance 72 = .ok (.invokestatic 53, 3) := by decide +kernel
theorem dX8_advance_75 : decode cX8_advance 75 = .ok (.aload_n 0, 1) := by decide +kernel
theorem dX8_advance_76 : decode cX8_advance 76 = .ok (.getfield 18, 3) := by decide +kernel
theorem dX8_advance_79 : decode cX8_advance 79 = .ok (.iconst 0, 1) := by decide +kernel
theorem dX8_advance_80 : decode cX8_advance 80 = .ok (.aload_n 1, 1) := by decide +kernel
theorem dX8_advance_81 : decode cX8_advance 81 = .ok (.getfield 59, 3) := by decide +kernel
theorem dX8_advance_84 : decode cX8_advance 84 = .ok (.iconst 0, 1) := by decide +kernel
theorem dX8_advance_85 : decode cX8_advance 85 = .ok (.aload_n 1, 1) := by decide +kernel
theorem dX8_advance_86 : decode cX8_advance 86 = .ok (.invokevirtual 49, 3) := by decide +kernel
theorem dX8_advance_89 : decode cX8_advance 89 = .ok (.invokestatic 53, 3) := by decide +kernel
theorem dX8_advance_92 : decode cX8_advance 92 = .ok (.aload_n 1, 1) := by decide +kernel
theorem dX8_advance_93 : decode cX8_advance 93 = .ok (.dup, 1) := by decide +kernel
theorem dX8_advance_94 : decode cX8_advance 94 = .ok (.getfield 60, 3) := by decide +kernel
theorem dX8_advance_97 : decode cX8_advance 97 = .ok (.iload_n 3, 1) := by decide +kernel
theorem dX8_advance_98 : decode cX8_advance 98 = .ok (.iadd, 1) := by decide +kernel
theorem dX8_advance_99 : decode cX8_advance 99 = .ok (.putfield 60, 3) := by decide +kernel
theorem dX8_advance_102 : decode cX8_advance 102 = .ok (.aload_n 1, 1) := by decide +kernel
theorem dX8_advance_103 : decode cX8_advance 103 = .ok (.aload_n 2, 1) := by decide +kernel
theorem dX8_advance_104 : decode cX8_advance 104 = .ok (.invokevirtual 64, 3) := by decide +kernel
theorem dX8_advance_107 : decode cX8_advance 107 = .ok (.ifCond .eq 12, 3) := by decide +kernel
theorem dX8_advance_110 : decode cX8_advance 110 = .ok (.aload_n 1, 1) := by decide +kernel
theorem dX8_advance_111 : decode cX8_advance 111 = .ok (.aload_n 1, 1) := by decide +kernel
theorem dX8_advance_112 : decode cX8_advance 112 = .ok (.aload_n 2, 1) := by decide +kernel
theorem dX8_advance_113 : decode cX8_advance 113 = .ok (.invokevirtual 68, 3) := by decide +kernel
theorem dX8_advance_116 : decode cX8_advance 116 = .ok (.invokestatic 72, 3) := by decide +kernel
theorem dX8_advance_119 : decode cX8_advance 119 = .ok (.aload_n 1, 1) := by decide +kernel
theorem dX8_advance_120 : decode cX8_advance 120 = .ok (.dup, 1) := by decide +kernel
theorem dX8_advance_121 : decode cX8_advance 121 = .ok (.getfield 75, 3) := by decide +kernel
theorem dX8_advance_124 : decode cX8_advance 124 = .ok (.iconst 1, 1) := by decide +kernel
theorem dX8_advance_125 : decode cX8_advance 125 = .ok (.iadd, 1) := by decide +kernel
theorem dX8_advance_126 : decode cX8_advance 126 = .ok (.putfield 75, 3) := by decide +kernel
theorem dX8_advance_129 : decode cX8_advance 129 = .ok (.iconst 1, 1) := by decide +kernel
theorem dX8_advance_130 : decode cX8_advance 130 = .ok (.ireturn, 1) := by decide +kernel
noncomputable def L_X8_advance_34 (o1 : Nat) (x1 : Int32) : Nat → Int32 → qM → (qM → Option (Int32 × qM)) → Option (Int32 × qM)
  | 0, _, _, _ => none
  | n + 1, x3, u6, e1 => if 3 ≤ x3 then e1 u6 else q_bd (f_X8_carryStuff o1 (x3 * 48) u6) (fun (_z : Unit) (u7 : qM) => q_lt (x3 + 1) (fun (x4 : Int32) => L_X8_advance_34 o1 x1 n x4 u7 e1))
noncomputable def f_X8_advance (o1 : Nat) (u0 : qM) : Option (Int32 × qM) :=
  q_bd (f_X8_pushFlows o1 u0) (fun (_z : Unit) (u1 : qM) => q_bd (f_X8_limitFlows o1 u1) (fun (_z : Unit) (u2 : qM) => q_bd (f_X8_moveWater o1 u2) (fun (_z : Unit) (u3 : qM) => q_bd (f_X8_addRivers o1 u3) (fun (x1 : Int32) (u4 : qM) => q_bd (f_X8_tooMuch o1 u4) (fun (x2 : Int32) (u5 : qM) => if x2 = 0 then L_X8_advance_34 o1 x1 q_fu 0 u5 (fun u8 => q_bd (f_X0_cells o1 u8) (fun (x5 : Int32) (u9 : qM) => q_ck (q_cr 0 0 (2 * x5) 96 96) (q_lt (q_sc u9 47 0 40 o1 (Int32.toNatClampNeg 0) (Int32.toNatClampNeg 0) (Int32.toNatClampNeg (2 * x5))) (fun (u10 : qM) => q_bd (f_X0_cells o1 u10) (fun (x6 : Int32) (u11 : qM) => q_ck (q_cr 0 0 x6 48 48) (q_lt (q_sc u11 49 0 38 o1 (Int32.toNatClampNeg 0) (Int32.toNatClampNeg 0) (Int32.toNatClampNeg x6)) (fun (u12 : qM) => q_lt (q_si u12 2 o1 15 ((u12.1 2 o1 15) + x1)) (fun (u13 : qM) => q_bd (f_X0_hasTide o1 u13) (fun (x7 : Int32) (u14 : qM) => q_jn (fun  (u15 : qM) => q_lt (q_si u15 2 o1 14 ((u15.1 2 o1 14) + 1)) (fun (u16 : qM) => some (1, u16))) (fun j1 => if x7 = 0 then j1 u14 else q_bd (f_X0_tideLevel o1 u14) (fun (x8 : Int32) (u17 : qM) => q_bd (f_X8_leadRim o1 x8 u17) (fun (_z : Unit) (u18 : qM) => j1 u18)))))))))))) else some (0, u5))))))
set_option maxRecDepth 100000 in
set_option maxHeartbeats 4000000 in
theorem TL_X8_advance_34 (l : Launch) (G : qG) (o1 : Nat) (x1 : Int32) (q1 : o1 < 7) (e1 : qM → Option (Int32 × qM)) (he1 : ∀  (v : qM), qAW l G m_X8_advance (q_mq G q_cI) 56 [(0, .ref (q_ad G 6 0)), (1, .ref (q_ad G 2 o1)), (2, .ref (q_ad G 1 0)), (3, .int x1)] [] v (e1 v)) : ∀ (n : Nat) (x3 : Int32) (u6 : qM), qAW l G m_X8_advance (q_mq G q_cI) 34 [(0, .ref (q_ad G 6 0)), (1, .ref (q_ad G 2 o1)), (2, .ref (q_ad G 1 0)), (3, .int x1), (4, .int x3)] [] u6 (L_X8_advance_34 o1 x1 n x3 u6 e1) := by
  intro n
  induction n with
  | zero => intros; exact aw_none
  | succ n ih =>
    intro x3 u6
    unfold L_X8_advance_34
    refine aw_iload (i := 4) dX8_advance_34 36 rfl 4 rfl ?_
    refine aw_iconst (x := 3) dX8_advance_36 37 rfl rfl ?_
    refine aw_icmp_ge dX8_advance_37 40 rfl 56 rfl (fun h2 => ?_) (fun h2 => ?_)
    · exact aw_conv [0, 1, 2, 3] rfl (he1 u6)
    · refine aw_aload_n (i := 0) dX8_advance_40 41 rfl rfl 0 rfl ?_
      refine aw_aload_n (i := 1) dX8_advance_41 42 rfl rfl 1 rfl ?_
      refine aw_iload (i := 4) dX8_advance_42 44 rfl 4 rfl ?_
      refine aw_bipush (x := 48) dX8_advance_44 46 rfl rfl ?_
      refine aw_imul dX8_advance_46 47 rfl ?_
      refine aw_callV (M2 := m_X8_carryStuff) (cv := q_cU) dX8_advance_47 50 rfl (k_X8_carryStuff l G o1 (x3 * 48) q1 u6) wd_91 wv_X8_carryStuff pk_X8_carryStuff rfl rfl ⟨by decide, by decide⟩ ⟨Nat.zero_le _, Nat.zero_le _⟩ at_6 (ok_6 (by decide)) rfl rfl rfl (Nat.le_of_ble_eq_true rfl) (fun _z u7 => ?_)
      show qAW l G m_X8_advance (q_mq G q_cI) 50 [(0, .ref (q_ad G 6 0)), (1, .ref (q_ad G 2 o1)), (2, .ref (q_ad G 1 0)), (3, .int x1), (4, .int x3)] [] u7 _
      refine aw_iincx (i := 4) dX8_advance_50 53 rfl 4 rfl 1 rfl (fun x4 => [(4, .int x4), (0, .ref (q_ad G 6 0)), (1, .ref (q_ad G 2 o1)), (2, .ref (q_ad G 1 0)), (3, .int x1)]) (by decide) (fun _ => rfl) (fun x4 => ?_)
      refine aw_goto dX8_advance_53 34 rfl ?_
      exact aw_conv [1, 2, 3, 4, 0] rfl (ih x4 u7)
set_option maxRecDepth 100000 in
set_option maxHeartbeats 4000000 in
theorem k_X8_advance (l : Launch) (G : qG) (o1 : Nat) (ho1 : o1 < 7) (u0 : qM) : qCt l G m_X8_advance q_cI [.ref (q_ad G 6 0), .ref (q_ad G 2 o1), .ref (q_ad G 1 0)] u0 (f_X8_advance o1 u0) := by
  refine q_entry pk_X8_advance (Nat.le_of_ble_eq_true rfl) ?_
  show qAW l G m_X8_advance (q_mq G q_cI) 0 [(0, .ref (q_ad G 6 0)), (1, .ref (q_ad G 2 o1)), (2, .ref (q_ad G 1 0))] [] u0 (f_X8_advance o1 u0)
  unfold f_X8_advance
  refine aw_aload_n (i := 0) dX8_advance_0 1 rfl rfl 0 rfl ?_
  refine aw_aload_n (i := 1) dX8_advance_1 2 rfl rfl 1 rfl ?_
  refine aw_callV (M2 := m_X8_pushFlows) (cv := q_cU) dX8_advance_2 5 rfl (k_X8_pushFlows l G o1 ho1 u0) wd_86 wv_X8_pushFlows pk_X8_pushFlows rfl rfl ⟨by decide, by decide⟩ ⟨Nat.zero_le _, Nat.zero_le _⟩ at_6 (ok_6 (by decide)) rfl rfl rfl (Nat.le_of_ble_eq_true rfl) (fun _z u1 => ?_)
  show qAW l G m_X8_advance (q_mq G q_cI) 5 [(0, .ref (q_ad G 6 0)), (1, .ref (q_ad G 2 o1)), (2, .ref (q_ad G 1 0))] [] u1 _
  refine aw_aload_n (i := 0) dX8_advance_5 6 rfl rfl 0 rfl ?_
  refine aw_aload_n (i := 1) dX8_advance_6 7 rfl rfl 1 rfl ?_
  refine aw_callV (M2 := m_X8_limitFlows) (cv := q_cU) dX8_advance_7 10 rfl (k_X8_limitFlows l G o1 ho1 u1) wd_87 wv_X8_limitFlows pk_X8_limitFlows rfl rfl ⟨by decide, by decide⟩ ⟨Nat.zero_le _, Nat.zero_le _⟩ at_6 (ok_6 (by decide)) rfl rfl rfl (Nat.le_of_ble_eq_true rfl) (fun _z u2 => ?_)
  show qAW l G m_X8_advance (q_mq G q_cI) 10 [(0, .ref (q_ad G 6 0)), (1, .ref (q_ad G 2 o1)), (2, .ref (q_ad G 1 0))] [] u2 _
  refine aw_aload_n (i := 0) dX8_advance_10 11 rfl rfl 0 rfl ?_
  refine aw_aload_n (i := 1) dX8_advance_11 12 rfl rfl 1 rfl ?_
  refine aw_callV (M2 := m_X8_moveWater) (cv := q_cU) dX8_advance_12 15 rfl (k_X8_moveWater l G o1 ho1 u2) wd_88 wv_X8_moveWater pk_X8_moveWater rfl rfl ⟨by decide, by decide⟩ ⟨Nat.zero_le _, Nat.zero_le _⟩ at_6 (ok_6 (by decide)) rfl rfl rfl (Nat.le_of_ble_eq_true rfl) (fun _z u3 => ?_)
  show qAW l G m_X8_advance (q_mq G q_cI) 15 [(0, .ref (q_ad G 6 0)), (1, .ref (q_ad G 2 o1)), (2, .ref (q_ad G 1 0))] [] u3 _
  refine aw_aload_n (i := 0) dX8_advance_15 16 rfl rfl 0 rfl ?_
  refine aw_aload_n (i := 1) dX8_advance_16 17 rfl rfl 1 rfl ?_
  refine aw_callV (M2 := m_X8_addRivers) (cv := q_cI) dX8_advance_17 20 rfl (k_X8_addRivers l G o1 ho1 u3) wd_89 wv_X8_addRivers pk_X8_addRivers rfl rfl ⟨by decide, by decide⟩ ⟨Nat.zero_le _, Nat.zero_le _⟩ at_6 (ok_6 (by decide)) rfl rfl rfl (Nat.le_of_ble_eq_true rfl) (fun x1 u4 => ?_)
  show qAW l G m_X8_advance (q_mq G q_cI) 20 [(0, .ref (q_ad G 6 0)), (1, .ref (q_ad G 2 o1)), (2, .ref (q_ad G 1 0))] [.int x1] u4 _
  refine aw_istore_n dX8_advance_20 21 rfl rfl [(3, .int x1), (0, .ref (q_ad G 6 0)), (1, .ref (q_ad G 2 o1)), (2, .ref (q_ad G 1 0))] (by decide) rfl ?_
  refine aw_aload_n (i := 0) dX8_advance_21 22 rfl rfl 1 rfl ?_
  refine aw_aload_n (i := 1) dX8_advance_22 23 rfl rfl 2 rfl ?_
  refine aw_callV (M2 := m_X8_tooMuch) (cv := q_cI) dX8_advance_23 26 rfl (k_X8_tooMuch l G o1 ho1 u4) wd_90 wv_X8_tooMuch pk_X8_tooMuch rfl rfl ⟨by decide, by decide⟩ ⟨Nat.zero_le _, Nat.zero_le _⟩ at_6 (ok_6 (by decide)) rfl rfl rfl (Nat.le_of_ble_eq_true rfl) (fun x2 u5 => ?_)
  show qAW l G m_X8_advance (q_mq G q_cI) 26 [(3, .int x1), (0, .ref (q_ad G 6 0)), (1, .ref (q_ad G 2 o1)), (2, .ref (q_ad G 1 0))] [.int x2] u5 _
  refine aw_if_eq dX8_advance_26 29 rfl 31 rfl (fun h1 => ?_) (fun h1 => ?_)
  · refine aw_iconst (x := 0) dX8_advance_31 32 rfl rfl ?_
    refine aw_istore dX8_advance_32 34 rfl [(4, .int 0), (3, .int x1), (0, .ref (q_ad G 6 0)), (1, .ref (q_ad G 2 o1)), (2, .ref (q_ad G 1 0))] (by decide) rfl ?_
    refine aw_conv [2, 3, 4, 1, 0] rfl (TL_X8_advance_34 l G o1 x1 ho1 _ ?_ _ 0 u5)
    · intro u8
      refine aw_aload_n (i := 0) dX8_advance_56 57 rfl rfl 0 rfl ?_
      refine gf_X8_0 dX8_advance_57 60 rfl wd_68 (ok_6 (by decide)) ?_
      refine aw_iconst (x := 0) dX8_advance_60 61 rfl rfl ?_
      refine aw_aload_n (i := 1) dX8_advance_61 62 rfl rfl 1 rfl ?_
      refine gfN_X0_3 dX8_advance_62 65 rfl "SeaCells" (ns_34) (ok_2 ho1) ?_
      refine aw_iconst (x := 0) dX8_advance_65 66 rfl rfl ?_
      refine aw_iconst (x := 2) dX8_advance_66 67 rfl rfl ?_
      refine aw_aload_n (i := 1) dX8_advance_67 68 rfl rfl 1 rfl ?_
      refine aw_callV (M2 := m_X0_cells) (cv := q_cI) dX8_advance_68 71 rfl (k_X0_cells l G o1 ho1 u8) wd_71 wv_X0_cells pk_X0_cells rfl rfl ⟨by decide, by decide⟩ ⟨Nat.zero_le _, Nat.zero_le _⟩ at_2 (ok_2 ho1) rfl rfl rfl (Nat.le_of_ble_eq_true rfl) (fun x5 u9 => ?_)
      show qAW l G m_X8_advance (q_mq G q_cI) 71 [(0, .ref (q_ad G 6 0)), (1, .ref (q_ad G 2 o1)), (2, .ref (q_ad G 1 0)), (3, .int x1)] [.int x5, .int 2, .int 0, .ref (q_ad G 40 o1), .int 0, .ref (q_ad G 47 0)] u9 _
      refine aw_imul dX8_advance_71 72 rfl ?_
      refine aw_copy dX8_advance_72 75 rfl wd_72 wd_29 wd_30 wd_31 at_47 (al_47 _) (ok_47 (by decide)) at_40 (al_40 _) (ok_40 ho1) (Nat.le_of_ble_eq_true rfl) (Nat.le_of_ble_eq_true rfl) (fun h3 => ?_)
      refine aw_ltm (fun u10 => ?_)
      refine aw_aload_n (i := 0) dX8_advance_75 76 rfl rfl 0 rfl ?_
      refine gf_X8_2 dX8_advance_76 79 rfl wd_67 (ok_6 (by decide)) ?_
      refine aw_iconst (x := 0) dX8_advance_79 80 rfl rfl ?_
      refine aw_aload_n (i := 1) dX8_advance_80 81 rfl rfl 1 rfl ?_
      refine gfN_X0_1 dX8_advance_81 84 rfl "SeaCells" (ns_29) (ok_2 ho1) ?_
      refine aw_iconst (x := 0) dX8_advance_84 85 rfl rfl ?_
      refine aw_aload_n (i := 1) dX8_advance_85 86 rfl rfl 1 rfl ?_
      refine aw_callV (M2 := m_X0_cells) (cv := q_cI) dX8_advance_86 89 rfl (k_X0_cells l G o1 ho1 u10) wd_71 wv_X0_cells pk_X0_cells rfl rfl ⟨by decide, by decide⟩ ⟨Nat.zero_le _, Nat.zero_le _⟩ at_2 (ok_2 ho1) rfl rfl rfl (Nat.le_of_ble_eq_true rfl) (fun x6 u11 => ?_)
      show qAW l G m_X8_advance (q_mq G q_cI) 89 [(0, .ref (q_ad G 6 0)), (1, .ref (q_ad G 2 o1)), (2, .ref (q_ad G 1 0)), (3, .int x1)] [.int x6, .int 0, .ref (q_ad G 38 o1), .int 0, .ref (q_ad G 49 0)] u11 _
      refine aw_copy dX8_advance_89 92 rfl wd_72 wd_29 wd_30 wd_31 at_49 (al_49 _) (ok_49 (by decide)) at_38 (al_38 _) (ok_38 ho1) (Nat.le_of_ble_eq_true rfl) (Nat.le_of_ble_eq_true rfl) (fun h4 => ?_)
      refine aw_ltm (fun u12 => ?_)
      refine aw_aload_n (i := 1) dX8_advance_92 93 rfl rfl 1 rfl ?_
      refine aw_dup dX8_advance_93 94 rfl rfl ?_
      refine gfN_X0_15 dX8_advance_94 97 rfl "SeaCells" (ns_51) (ok_2 ho1) ?_
      refine aw_iload_n (i := 3) dX8_advance_97 98 rfl rfl 3 rfl ?_
      refine aw_iadd dX8_advance_98 99 rfl ?_
      refine pfN_X0_15 dX8_advance_99 102 rfl "SeaCells" (ns_51) (ok_2 ho1) ?_
      refine aw_ltm (fun u13 => ?_)
      refine aw_aload_n (i := 1) dX8_advance_102 103 rfl rfl 1 rfl ?_
      refine aw_aload_n (i := 2) dX8_advance_103 104 rfl rfl 2 rfl ?_
      refine aw_callV (M2 := m_X0_hasTide) (cv := q_cI) dX8_advance_104 107 rfl (k_X0_hasTide l G o1 ho1 u13) wd_92 wv_X0_hasTide pk_X0_hasTide rfl rfl ⟨by decide, by decide⟩ ⟨Nat.zero_le _, Nat.zero_le _⟩ at_2 (ok_2 ho1) rfl rfl rfl (Nat.le_of_ble_eq_true rfl) (fun x7 u14 => ?_)
      show qAW l G m_X8_advance (q_mq G q_cI) 107 [(0, .ref (q_ad G 6 0)), (1, .ref (q_ad G 2 o1)), (2, .ref (q_ad G 1 0)), (3, .int x1)] [.int x7] u14 _
      refine aw_jn (fun k => ∀  (u15 : qM), qAW l G m_X8_advance (q_mq G q_cI) 119 [(1, .ref (q_ad G 2 o1))] [] u15 (k u15)) ?_ ?_
      · intro u15
        refine aw_aload_n (i := 1) dX8_advance_119 120 rfl rfl 0 rfl ?_
        refine aw_dup dX8_advance_120 121 rfl rfl ?_
        refine gfN_X0_14 dX8_advance_121 124 rfl "SeaCells" (ns_50) (ok_2 ho1) ?_
        refine aw_iconst (x := 1) dX8_advance_124 125 rfl rfl ?_
        refine aw_iadd dX8_advance_125 126 rfl ?_
        refine pfN_X0_14 dX8_advance_126 129 rfl "SeaCells" (ns_50) (ok_2 ho1) ?_
        refine aw_ltm (fun u16 => ?_)
        refine aw_iconst (x := 1) dX8_advance_129 130 rfl rfl ?_
        exact aw_zret dX8_advance_130 rfl (by decide)
      · intro j1 hj1
        refine aw_if_eq dX8_advance_107 110 rfl 119 rfl (fun h5 => ?_) (fun h5 => ?_)
        · exact aw_conv [1] rfl (hj1 u14)
        · refine aw_aload_n (i := 1) dX8_advance_110 111 rfl rfl 1 rfl ?_
          refine aw_aload_n (i := 1) dX8_advance_111 112 rfl rfl 1 rfl ?_
          refine aw_aload_n (i := 2) dX8_advance_112 113 rfl rfl 2 rfl ?_
          refine aw_callV (M2 := m_X0_tideLevel) (cv := q_cI) dX8_advance_113 116 rfl (k_X0_tideLevel l G o1 ho1 u14) wd_93 wv_X0_tideLevel pk_X0_tideLevel rfl rfl ⟨by decide, by decide⟩ ⟨Nat.zero_le _, Nat.zero_le _⟩ at_2 (ok_2 ho1) rfl rfl rfl (Nat.le_of_ble_eq_true rfl) (fun x8 u17 => ?_)
          show qAW l G m_X8_advance (q_mq G q_cI) 116 [(0, .ref (q_ad G 6 0)), (1, .ref (q_ad G 2 o1)), (2, .ref (q_ad G 1 0)), (3, .int x1)] [.int x8, .ref (q_ad G 2 o1)] u17 _
          refine aw_callS (M2 := m_X8_leadRim) (cv := q_cU) dX8_advance_116 119 rfl (k_X8_leadRim l G o1 x8 ho1 u17) wd_94 wv_X8_leadRim pk_X8_leadRim rfl ⟨by decide, by decide⟩ ⟨Nat.zero_le _, Nat.zero_le _⟩ rfl (Nat.le_of_ble_eq_true rfl) (fun _z u18 => ?_)
          show qAW l G m_X8_advance (q_mq G q_cI) 119 [(0, .ref (q_ad G 6 0)), (1, .ref (q_ad G 2 o1)), (2, .ref (q_ad G 1 0)), (3, .int x1)] [] u18 _
          exact aw_conv [1] rfl (hj1 u18)
  · refine aw_iconst (x := 0) dX8_advance_29 30 rfl rfl ?_
    exact aw_zret dX8_advance_30 rfl (by decide)
theorem dX10_found_0 : decode cX10_found 0 = .ok (.aload_n 0, 1) := by decide +kernel
theorem dX10_found_1 : decode cX10_found 1 = .ok (.iload_n 1, 1) := by decide +kernel
theorem dX10_found_2 : decode cX10_found 2 = .ok (.putfield 460, 3) := by decide +kernel
theorem dX10_found_5 : decode cX10_found 5 = .ok (.aload_n 0, 1) := by decide +kernel
theorem dX10_found_6 : decode cX10_found 6 = .ok (.getfield 78, 3) := by decide +kernel
theorem dX10_found_9 : decode cX10_found 9 = .ok (.iload_n 1, 1) := by decide +kernel
theorem dX10_found_10 : decode cX10_found 10 = .ok (.dup2, 1) := by decide +kernel
theorem dX10_found_11 : decode cX10_found 11 = .ok (.iaload, 1) := by decide +kernel
theorem dX10_found_12 : decode cX10_found 12 = .ok (.iconst 1, 1) := by decide +kernel
theorem dX10_found_13 : decode cX10_found 13 = .ok (.iadd, 1) := by decide +kernel
theorem dX10_found_14 : decode cX10_found 14 = .ok (.iastore, 1) := by decide +kernel
theorem dX10_found_15 : decode cX10_found 15 = .ok (.bipush (-3), 2) := by decide +kernel
theorem dX10_found_17 : decode cX10_found 17 = .ok (.ireturn, 1) := by decide +kernel
noncomputable def f_X10_found (x1 : Int32) (u0 : qM) : Option (Int32 × qM) :=
  q_lt (q_si u0 0 0 16 x1) (fun (u1 : qM) => q_ck (q_in x1 6) (q_ck (q_in x1 6) (q_lt (q_si u1 36 0 (Int32.toNatClampNeg x1) ((u1.1 36 0 (Int32.toNatClampNeg x1)) + 1)) (fun (u2 : qM) => some ((-3), u2)))))
set_option maxRecDepth 100000 in
set_option maxHeartbeats 4000000 in
theorem k_X10_found (l : Launch) (G : qG) (x1 : Int32)  (u0 : qM) : qCt l G m_X10_found q_cI [.ref (q_ad G 0 0), .int x1] u0 (f_X10_found x1 u0) := by
  refine q_entry pk_X10_found (Nat.le_of_ble_eq_true rfl) ?_
  show qAW l G m_X10_found (q_mq G q_cI) 0 [(0, .ref (q_ad G 0 0)), (1, .int x1)] [] u0 (f_X10_found x1 u0)
  unfold f_X10_found
  refine aw_aload_n (i := 0) dX10_found_0 1 rfl rfl 0 rfl ?_
  refine aw_iload_n (i := 1) dX10_found_1 2 rfl rfl 1 rfl ?_
  refine pf_X10_16 dX10_found_2 5 rfl wd_95 (ok_0 (by decide)) ?_
  refine aw_ltm (fun u1 => ?_)
  refine aw_aload_n (i := 0) dX10_found_5 6 rfl rfl 0 rfl ?_
  refine gf_X10_13 dX10_found_6 9 rfl wd_96 (ok_0 (by decide)) ?_
  refine aw_iload_n (i := 1) dX10_found_9 10 rfl rfl 1 rfl ?_
  refine aw_dup2 dX10_found_10 11 rfl rfl rfl ?_
  refine aw_iald dX10_found_11 12 rfl at_36 (al_36 _) (ok_36 (by decide)) (fun h1 => ?_)
  refine aw_iconst (x := 1) dX10_found_12 13 rfl rfl ?_
  refine aw_iadd dX10_found_13 14 rfl ?_
  refine aw_iast dX10_found_14 15 rfl at_36 (al_36 _) (ok_36 (by decide)) (fun h2 => ?_)
  refine aw_ltm (fun u2 => ?_)
  refine aw_bipush (x := (-3)) dX10_found_15 17 rfl rfl ?_
  exact aw_iret dX10_found_17 rfl
theorem dX10_row_0 : decode cX10_row 0 = .ok (.aload_n 0, 1) := by decide +kernel
theorem dX10_row_1 : decode cX10_row 1 = .ok (.getfield 14, 3) := by decide +kernel
theorem dX10_row_4 : decode cX10_row 4 = .ok (.iload_n 1, 1) := by decide +kernel
theorem dX10_row_5 : decode cX10_row 5 = .ok (.invokevirtual 87, 3) := by decide +kernel
theorem dX10_row_8 : decode cX10_row 8 = .ok (.ifCond .eq 9, 3) := by decide +kernel
theorem dX10_row_11 : decode cX10_row 11 = .ok (.iload_n 2, 1) := by decide +kernel
theorem dX10_row_12 : decode cX10_row 12 = .ok (.bipush 48, 2) := by decide +kernel
theorem dX10_row_14 : decode cX10_row 14 = .ok (.if_icmp .le 5, 3) := by decide +kernel
theorem dX10_row_17 : decode cX10_row 17 = .ok (.iconst (-1), 1) := by decide +kernel
theorem dX10_row_18 : decode cX10_row 18 = .ok (.ireturn, 1) := by decide +kernel
theorem dX10_row_19 : decode cX10_row 19 = .ok (.iload_n 2, 1) := by decide +kernel
theorem dX10_row_20 : decode cX10_row 20 = .ok (.ifCond .ge 9, 3) := by decide +kernel
theorem dX10_row_23 : decode cX10_row 23 = .ok (.aload_n 0, 1) := by decide +kernel
theorem dX10_row_24 : decode cX10_row 24 = .ok (.iconst 5, 1) := by decide +kernel
theorem dX10_row_25 : decode cX10_row 25 = .ok (.invokevirtual 91, 3) := by decide +kernel
theorem dX10_row_28 : decode cX10_row 28 = .ok (.ireturn, 1) := by decide +kernel
theorem dX10_row_29 : decode cX10_row 29 = .ok (.aload_n 0, 1) := by decide +kernel
theorem dX10_row_30 : decode cX10_row 30 = .ok (.getfield 14, 3) := by decide +kernel
theorem dX10_row_33 : decode cX10_row 33 = .ok (.iload_n 1, 1) := by decide +kernel
theorem dX10_row_34 : decode cX10_row 34 = .ok (.iload_n 2, 1) := by decide +kernel
theorem dX10_row_35 : decode cX10_row 35 = .ok (.iconst 0, 1) := by decide +kernel
theorem dX10_row_36 : decode cX10_row 36 = .ok (.invokevirtual 95, 3) := by decide +kernel
theorem dX10_row_39 : decode cX10_row 39 = .ok (.iload_n 2, 1) := by decide +kernel
theorem dX10_row_40 : decode cX10_row 40 = .ok (.ireturn, 1) := by decide +kernel
noncomputable def f_X10_row (x1 : Int32) (x2 : Int32) (u0 : qM) : Option (Int32 × qM) :=
  q_bd (f_X7_isNumber 0 x1 u0) (fun (x3 : Int32) (u1 : qM) => q_jn (fun  (u2 : qM) => some ((-1), u2)) (fun j1 => if x3 = 0 then j1 u1 else if x2 ≤ 48 then if (0 : Int32) ≤ x2 then q_bd (f_X7_make 0 x1 x2 0 u1) (fun (_z : Unit) (u3 : qM) => some (x2, u3)) else q_bd (f_X10_found 5 u1) (fun (x4 : Int32) (u4 : qM) => some (x4, u4)) else j1 u1))
set_option maxRecDepth 100000 in
set_option maxHeartbeats 4000000 in
theorem k_X10_row (l : Launch) (G : qG) (x1 : Int32) (x2 : Int32)  (u0 : qM) : qCt l G m_X10_row q_cI [.ref (q_ad G 0 0), .int x1, .int x2] u0 (f_X10_row x1 x2 u0) := by
  refine q_entry pk_X10_row (Nat.le_of_ble_eq_true rfl) ?_
  show qAW l G m_X10_row (q_mq G q_cI) 0 [(0, .ref (q_ad G 0 0)), (1, .int x1), (2, .int x2)] [] u0 (f_X10_row x1 x2 u0)
  unfold f_X10_row
  refine aw_aload_n (i := 0) dX10_row_0 1 rfl rfl 0 rfl ?_
  refine gf_X10_0 dX10_row_1 4 rfl wd_97 (ok_0 (by decide)) ?_
  refine aw_iload_n (i := 1) dX10_row_4 5 rfl rfl 1 rfl ?_
  refine aw_callV (M2 := m_X7_isNumber) (cv := q_cI) dX10_row_5 8 rfl (k_X7_isNumber l G 0 x1 (by decide) u0) wd_98 wv_X7_isNumber pk_X7_isNumber rfl rfl ⟨by decide, by decide⟩ ⟨Nat.zero_le _, Nat.zero_le _⟩ at_1 (ok_1 (by decide)) rfl rfl rfl (Nat.le_of_ble_eq_true rfl) (fun x3 u1 => ?_)
  show qAW l G m_X10_row (q_mq G q_cI) 8 [(0, .ref (q_ad G 0 0)), (1, .int x1), (2, .int x2)] [.int x3] u1 _
  refine aw_jn (fun k => ∀  (u2 : qM), qAW l G m_X10_row (q_mq G q_cI) 17 [] [] u2 (k u2)) ?_ ?_
  · intro u2
    refine aw_iconst (x := (-1)) dX10_row_17 18 rfl rfl ?_
    exact aw_iret dX10_row_18 rfl
  · intro j1 hj1
    refine aw_if_eq dX10_row_8 11 rfl 17 rfl (fun h1 => ?_) (fun h1 => ?_)
    · exact aw_conv [] rfl (hj1 u1)
    · refine aw_iload_n (i := 2) dX10_row_11 12 rfl rfl 2 rfl ?_
      refine aw_bipush (x := 48) dX10_row_12 14 rfl rfl ?_
      refine aw_icmp_le dX10_row_14 17 rfl 19 rfl (fun h2 => ?_) (fun h2 => ?_)
      · refine aw_iload_n (i := 2) dX10_row_19 20 rfl rfl 2 rfl ?_
        refine aw_if_ge dX10_row_20 23 rfl 29 rfl (fun h3 => ?_) (fun h3 => ?_)
        · refine aw_aload_n (i := 0) dX10_row_29 30 rfl rfl 0 rfl ?_
          refine gf_X10_0 dX10_row_30 33 rfl wd_97 (ok_0 (by decide)) ?_
          refine aw_iload_n (i := 1) dX10_row_33 34 rfl rfl 1 rfl ?_
          refine aw_iload_n (i := 2) dX10_row_34 35 rfl rfl 2 rfl ?_
          refine aw_iconst (x := 0) dX10_row_35 36 rfl rfl ?_
          refine aw_callV (M2 := m_X7_make) (cv := q_cU) dX10_row_36 39 rfl (k_X7_make l G 0 x1 x2 0 (by decide) u1) wd_99 wv_X7_make pk_X7_make rfl rfl ⟨by decide, by decide⟩ ⟨Nat.zero_le _, Nat.zero_le _⟩ at_1 (ok_1 (by decide)) rfl rfl rfl (Nat.le_of_ble_eq_true rfl) (fun _z u3 => ?_)
          show qAW l G m_X10_row (q_mq G q_cI) 39 [(0, .ref (q_ad G 0 0)), (1, .int x1), (2, .int x2)] [] u3 _
          refine aw_iload_n (i := 2) dX10_row_39 40 rfl rfl 2 rfl ?_
          exact aw_iret dX10_row_40 rfl
        · refine aw_aload_n (i := 0) dX10_row_23 24 rfl rfl 0 rfl ?_
          refine aw_iconst (x := 5) dX10_row_24 25 rfl rfl ?_
          refine aw_callV (M2 := m_X10_found) (cv := q_cI) dX10_row_25 28 rfl (k_X10_found l G 5  u1) wd_100 wv_X10_found pk_X10_found rfl rfl ⟨by decide, by decide⟩ ⟨Nat.zero_le _, Nat.zero_le _⟩ at_0 (ok_0 (by decide)) rfl rfl rfl (Nat.le_of_ble_eq_true rfl) (fun x4 u4 => ?_)
          show qAW l G m_X10_row (q_mq G q_cI) 28 [(0, .ref (q_ad G 0 0)), (1, .int x1), (2, .int x2)] [.int x4] u4 _
          exact aw_iret dX10_row_28 rfl
      · exact aw_conv [] rfl (hj1 u1)
theorem dX10_within_0 : decode cX10_within 0 = .ok (.iload_n 0, 1) := by decide +kernel
theorem dX10_within_1 : decode cX10_within 1 = .ok (.iload_n 1, 1) := by decide +kernel
theorem dX10_within_2 : decode cX10_within 2 = .ok (.if_icmp .lt 12, 3) := by decide +kernel
theorem dX10_within_5 : decode cX10_within 5 = .ok (.iload_n 0, 1) := by decide +kernel
theorem dX10_within_6 : decode cX10_within 6 = .ok (.iload_n 2, 1) := by decide +kernel
theorem dX10_within_7 : decode cX10_within 7 = .ok (.if_icmp .gt 7, 3) := by decide +kernel
theorem dX10_within_10 : decode cX10_within 10 = .ok (.iconst 1, 1) := by decide +kernel
theorem dX10_within_11 : decode cX10_within 11 = .ok (.goto 4, 3) := by decide +kernel
theorem dX10_within_14 : decode cX10_within 14 = .ok (.iconst 0, 1) := by decide +kernel
theorem dX10_within_15 : decode cX10_within 15 = .ok (.ireturn, 1) := by decide +kernel
noncomputable def f_X10_within (x1 : Int32) (x2 : Int32) (x3 : Int32) (u0 : qM) : Option (Int32 × qM) :=
  q_jn (fun (x4 : Int32) (u1 : qM) => q_ck (q_b x4) (some (x4, u1))) (fun j1 => q_jn (fun  (u2 : qM) => j1 0 u2) (fun j2 => if x1 < x2 then j2 u0 else if x3 < x1 then j2 u0 else j1 1 u0))
set_option maxRecDepth 100000 in
set_option maxHeartbeats 4000000 in
theorem k_X10_within (l : Launch) (G : qG) (x1 : Int32) (x2 : Int32) (x3 : Int32)  (u0 : qM) : qCt l G m_X10_within q_cI [.int x1, .int x2, .int x3] u0 (f_X10_within x1 x2 x3 u0) := by
  refine q_entry pk_X10_within (Nat.le_of_ble_eq_true rfl) ?_
  show qAW l G m_X10_within (q_mq G q_cI) 0 [(0, .int x1), (1, .int x2), (2, .int x3)] [] u0 (f_X10_within x1 x2 x3 u0)
  unfold f_X10_within
  refine aw_iload_n (i := 0) dX10_within_0 1 rfl rfl 0 rfl ?_
  refine aw_iload_n (i := 1) dX10_within_1 2 rfl rfl 1 rfl ?_
  refine aw_jn (fun k => ∀ (x4 : Int32) (u1 : qM), qAW l G m_X10_within (q_mq G q_cI) 15 [] [.int x4] u1 (k x4 u1)) ?_ ?_
  · intro x4 u1
    refine aw_ck (fun h2 => ?_)
    exact aw_zret dX10_within_15 rfl h2
  · intro j1 hj1
    refine aw_jn (fun k => ∀  (u2 : qM), qAW l G m_X10_within (q_mq G q_cI) 14 [] [] u2 (k u2)) ?_ ?_
    · intro u2
      refine aw_iconst (x := 0) dX10_within_14 15 rfl rfl ?_
      exact hj1 0 u2
    · intro j2 hj2
      refine aw_icmp_lt dX10_within_2 5 rfl 14 rfl (fun h1 => ?_) (fun h1 => ?_)
      · exact aw_conv [] rfl (hj2 u0)
      · refine aw_iload_n (i := 0) dX10_within_5 6 rfl rfl 0 rfl ?_
        refine aw_iload_n (i := 2) dX10_within_6 7 rfl rfl 2 rfl ?_
        refine aw_icmp_gt dX10_within_7 10 rfl 14 rfl (fun h3 => ?_) (fun h3 => ?_)
        · exact aw_conv [] rfl (hj2 u0)
        · refine aw_iconst (x := 1) dX10_within_10 11 rfl rfl ?_
          refine aw_goto dX10_within_11 15 rfl ?_
          exact aw_conv [] rfl (hj1 1 u0)
