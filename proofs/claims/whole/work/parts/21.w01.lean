theorem dX0_layOn_0 : decode cX0_layOn 0 = .ok (.iconst 0, 1) := by decide +kernel
theorem dX0_layOn_1 : decode cX0_layOn 1 = .ok (.istore_n 2, 1) := by decide +kernel
theorem dX0_layOn_2 : decode cX0_layOn 2 = .ok (.iload_n 2, 1) := by decide +kernel
theorem dX0_layOn_3 : decode cX0_layOn 3 = .ok (.aload_n 0, 1) := by decide +kernel
theorem dX0_layOn_4 : decode cX0_layOn 4 = .ok (.invokevirtual 153, 3) := by decide +kernel
theorem dX0_layOn_7 : decode cX0_layOn 7 = .ok (.iconst 4, 1) := by decide +kernel
theorem dX0_layOn_8 : decode cX0_layOn 8 = .ok (.idiv, 1) := by decide +kernel
theorem dX0_layOn_9 : decode cX0_layOn 9 = .ok (.if_icmp .ge 91, 3) := by decide +kernel
theorem dX0_layOn_12 : decode cX0_layOn 12 = .ok (.aload_n 0, 1) := by decide +kernel
theorem dX0_layOn_13 : decode cX0_layOn 13 = .ok (.iload_n 2, 1) := by decide +kernel
theorem dX0_layOn_14 : decode cX0_layOn 14 = .ok (.aload_n 1, 1) := by decide +kernel
theorem dX0_layOn_15 : decode cX0_layOn 15 = .ok (.invokevirtual 186, 3) := by decide +kernel
theorem dX0_layOn_18 : decode cX0_layOn 18 = .ok (.istore_n 3, 1) := by decide +kernel
theorem dX0_layOn_19 : decode cX0_layOn 19 = .ok (.iconst 0, 1) := by decide +kernel
theorem dX0_layOn_20 : decode cX0_layOn 20 = .ok (.istore 4, 2) := by decide +kernel
theorem dX0_layOn_22 : decode cX0_layOn 22 = .ok (.iload 4, 2) := by decide +kernel
theorem dX0_layOn_24 : decode cX0_layOn 24 = .ok (.iconst 4, 1) := by decide +kernel
theorem dX0_layOn_25 : decode cX0_layOn 25 = .ok (.if_icmp .ge 44, 3) := by decide +kernel
theorem dX0_layOn_28 : decode cX0_layOn 28 = .ok (.aload_n 0, 1) := by decide +kernel
theorem dX0_layOn_29 : decode cX0_layOn 29 = .ok (.iload_n 2, 1) := by decide +kernel
theorem dX0_layOn_30 : decode cX0_layOn 30 = .ok (.iload 4, 2) := by decide +kernel
theorem dX0_layOn_32 : decode cX0_layOn 32 = .ok (.invokevirtual 190, 3) := by decide +kernel
theorem dX0_layOn_35 : decode cX0_layOn 35 = .ok (.istore 5, 2) := by decide +kernel
theorem dX0_layOn_37 : decode cX0_layOn 37 = .ok (.aload_n 0, 1) := by decide +kernel
theorem dX0_layOn_38 : decode cX0_layOn 38 = .ok (.getfield 9, 3) := by decide +kernel
theorem dX0_layOn_41 : decode cX0_layOn 41 = .ok (.iload 5, 2) := by decide +kernel
theorem dX0_layOn_43 : decode cX0_layOn 43 = .ok (.aload_n 1, 1) := by decide +kernel
theorem dX0_layOn_44 : decode cX0_layOn 44 = .ok (.getfield 9, 3) := by decide +kernel
theorem dX0_layOn_47 : decode cX0_layOn 47 = .ok (.iload_n 3, 1) := by decide +kernel
theorem dX0_layOn_48 : decode cX0_layOn 48 = .ok (.iaload, 1) := by decide +kernel
theorem dX0_layOn_49 : decode cX0_layOn 49 = .ok (.iastore, 1) := by decide +kernel
theorem dX0_layOn_50 : decode cX0_layOn 50 = .ok (.aload_n 0, 1) := by decide +kernel
theorem dX0_layOn_51 : decode cX0_layOn 51 = .ok (.getfield 15, 3) := by decide +kernel
theorem dX0_layOn_54 : decode cX0_layOn 54 = .ok (.iload 5, 2) := by decide +kernel
theorem dX0_layOn_56 : decode cX0_layOn 56 = .ok (.aload_n 1, 1) := by decide +kernel
theorem dX0_layOn_57 : decode cX0_layOn 57 = .ok (.getfield 15, 3) := by decide +kernel
theorem dX0_layOn_60 : decode cX0_layOn 60 = .ok (.iload_n 3, 1) := by decide +kernel
theorem dX0_layOn_61 : decode cX0_layOn 61 = .ok (.iaload, 1) := by decide +kernel
theorem dX0_layOn_62 : decode cX0_layOn 62 = .ok (.iastore, 1) := by decide +kernel
theorem dX0_layOn_63 : decode cX0_layOn 63 = .ok (.iinc 4 1, 3) := by decide +kernel
theorem dX0_layOn_66 : decode cX0_layOn 66 = .ok (.goto (-44), 3) := by decide +kernel
theorem dX0_layOn_69 : decode cX0_layOn 69 = .ok (.aload_n 0, 1) := by decide +kernel
theorem dX0_layOn_70 : decode cX0_layOn 70 = .ok (.getfield 45, 3) := by decide +kernel
theorem dX0_layOn_73 : decode cX0_layOn 73 = .ok (.getfield 193, 3) := by decide +kernel
theorem dX0_layOn_76 : decode cX0_layOn 76 = .ok (.iload_n 2, 1) := by decide +kernel
theorem dX0_layOn_77 : decode cX0_layOn 77 = .ok (.aload_n 1, 1) := by decide +kernel
theorem dX0_layOn_78 : decode cX0_layOn 78 = .ok (.getfield 15, 3) := by decide +kernel
theorem dX0_layOn_81 : decode cX0_layOn 81 = .ok (.iload_n 3, 1) := by decide +kernel
theorem dX0_layOn_82 : decode cX0_layOn 82 = .ok (.iaload, 1) := by decide +kernel
theorem dX0_layOn_83 : decode cX0_layOn 83 = .ok (.iastore, 1) := by decide +kernel
theorem dX0_layOn_84 : decode cX0_layOn 84 = .ok (.aload_n 0, 1) := by decide +kernel
theorem dX0_layOn_85 : decode cX0_layOn 85 = .ok (.getfield 45, 3) := by decide +kernel
theorem dX0_layOn_88 : decode cX0_layOn 88 = .ok (.getfield 156, 3) := by decide +kernel
theorem dX0_layOn_91 : decode cX0_layOn 91 = .ok (.iload_n 2, 1) := by decide +kernel
theorem dX0_layOn_92 : decode cX0_layOn 92 = .ok (.iconst 0, 1) := by decide +kernel
theorem dX0_layOn_93 : decode cX0_layOn 93 = .ok (.iastore, 1) := by decide +kernel
theorem dX0_layOn_94 : decode cX0_layOn 94 = .ok (.iinc 2 1, 3) := by decide +kernel
theorem dX0_layOn_97 : decode cX0_layOn 97 = .ok (.goto (-95), 3) := by decide +kernel
theorem dX0_layOn_100 : decode cX0_layOn 100 = .ok (.return_, 1) := by decide +kernel
noncomputable def L_X0_layOn_22 (o1 : Nat) (o2 : Nat) (x1 : Int32) (x3 : Int32) : Nat → Int32 → qM → (qM → Option (Unit × qM)) → Option (Unit × qM)
  | 0, _, _, _ => none
  | n + 1, x4, u4, e1 => if 4 ≤ x4 then e1 u4 else q_bd (f_X0_fineCell o1 x1 x4 u4) (fun (x5 : Int32) (u5 : qM) => q_ck (q_in x3 48) (q_ck (q_in x5 48) (q_lt (q_si u5 37 o1 (Int32.toNatClampNeg x5) (u5.1 37 o2 (Int32.toNatClampNeg x3))) (fun (u6 : qM) => q_ck (q_in x3 48) (q_ck (q_in x5 48) (q_lt (q_si u6 38 o1 (Int32.toNatClampNeg x5) (u6.1 38 o2 (Int32.toNatClampNeg x3))) (fun (u7 : qM) => q_lt (x4 + 1) (fun (x6 : Int32) => L_X0_layOn_22 o1 o2 x1 x3 n x6 u7 e1))))))))
noncomputable def L_X0_layOn_2 (o1 : Nat) (o2 : Nat) : Nat → Int32 → qM → (qM → Option (Unit × qM)) → Option (Unit × qM)
  | 0, _, _, _ => none
  | n + 1, x1, u1, e1 => q_bd (f_X0_cells o1 u1) (fun (x2 : Int32) (u2 : qM) => if (x2 / 4) ≤ x1 then e1 u2 else q_bd (f_X0_underCell o1 x1 o2 u2) (fun (x3 : Int32) (u3 : qM) => L_X0_layOn_22 o1 o2 x1 x3 q_fu 0 u3 (fun u8 => q_ck (q_in x3 48) (q_ck (q_in x1 12) (q_lt (q_si u8 45 o1 (Int32.toNatClampNeg x1) (u8.1 38 o2 (Int32.toNatClampNeg x3))) (fun (u9 : qM) => q_ck (q_in x1 12) (q_lt (q_si u9 46 o1 (Int32.toNatClampNeg x1) 0) (fun (u10 : qM) => q_lt (x1 + 1) (fun (x7 : Int32) => L_X0_layOn_2 o1 o2 n x7 u10 e1)))))))))
noncomputable def f_X0_layOn (o1 : Nat) (o2 : Nat) (u0 : qM) : Option (Unit × qM) :=
  L_X0_layOn_2 o1 o2 q_fu 0 u0 (fun u11 => some ((), u11))
set_option maxRecDepth 100000 in
set_option maxHeartbeats 4000000 in
theorem TL_X0_layOn_22 (l : Launch) (G : qG) (o1 : Nat) (o2 : Nat) (x1 : Int32) (x3 : Int32) (q3 : o1 < 7) (q4 : o2 < 7) (e1 : qM → Option (Unit × qM)) (he1 : ∀  (v : qM), qAW l G m_X0_layOn (q_mq G q_cU) 69 [(0, .ref (q_ad G 2 o1)), (1, .ref (q_ad G 2 o2)), (2, .int x1), (3, .int x3)] [] v (e1 v)) : ∀ (n : Nat) (x4 : Int32) (u4 : qM), qAW l G m_X0_layOn (q_mq G q_cU) 22 [(0, .ref (q_ad G 2 o1)), (1, .ref (q_ad G 2 o2)), (2, .int x1), (3, .int x3), (4, .int x4)] [] u4 (L_X0_layOn_22 o1 o2 x1 x3 n x4 u4 e1) := by
  intro n
  induction n with
  | zero => intros; exact aw_none
  | succ n ih =>
    intro x4 u4
    unfold L_X0_layOn_22
    refine aw_iload (i := 4) dX0_layOn_22 24 rfl 4 rfl ?_
    refine aw_iconst (x := 4) dX0_layOn_24 25 rfl rfl ?_
    refine aw_icmp_ge dX0_layOn_25 28 rfl 69 rfl (fun h2 => ?_) (fun h2 => ?_)
    · exact aw_conv [0, 1, 2, 3] rfl (he1 u4)
    · refine aw_aload_n (i := 0) dX0_layOn_28 29 rfl rfl 0 rfl ?_
      refine aw_iload_n (i := 2) dX0_layOn_29 30 rfl rfl 2 rfl ?_
      refine aw_iload (i := 4) dX0_layOn_30 32 rfl 4 rfl ?_
      refine aw_callV (M2 := m_X0_fineCell) (cv := q_cI) dX0_layOn_32 35 rfl (k_X0_fineCell l G o1 x1 x4 q3 u4) wd_52 wv_X0_fineCell pk_X0_fineCell rfl rfl ⟨by decide, by decide⟩ ⟨Nat.zero_le _, Nat.zero_le _⟩ at_2 (ok_2 q3) rfl rfl rfl (Nat.le_of_ble_eq_true rfl) (fun x5 u5 => ?_)
      show qAW l G m_X0_layOn (q_mq G q_cU) 35 [(0, .ref (q_ad G 2 o1)), (1, .ref (q_ad G 2 o2)), (2, .int x1), (3, .int x3), (4, .int x4)] [.int x5] u5 _
      refine aw_istore dX0_layOn_35 37 rfl [(5, .int x5), (0, .ref (q_ad G 2 o1)), (1, .ref (q_ad G 2 o2)), (2, .int x1), (3, .int x3), (4, .int x4)] (by decide) rfl ?_
      refine aw_aload_n (i := 0) dX0_layOn_37 38 rfl rfl 1 rfl ?_
      refine gf_X0_0 dX0_layOn_38 41 rfl wd_18 (ok_2 q3) ?_
      refine aw_iload (i := 5) dX0_layOn_41 43 rfl 0 rfl ?_
      refine aw_aload_n (i := 1) dX0_layOn_43 44 rfl rfl 2 rfl ?_
      refine gf_X0_0 dX0_layOn_44 47 rfl wd_18 (ok_2 q4) ?_
      refine aw_iload_n (i := 3) dX0_layOn_47 48 rfl rfl 4 rfl ?_
      refine aw_iald dX0_layOn_48 49 rfl at_37 (al_37 _) (ok_37 q4) (fun h3 => ?_)
      refine aw_iast dX0_layOn_49 50 rfl at_37 (al_37 _) (ok_37 q3) (fun h4 => ?_)
      refine aw_ltm (fun u6 => ?_)
      refine aw_aload_n (i := 0) dX0_layOn_50 51 rfl rfl 1 rfl ?_
      refine gf_X0_1 dX0_layOn_51 54 rfl wd_19 (ok_2 q3) ?_
      refine aw_iload (i := 5) dX0_layOn_54 56 rfl 0 rfl ?_
      refine aw_aload_n (i := 1) dX0_layOn_56 57 rfl rfl 2 rfl ?_
      refine gf_X0_1 dX0_layOn_57 60 rfl wd_19 (ok_2 q4) ?_
      refine aw_iload_n (i := 3) dX0_layOn_60 61 rfl rfl 4 rfl ?_
      refine aw_iald dX0_layOn_61 62 rfl at_38 (al_38 _) (ok_38 q4) (fun h5 => ?_)
      refine aw_iast dX0_layOn_62 63 rfl at_38 (al_38 _) (ok_38 q3) (fun h6 => ?_)
      refine aw_ltm (fun u7 => ?_)
      refine aw_iincx (i := 4) dX0_layOn_63 66 rfl 5 rfl 1 rfl (fun x6 => [(4, .int x6), (5, .int x5), (0, .ref (q_ad G 2 o1)), (1, .ref (q_ad G 2 o2)), (2, .int x1), (3, .int x3)]) (by decide) (fun _ => rfl) (fun x6 => ?_)
      refine aw_goto dX0_layOn_66 22 rfl ?_
      exact aw_conv [2, 3, 4, 5, 0] rfl (ih x6 u7)
set_option maxRecDepth 100000 in
set_option maxHeartbeats 4000000 in
theorem TL_X0_layOn_2 (l : Launch) (G : qG) (o1 : Nat) (o2 : Nat) (q1 : o1 < 7) (q2 : o2 < 7) (e1 : qM → Option (Unit × qM)) (he1 : ∀  (v : qM), qAW l G m_X0_layOn (q_mq G q_cU) 100 [] [] v (e1 v)) : ∀ (n : Nat) (x1 : Int32) (u1 : qM), qAW l G m_X0_layOn (q_mq G q_cU) 2 [(0, .ref (q_ad G 2 o1)), (1, .ref (q_ad G 2 o2)), (2, .int x1)] [] u1 (L_X0_layOn_2 o1 o2 n x1 u1 e1) := by
  intro n
  induction n with
  | zero => intros; exact aw_none
  | succ n ih =>
    intro x1 u1
    unfold L_X0_layOn_2
    refine aw_iload_n (i := 2) dX0_layOn_2 3 rfl rfl 2 rfl ?_
    refine aw_aload_n (i := 0) dX0_layOn_3 4 rfl rfl 0 rfl ?_
    refine aw_callV (M2 := m_X0_cells) (cv := q_cI) dX0_layOn_4 7 rfl (k_X0_cells l G o1 q1 u1) wd_43 wv_X0_cells pk_X0_cells rfl rfl ⟨by decide, by decide⟩ ⟨Nat.zero_le _, Nat.zero_le _⟩ at_2 (ok_2 q1) rfl rfl rfl (Nat.le_of_ble_eq_true rfl) (fun x2 u2 => ?_)
    show qAW l G m_X0_layOn (q_mq G q_cU) 7 [(0, .ref (q_ad G 2 o1)), (1, .ref (q_ad G 2 o2)), (2, .int x1)] [.int x2, .int x1] u2 _
    refine aw_iconst (x := 4) dX0_layOn_7 8 rfl rfl ?_
    refine aw_idiv dX0_layOn_8 9 rfl (by decide) ?_
    refine aw_icmp_ge dX0_layOn_9 12 rfl 100 rfl (fun h1 => ?_) (fun h1 => ?_)
    · exact aw_conv [] rfl (he1 u2)
    · refine aw_aload_n (i := 0) dX0_layOn_12 13 rfl rfl 0 rfl ?_
      refine aw_iload_n (i := 2) dX0_layOn_13 14 rfl rfl 2 rfl ?_
      refine aw_aload_n (i := 1) dX0_layOn_14 15 rfl rfl 1 rfl ?_
      refine aw_callV (M2 := m_X0_underCell) (cv := q_cI) dX0_layOn_15 18 rfl (k_X0_underCell l G o1 x1 o2 q1 q2 u2) wd_51 wv_X0_underCell pk_X0_underCell rfl rfl ⟨by decide, by decide⟩ ⟨Nat.zero_le _, Nat.zero_le _⟩ at_2 (ok_2 q1) rfl rfl rfl (Nat.le_of_ble_eq_true rfl) (fun x3 u3 => ?_)
      show qAW l G m_X0_layOn (q_mq G q_cU) 18 [(0, .ref (q_ad G 2 o1)), (1, .ref (q_ad G 2 o2)), (2, .int x1)] [.int x3] u3 _
      refine aw_istore_n dX0_layOn_18 19 rfl rfl [(3, .int x3), (0, .ref (q_ad G 2 o1)), (1, .ref (q_ad G 2 o2)), (2, .int x1)] (by decide) rfl ?_
      refine aw_iconst (x := 0) dX0_layOn_19 20 rfl rfl ?_
      refine aw_istore dX0_layOn_20 22 rfl [(4, .int 0), (3, .int x3), (0, .ref (q_ad G 2 o1)), (1, .ref (q_ad G 2 o2)), (2, .int x1)] (by decide) rfl ?_
      refine aw_conv [2, 3, 4, 1, 0] rfl (TL_X0_layOn_22 l G o1 o2 x1 x3 q1 q2 _ ?_ _ 0 u3)
      · intro u8
        refine aw_aload_n (i := 0) dX0_layOn_69 70 rfl rfl 0 rfl ?_
        refine gf_X0_7 dX0_layOn_70 73 rfl wd_17 (ok_2 q1) ?_
        refine gfN_X4_0 dX0_layOn_73 76 rfl "SeaCells" (ns_21) (ok_5 q1) ?_
        refine aw_iload_n (i := 2) dX0_layOn_76 77 rfl rfl 2 rfl ?_
        refine aw_aload_n (i := 1) dX0_layOn_77 78 rfl rfl 1 rfl ?_
        refine gf_X0_1 dX0_layOn_78 81 rfl wd_19 (ok_2 q2) ?_
        refine aw_iload_n (i := 3) dX0_layOn_81 82 rfl rfl 3 rfl ?_
        refine aw_iald dX0_layOn_82 83 rfl at_38 (al_38 _) (ok_38 q2) (fun h7 => ?_)
        refine aw_iast dX0_layOn_83 84 rfl at_45 (al_45 _) (ok_45 q1) (fun h8 => ?_)
        refine aw_ltm (fun u9 => ?_)
        refine aw_aload_n (i := 0) dX0_layOn_84 85 rfl rfl 0 rfl ?_
        refine gf_X0_7 dX0_layOn_85 88 rfl wd_17 (ok_2 q1) ?_
        refine gfN_X4_1 dX0_layOn_88 91 rfl "SeaCells" (ns_22) (ok_5 q1) ?_
        refine aw_iload_n (i := 2) dX0_layOn_91 92 rfl rfl 2 rfl ?_
        refine aw_iconst (x := 0) dX0_layOn_92 93 rfl rfl ?_
        refine aw_iast dX0_layOn_93 94 rfl at_46 (al_46 _) (ok_46 q1) (fun h9 => ?_)
        refine aw_ltm (fun u10 => ?_)
        refine aw_iincx (i := 2) dX0_layOn_94 97 rfl 2 rfl 1 rfl (fun x7 => [(2, .int x7), (0, .ref (q_ad G 2 o1)), (1, .ref (q_ad G 2 o2)), (3, .int x3)]) (by decide) (fun _ => rfl) (fun x7 => ?_)
        refine aw_goto dX0_layOn_97 2 rfl ?_
        exact aw_conv [1, 2, 0] rfl (ih x7 u10)
set_option maxRecDepth 100000 in
set_option maxHeartbeats 4000000 in
theorem k_X0_layOn (l : Launch) (G : qG) (o1 : Nat) (o2 : Nat) (ho1 : o1 < 7) (ho2 : o2 < 7) (u0 : qM) : qCt l G m_X0_layOn q_cU [.ref (q_ad G 2 o1), .ref (q_ad G 2 o2)] u0 (f_X0_layOn o1 o2 u0) := by
  refine q_entry pk_X0_layOn (Nat.le_of_ble_eq_true rfl) ?_
  show qAW l G m_X0_layOn (q_mq G q_cU) 0 [(0, .ref (q_ad G 2 o1)), (1, .ref (q_ad G 2 o2))] [] u0 (f_X0_layOn o1 o2 u0)
  unfold f_X0_layOn
  refine aw_iconst (x := 0) dX0_layOn_0 1 rfl rfl ?_
  refine aw_istore_n dX0_layOn_1 2 rfl rfl [(2, .int 0), (0, .ref (q_ad G 2 o1)), (1, .ref (q_ad G 2 o2))] (by decide) rfl ?_
  refine aw_conv [1, 2, 0] rfl (TL_X0_layOn_2 l G o1 o2 ho1 ho2 _ ?_ _ 0 u0)
  · intro u11
    exact aw_vret dX0_layOn_100 rfl
theorem dJ9_floorDiv_7cf53_0 : decode cJ9_floorDiv_7cf53 0 = .ok (.iload_n 0, 1) := by decide +kernel
theorem dJ9_floorDiv_7cf53_1 : decode cJ9_floorDiv_7cf53 1 = .ok (.iload_n 1, 1) := by decide +kernel
theorem dJ9_floorDiv_7cf53_2 : decode cJ9_floorDiv_7cf53 2 = .ok (.idiv, 1) := by decide +kernel
theorem dJ9_floorDiv_7cf53_3 : decode cJ9_floorDiv_7cf53 3 = .ok (.istore_n 2, 1) := by decide +kernel
theorem dJ9_floorDiv_7cf53_4 : decode cJ9_floorDiv_7cf53 4 = .ok (.iload_n 0, 1) := by decide +kernel
theorem dJ9_floorDiv_7cf53_5 : decode cJ9_floorDiv_7cf53 5 = .ok (.iload_n 1, 1) := by decide +kernel
theorem dJ9_floorDiv_7cf53_6 : decode cJ9_floorDiv_7cf53 6 = .ok (.ixor, 1) := by decide +kernel
theorem dJ9_floorDiv_7cf53_7 : decode cJ9_floorDiv_7cf53 7 = .ok (.ifCond .ge 14, 3) := by decide +kernel
theorem dJ9_floorDiv_7cf53_10 : decode cJ9_floorDiv_7cf53 10 = .ok (.iload_n 2, 1) := by decide +kernel
theorem dJ9_floorDiv_7cf53_11 : decode cJ9_floorDiv_7cf53 11 = .ok (.iload_n 1, 1) := by decide +kernel
theorem dJ9_floorDiv_7cf53_12 : decode cJ9_floorDiv_7cf53 12 = .ok (.imul, 1) := by decide +kernel
theorem dJ9_floorDiv_7cf53_13 : decode cJ9_floorDiv_7cf53 13 = .ok (.iload_n 0, 1) := by decide +kernel
theorem dJ9_floorDiv_7cf53_14 : decode cJ9_floorDiv_7cf53 14 = .ok (.if_icmp .eq 7, 3) := by decide +kernel
theorem dJ9_floorDiv_7cf53_17 : decode cJ9_floorDiv_7cf53 17 = .ok (.iload_n 2, 1) := by decide +kernel
theorem dJ9_floorDiv_7cf53_18 : decode cJ9_floorDiv_7cf53 18 = .ok (.iconst 1, 1) := by decide +kernel
theorem dJ9_floorDiv_7cf53_19 : decode cJ9_floorDiv_7cf53 19 = .ok (.isub, 1) := by decide +kernel
theorem dJ9_floorDiv_7cf53_20 : decode cJ9_floorDiv_7cf53 20 = .ok (.ireturn, 1) := by decide +kernel
theorem dJ9_floorDiv_7cf53_21 : decode cJ9_floorDiv_7cf53 21 = .ok (.iload_n 2, 1) := by decide +kernel
theorem dJ9_floorDiv_7cf53_22 : decode cJ9_floorDiv_7cf53 22 = .ok (.ireturn, 1) := by decide +kernel
noncomputable def f_J9_floorDiv_7cf53 (x1 : Int32) (x2 : Int32) (u0 : qM) : Option (Int32 × qM) :=
  q_ck (q_nz x2) (q_lt (x1 / x2) (fun (x3 : Int32) => q_jn (fun  (u1 : qM) => some (x3, u1)) (fun j1 => if (0 : Int32) ≤ (x1 ^^^ x2) then j1 u0 else if (x3 * x2) = x1 then j1 u0 else some (x3 - 1, u0))))
set_option maxRecDepth 100000 in
set_option maxHeartbeats 4000000 in
theorem k_J9_floorDiv_7cf53 (l : Launch) (G : qG) (x1 : Int32) (x2 : Int32)  (u0 : qM) : qCt l G m_J9_floorDiv_7cf53 q_cI [.int x1, .int x2] u0 (f_J9_floorDiv_7cf53 x1 x2 u0) := by
  refine q_entry pk_J9_floorDiv_7cf53 (Nat.le_of_ble_eq_true rfl) ?_
  show qAW l G m_J9_floorDiv_7cf53 (q_mq G q_cI) 0 [(0, .int x1), (1, .int x2)] [] u0 (f_J9_floorDiv_7cf53 x1 x2 u0)
  unfold f_J9_floorDiv_7cf53
  refine aw_iload_n (i := 0) dJ9_floorDiv_7cf53_0 1 rfl rfl 0 rfl ?_
  refine aw_iload_n (i := 1) dJ9_floorDiv_7cf53_1 2 rfl rfl 1 rfl ?_
  refine aw_ck (fun h1 => ?_)
  refine aw_idiv dJ9_floorDiv_7cf53_2 3 rfl (of_decide_eq_true h1) ?_
  refine aw_lti (fun x3 => ?_)
  refine aw_istore_n dJ9_floorDiv_7cf53_3 4 rfl rfl [(2, .int x3), (0, .int x1), (1, .int x2)] (by decide) rfl ?_
  refine aw_iload_n (i := 0) dJ9_floorDiv_7cf53_4 5 rfl rfl 1 rfl ?_
  refine aw_iload_n (i := 1) dJ9_floorDiv_7cf53_5 6 rfl rfl 2 rfl ?_
  refine aw_ixor dJ9_floorDiv_7cf53_6 7 rfl ?_
  refine aw_jn (fun k => ∀  (u1 : qM), qAW l G m_J9_floorDiv_7cf53 (q_mq G q_cI) 21 [(2, .int x3)] [] u1 (k u1)) ?_ ?_
  · intro u1
    refine aw_iload_n (i := 2) dJ9_floorDiv_7cf53_21 22 rfl rfl 0 rfl ?_
    exact aw_iret dJ9_floorDiv_7cf53_22 rfl
  · intro j1 hj1
    refine aw_if_ge dJ9_floorDiv_7cf53_7 10 rfl 21 rfl (fun h2 => ?_) (fun h2 => ?_)
    · exact aw_conv [0] rfl (hj1 u0)
    · refine aw_iload_n (i := 2) dJ9_floorDiv_7cf53_10 11 rfl rfl 0 rfl ?_
      refine aw_iload_n (i := 1) dJ9_floorDiv_7cf53_11 12 rfl rfl 2 rfl ?_
      refine aw_imul dJ9_floorDiv_7cf53_12 13 rfl ?_
      refine aw_iload_n (i := 0) dJ9_floorDiv_7cf53_13 14 rfl rfl 1 rfl ?_
      refine aw_icmp_eq dJ9_floorDiv_7cf53_14 17 rfl 21 rfl (fun h3 => ?_) (fun h3 => ?_)
      · exact aw_conv [0] rfl (hj1 u0)
      · refine aw_iload_n (i := 2) dJ9_floorDiv_7cf53_17 18 rfl rfl 0 rfl ?_
        refine aw_iconst (x := 1) dJ9_floorDiv_7cf53_18 19 rfl rfl ?_
        refine aw_isub dJ9_floorDiv_7cf53_19 20 rfl ?_
        exact aw_iret dJ9_floorDiv_7cf53_20 rfl
theorem dX0_giveUp_0 : decode cX0_giveUp 0 = .ok (.iconst 0, 1) := by decide +kernel
theorem dX0_giveUp_1 : decode cX0_giveUp 1 = .ok (.istore_n 2, 1) := by decide +kernel
theorem dX0_giveUp_2 : decode cX0_giveUp 2 = .ok (.iconst 0, 1) := by decide +kernel
theorem dX0_giveUp_3 : decode cX0_giveUp 3 = .ok (.istore_n 3, 1) := by decide +kernel
theorem dX0_giveUp_4 : decode cX0_giveUp 4 = .ok (.iload_n 3, 1) := by decide +kernel
theorem dX0_giveUp_5 : decode cX0_giveUp 5 = .ok (.aload_n 0, 1) := by decide +kernel
theorem dX0_giveUp_6 : decode cX0_giveUp 6 = .ok (.invokevirtual 153, 3) := by decide +kernel
theorem dX0_giveUp_9 : decode cX0_giveUp 9 = .ok (.iconst 4, 1) := by decide +kernel
theorem dX0_giveUp_10 : decode cX0_giveUp 10 = .ok (.idiv, 1) := by decide +kernel
theorem dX0_giveUp_11 : decode cX0_giveUp 11 = .ok (.if_icmp .ge 126, 3) := by decide +kernel
theorem dX0_giveUp_14 : decode cX0_giveUp 14 = .ok (.aload_n 0, 1) := by decide +kernel
theorem dX0_giveUp_15 : decode cX0_giveUp 15 = .ok (.iload_n 3, 1) := by decide +kernel
theorem dX0_giveUp_16 : decode cX0_giveUp 16 = .ok (.aload_n 1, 1) := by decide +kernel
theorem dX0_giveUp_17 : decode cX0_giveUp 17 = .ok (.invokevirtual 186, 3) := by decide +kernel
theorem dX0_giveUp_20 : decode cX0_giveUp 20 = .ok (.istore 4, 2) := by decide +kernel
theorem dX0_giveUp_22 : decode cX0_giveUp 22 = .ok (.aload_n 0, 1) := by decide +kernel
theorem dX0_giveUp_23 : decode cX0_giveUp 23 = .ok (.getfield 45, 3) := by decide +kernel
theorem dX0_giveUp_26 : decode cX0_giveUp 26 = .ok (.getfield 156, 3) := by decide +kernel
theorem dX0_giveUp_29 : decode cX0_giveUp 29 = .ok (.iload_n 3, 1) := by decide +kernel
theorem dX0_giveUp_30 : decode cX0_giveUp 30 = .ok (.iaload, 1) := by decide +kernel
theorem dX0_giveUp_31 : decode cX0_giveUp 31 = .ok (.istore 5, 2) := by decide +kernel
theorem dX0_giveUp_33 : decode cX0_giveUp 33 = .ok (.iconst 0, 1) := by decide +kernel
theorem dX0_giveUp_34 : decode cX0_giveUp 34 = .ok (.istore 6, 2) := by decide +kernel
theorem dX0_giveUp_36 : decode cX0_giveUp 36 = .ok (.iload 6, 2) := by decide +kernel
theorem dX0_giveUp_38 : decode cX0_giveUp 38 = .ok (.iconst 4, 1) := by decide +kernel
theorem dX0_giveUp_39 : decode cX0_giveUp 39 = .ok (.if_icmp .ge 26, 3) := by decide +kernel
theorem dX0_giveUp_42 : decode cX0_giveUp 42 = .ok (.iload 5, 2) := by decide +kernel
theorem dX0_giveUp_44 : decode cX0_giveUp 44 = .ok (.aload_n 0, 1) := by decide +kernel
theorem dX0_giveUp_45 : decode cX0_giveUp 45 = .ok (.getfield 15, 3) := by decide +kernel
theorem dX0_giveUp_48 : decode cX0_giveUp 48 = .ok (.aload_n 0, 1) := by decide +kernel
theorem dX0_giveUp_49 : decode cX0_giveUp 49 = .ok (.iload_n 3, 1) := by decide +kernel
theorem dX0_giveUp_50 : decode cX0_giveUp 50 = .ok (.iload 6, 2) := by decide +kernel
theorem dX0_giveUp_52 : decode cX0_giveUp 52 = .ok (.invokevirtual 190, 3) := by decide +kernel
theorem dX0_giveUp_55 : decode cX0_giveUp 55 = .ok (.iaload, 1) := by decide +kernel
theorem dX0_giveUp_56 : decode cX0_giveUp 56 = .ok (.iadd, 1) := by decide +kernel
theorem dX0_giveUp_57 : decode cX0_giveUp 57 = .ok (.istore 5, 2) := by decide +kernel
theorem dX0_giveUp_59 : decode cX0_giveUp 59 = .ok (.iinc 6 1, 3) := by decide +kernel
theorem dX0_giveUp_62 : decode cX0_giveUp 62 = .ok (.goto (-26), 3) := by decide +kernel
theorem dX0_giveUp_65 : decode cX0_giveUp 65 = .ok (.iconst 0, 1) := by decide +kernel
theorem dX0_giveUp_66 : decode cX0_giveUp 66 = .ok (.ldc 196, 2) := by decide +kernel
theorem dX0_giveUp_68 : decode cX0_giveUp 68 = .ok (.iload 5, 2) := by decide +kernel
theorem dX0_giveUp_70 : decode cX0_giveUp 70 = .ok (.iconst 4, 1) := by decide +kernel
theorem dX0_giveUp_71 : decode cX0_giveUp 71 = .ok (.invokestatic 197, 3) := by decide +kernel
theorem dX0_giveUp_74 : decode cX0_giveUp 74 = .ok (.invokestatic 200, 3) := by decide +kernel
theorem dX0_giveUp_77 : decode cX0_giveUp 77 = .ok (.invokestatic 203, 3) := by decide +kernel
theorem dX0_giveUp_80 : decode cX0_giveUp 80 = .ok (.istore 6, 2) := by decide +kernel
theorem dX0_giveUp_82 : decode cX0_giveUp 82 = .ok (.iload_n 2, 1) := by decide +kernel
theorem dX0_giveUp_83 : decode cX0_giveUp 83 = .ok (.iload 6, 2) := by decide +kernel
theorem dX0_giveUp_85 : decode cX0_giveUp 85 = .ok (.aload_n 1, 1) := by decide +kernel
theorem dX0_giveUp_86 : decode cX0_giveUp 86 = .ok (.getfield 15, 3) := by decide +kernel
theorem dX0_giveUp_89 : decode cX0_giveUp 89 = .ok (.iload 4, 2) := by decide +kernel
theorem dX0_giveUp_91 : decode cX0_giveUp 91 = .ok (.iaload, 1) := by decide +kernel
theorem dX0_giveUp_92 : decode cX0_giveUp 92 = .ok (.isub, 1) := by decide +kernel
theorem dX0_giveUp_93 : decode cX0_giveUp 93 = .ok (.iadd, 1) := by decide +kernel
theorem dX0_giveUp_94 : decode cX0_giveUp 94 = .ok (.istore_n 2, 1) := by decide +kernel
theorem dX0_giveUp_95 : decode cX0_giveUp 95 = .ok (.aload_n 1, 1) := by decide +kernel
theorem dX0_giveUp_96 : decode cX0_giveUp 96 = .ok (.getfield 15, 3) := by decide +kernel
theorem dX0_giveUp_99 : decode cX0_giveUp 99 = .ok (.iload 4, 2) := by decide +kernel
theorem dX0_giveUp_101 : decode cX0_giveUp 101 = .ok (.iload 6, 2) := by decide +kernel
theorem dX0_giveUp_103 : decode cX0_giveUp 103 = .ok (.iastore, 1) := by decide +kernel
theorem dX0_giveUp_104 : decode cX0_giveUp 104 = .ok (.aload_n 0, 1) := by decide +kernel
theorem dX0_giveUp_105 : decode cX0_giveUp 105 = .ok (.getfield 45, 3) := by decide +kernel
theorem dX0_giveUp_108 : decode cX0_giveUp 108 = .ok (.getfield 193, 3) := by decide +kernel
theorem dX0_giveUp_111 : decode cX0_giveUp 111 = .ok (.iload_n 3, 1) := by decide +kernel
theorem dX0_giveUp_112 : decode cX0_giveUp 112 = .ok (.iload 6, 2) := by decide +kernel
theorem dX0_giveUp_114 : decode cX0_giveUp 114 = .ok (.iastore, 1) := by decide +kernel
theorem dX0_giveUp_115 : decode cX0_giveUp 115 = .ok (.aload_n 0, 1) := by decide +kernel
theorem dX0_giveUp_116 : decode cX0_giveUp 116 = .ok (.getfield 45, 3) := by decide +kernel
theorem dX0_giveUp_119 : decode cX0_giveUp 119 = .ok (.getfield 156, 3) := by decide +kernel
theorem dX0_giveUp_122 : decode cX0_giveUp 122 = .ok (.iload_n 3, 1) := by decide +kernel
theorem dX0_giveUp_123 : decode cX0_giveUp 123 = .ok (.iload 5, 2) := by decide +kernel
theorem dX0_giveUp_125 : decode cX0_giveUp 125 = .ok (.iconst 4, 1) := by decide +kernel
theorem dX0_giveUp_126 : decode cX0_giveUp 126 = .ok (.iload 6, 2) := by decide +kernel
theorem dX0_giveUp_128 : decode cX0_giveUp 128 = .ok (.imul, 1) := by decide +kernel
theorem dX0_giveUp_129 : decode cX0_giveUp 129 = .ok (.isub, 1) := by decide +kernel
theorem dX0_giveUp_130 : decode cX0_giveUp 130 = .ok (.iastore, 1) := by decide +kernel
theorem dX0_giveUp_131 : decode cX0_giveUp 131 = .ok (.iinc 3 1, 3) := by decide +kernel
theorem dX0_giveUp_134 : decode cX0_giveUp 134 = .ok (.goto (-130), 3) := by decide +kernel
theorem dX0_giveUp_137 : decode cX0_giveUp 137 = .ok (.iload_n 2, 1) := by decide +kernel
theorem dX0_giveUp_138 : decode cX0_giveUp 138 = .ok (.ireturn, 1) := by decide +kernel
noncomputable def L_X0_giveUp_36 (o1 : Nat) (o2 : Nat) (x1 : Int32) (x2 : Int32) (x4 : Int32) : Nat → Int32 → Int32 → qM → (Int32 → qM → Option (Int32 × qM)) → Option (Int32 × qM)
  | 0, _, _, _, _ => none
  | n + 1, x6, x7, u4, e1 => if 4 ≤ x7 then e1 x6 u4 else q_bd (f_X0_fineCell o1 x2 x7 u4) (fun (x8 : Int32) (u5 : qM) => q_ck (q_in x8 48) (q_lt (x6 + (u5.1 38 o1 (Int32.toNatClampNeg x8))) (fun (x9 : Int32) => q_lt (x7 + 1) (fun (x10 : Int32) => L_X0_giveUp_36 o1 o2 x1 x2 x4 n x9 x10 u5 e1))))
noncomputable def L_X0_giveUp_4 (o1 : Nat) (o2 : Nat) : Nat → Int32 → Int32 → qM → (Int32 → qM → Option (Int32 × qM)) → Option (Int32 × qM)
  | 0, _, _, _, _ => none
  | n + 1, x1, x2, u1, e1 => q_bd (f_X0_cells o1 u1) (fun (x3 : Int32) (u2 : qM) => if (x3 / 4) ≤ x2 then e1 x1 u2 else q_bd (f_X0_underCell o1 x2 o2 u2) (fun (x4 : Int32) (u3 : qM) => q_ck (q_in x2 12) (q_lt (u3.1 46 o1 (Int32.toNatClampNeg x2)) (fun (x5 : Int32) => L_X0_giveUp_36 o1 o2 x1 x2 x4 q_fu x5 0 u3 (fun x11 u6 => q_bd (f_J9_floorDiv_7cf53 x11 4 u6) (fun (x12 : Int32) (u7 : qM) => q_lt ((if 0 < (if x12 < 100000 then x12 else 100000) then (if x12 < 100000 then x12 else 100000) else 0)) (fun (x13 : Int32) => q_ck (q_in x4 48) (q_lt (x1 + (x13 - (u7.1 38 o2 (Int32.toNatClampNeg x4)))) (fun (x14 : Int32) => q_ck (q_in x4 48) (q_lt (q_si u7 38 o2 (Int32.toNatClampNeg x4) x13) (fun (u8 : qM) => q_ck (q_in x2 12) (q_lt (q_si u8 45 o1 (Int32.toNatClampNeg x2) x13) (fun (u9 : qM) => q_ck (q_in x2 12) (q_lt (q_si u9 46 o1 (Int32.toNatClampNeg x2) (x11 - (4 * x13))) (fun (u10 : qM) => q_lt (x2 + 1) (fun (x15 : Int32) => L_X0_giveUp_4 o1 o2 n x14 x15 u10 e1))))))))))))))))
noncomputable def f_X0_giveUp (o1 : Nat) (o2 : Nat) (u0 : qM) : Option (Int32 × qM) :=
  L_X0_giveUp_4 o1 o2 q_fu 0 0 u0 (fun x16 u11 => some (x16, u11))
set_option maxRecDepth 100000 in
set_option maxHeartbeats 4000000 in
theorem TL_X0_giveUp_36 (l : Launch) (G : qG) (o1 : Nat) (o2 : Nat) (x1 : Int32) (x2 : Int32) (x4 : Int32) (q3 : o1 < 7) (q4 : o2 < 7) (e1 : Int32 → qM → Option (Int32 × qM)) (he1 : ∀ (y1 : Int32) (v : qM), qAW l G m_X0_giveUp (q_mq G q_cI) 65 [(0, .ref (q_ad G 2 o1)), (1, .ref (q_ad G 2 o2)), (2, .int x1), (3, .int x2), (4, .int x4), (5, .int y1)] [] v (e1 y1 v)) : ∀ (n : Nat) (x6 : Int32) (x7 : Int32) (u4 : qM), qAW l G m_X0_giveUp (q_mq G q_cI) 36 [(0, .ref (q_ad G 2 o1)), (1, .ref (q_ad G 2 o2)), (2, .int x1), (3, .int x2), (4, .int x4), (5, .int x6), (6, .int x7)] [] u4 (L_X0_giveUp_36 o1 o2 x1 x2 x4 n x6 x7 u4 e1) := by
  intro n
  induction n with
  | zero => intros; exact aw_none
  | succ n ih =>
    intro x6 x7 u4
    unfold L_X0_giveUp_36
    refine aw_iload (i := 6) dX0_giveUp_36 38 rfl 6 rfl ?_
    refine aw_iconst (x := 4) dX0_giveUp_38 39 rfl rfl ?_
    refine aw_icmp_ge dX0_giveUp_39 42 rfl 65 rfl (fun h3 => ?_) (fun h3 => ?_)
    · exact aw_conv [0, 1, 2, 3, 4, 5] rfl (he1 x6 u4)
    · refine aw_iload (i := 5) dX0_giveUp_42 44 rfl 5 rfl ?_
      refine aw_aload_n (i := 0) dX0_giveUp_44 45 rfl rfl 0 rfl ?_
      refine gf_X0_1 dX0_giveUp_45 48 rfl wd_19 (ok_2 q3) ?_
      refine aw_aload_n (i := 0) dX0_giveUp_48 49 rfl rfl 0 rfl ?_
      refine aw_iload_n (i := 3) dX0_giveUp_49 50 rfl rfl 3 rfl ?_
      refine aw_iload (i := 6) dX0_giveUp_50 52 rfl 6 rfl ?_
      refine aw_callV (M2 := m_X0_fineCell) (cv := q_cI) dX0_giveUp_52 55 rfl (k_X0_fineCell l G o1 x2 x7 q3 u4) wd_52 wv_X0_fineCell pk_X0_fineCell rfl rfl ⟨by decide, by decide⟩ ⟨Nat.zero_le _, Nat.zero_le _⟩ at_2 (ok_2 q3) rfl rfl rfl (Nat.le_of_ble_eq_true rfl) (fun x8 u5 => ?_)
      show qAW l G m_X0_giveUp (q_mq G q_cI) 55 [(0, .ref (q_ad G 2 o1)), (1, .ref (q_ad G 2 o2)), (2, .int x1), (3, .int x2), (4, .int x4), (5, .int x6), (6, .int x7)] [.int x8, .ref (q_ad G 38 o1), .int x6] u5 _
      refine aw_iald dX0_giveUp_55 56 rfl at_38 (al_38 _) (ok_38 q3) (fun h4 => ?_)
      refine aw_iadd dX0_giveUp_56 57 rfl ?_
      refine aw_lti (fun x9 => ?_)
      refine aw_istore dX0_giveUp_57 59 rfl [(5, .int x9), (0, .ref (q_ad G 2 o1)), (1, .ref (q_ad G 2 o2)), (2, .int x1), (3, .int x2), (4, .int x4), (6, .int x7)] (by decide) rfl ?_
      refine aw_iincx (i := 6) dX0_giveUp_59 62 rfl 6 rfl 1 rfl (fun x10 => [(6, .int x10), (5, .int x9), (0, .ref (q_ad G 2 o1)), (1, .ref (q_ad G 2 o2)), (2, .int x1), (3, .int x2), (4, .int x4)]) (by decide) (fun _ => rfl) (fun x10 => ?_)
      refine aw_goto dX0_giveUp_62 36 rfl ?_
      exact aw_conv [2, 3, 4, 5, 6, 1, 0] rfl (ih x9 x10 u5)
set_option maxRecDepth 100000 in
set_option maxHeartbeats 4000000 in
theorem TL_X0_giveUp_4 (l : Launch) (G : qG) (o1 : Nat) (o2 : Nat) (q1 : o1 < 7) (q2 : o2 < 7) (e1 : Int32 → qM → Option (Int32 × qM)) (he1 : ∀ (y1 : Int32) (v : qM), qAW l G m_X0_giveUp (q_mq G q_cI) 137 [(2, .int y1)] [] v (e1 y1 v)) : ∀ (n : Nat) (x1 : Int32) (x2 : Int32) (u1 : qM), qAW l G m_X0_giveUp (q_mq G q_cI) 4 [(0, .ref (q_ad G 2 o1)), (1, .ref (q_ad G 2 o2)), (2, .int x1), (3, .int x2)] [] u1 (L_X0_giveUp_4 o1 o2 n x1 x2 u1 e1) := by
  intro n
  induction n with
  | zero => intros; exact aw_none
  | succ n ih =>
    intro x1 x2 u1
    unfold L_X0_giveUp_4
    refine aw_iload_n (i := 3) dX0_giveUp_4 5 rfl rfl 3 rfl ?_
    refine aw_aload_n (i := 0) dX0_giveUp_5 6 rfl rfl 0 rfl ?_
    refine aw_callV (M2 := m_X0_cells) (cv := q_cI) dX0_giveUp_6 9 rfl (k_X0_cells l G o1 q1 u1) wd_43 wv_X0_cells pk_X0_cells rfl rfl ⟨by decide, by decide⟩ ⟨Nat.zero_le _, Nat.zero_le _⟩ at_2 (ok_2 q1) rfl rfl rfl (Nat.le_of_ble_eq_true rfl) (fun x3 u2 => ?_)
    show qAW l G m_X0_giveUp (q_mq G q_cI) 9 [(0, .ref (q_ad G 2 o1)), (1, .ref (q_ad G 2 o2)), (2, .int x1), (3, .int x2)] [.int x3, .int x2] u2 _
    refine aw_iconst (x := 4) dX0_giveUp_9 10 rfl rfl ?_
    refine aw_idiv dX0_giveUp_10 11 rfl (by decide) ?_
    refine aw_icmp_ge dX0_giveUp_11 14 rfl 137 rfl (fun h1 => ?_) (fun h1 => ?_)
    · exact aw_conv [2] rfl (he1 x1 u2)
    · refine aw_aload_n (i := 0) dX0_giveUp_14 15 rfl rfl 0 rfl ?_
      refine aw_iload_n (i := 3) dX0_giveUp_15 16 rfl rfl 3 rfl ?_
      refine aw_aload_n (i := 1) dX0_giveUp_16 17 rfl rfl 1 rfl ?_
      refine aw_callV (M2 := m_X0_underCell) (cv := q_cI) dX0_giveUp_17 20 rfl (k_X0_underCell l G o1 x2 o2 q1 q2 u2) wd_51 wv_X0_underCell pk_X0_underCell rfl rfl ⟨by decide, by decide⟩ ⟨Nat.zero_le _, Nat.zero_le _⟩ at_2 (ok_2 q1) rfl rfl rfl (Nat.le_of_ble_eq_true rfl) (fun x4 u3 => ?_)
      show qAW l G m_X0_giveUp (q_mq G q_cI) 20 [(0, .ref (q_ad G 2 o1)), (1, .ref (q_ad G 2 o2)), (2, .int x1), (3, .int x2)] [.int x4] u3 _
      refine aw_istore dX0_giveUp_20 22 rfl [(4, .int x4), (0, .ref (q_ad G 2 o1)), (1, .ref (q_ad G 2 o2)), (2, .int x1), (3, .int x2)] (by decide) rfl ?_
      refine aw_aload_n (i := 0) dX0_giveUp_22 23 rfl rfl 1 rfl ?_
      refine gf_X0_7 dX0_giveUp_23 26 rfl wd_17 (ok_2 q1) ?_
      refine gfN_X4_1 dX0_giveUp_26 29 rfl "SeaCells" (ns_22) (ok_5 q1) ?_
      refine aw_iload_n (i := 3) dX0_giveUp_29 30 rfl rfl 4 rfl ?_
      refine aw_iald dX0_giveUp_30 31 rfl at_46 (al_46 _) (ok_46 q1) (fun h2 => ?_)
      refine aw_lti (fun x5 => ?_)
      refine aw_istore dX0_giveUp_31 33 rfl [(5, .int x5), (4, .int x4), (0, .ref (q_ad G 2 o1)), (1, .ref (q_ad G 2 o2)), (2, .int x1), (3, .int x2)] (by decide) rfl ?_
      refine aw_iconst (x := 0) dX0_giveUp_33 34 rfl rfl ?_
      refine aw_istore dX0_giveUp_34 36 rfl [(6, .int 0), (5, .int x5), (4, .int x4), (0, .ref (q_ad G 2 o1)), (1, .ref (q_ad G 2 o2)), (2, .int x1), (3, .int x2)] (by decide) rfl ?_
      refine aw_conv [3, 4, 5, 6, 2, 1, 0] rfl (TL_X0_giveUp_36 l G o1 o2 x1 x2 x4 q1 q2 _ ?_ _ x5 0 u3)
      · intro x11 u6
        refine aw_iconst (x := 0) dX0_giveUp_65 66 rfl rfl ?_
        refine aw_ldc (x := 100000) dX0_giveUp_66 68 rfl wd_53 ?_
        refine aw_iload (i := 5) dX0_giveUp_68 70 rfl 5 rfl ?_
        refine aw_iconst (x := 4) dX0_giveUp_70 71 rfl rfl ?_
        refine aw_callS (M2 := m_J9_floorDiv_7cf53) (cv := q_cI) dX0_giveUp_71 74 rfl (k_J9_floorDiv_7cf53 l G x11 4  u6) wd_54 wv_J9_floorDiv_7cf53 pk_J9_floorDiv_7cf53 rfl ⟨by decide, by decide⟩ ⟨Nat.zero_le _, Nat.zero_le _⟩ rfl (Nat.le_of_ble_eq_true rfl) (fun x12 u7 => ?_)
        show qAW l G m_X0_giveUp (q_mq G q_cI) 74 [(0, .ref (q_ad G 2 o1)), (1, .ref (q_ad G 2 o2)), (2, .int x1), (3, .int x2), (4, .int x4), (5, .int x11)] [.int x12, .int 100000, .int 0] u7 _
        refine aw_min dX0_giveUp_74 77 rfl wd_55 wd_38 wd_39 wd_40 (Nat.le_of_ble_eq_true rfl) (Nat.le_of_ble_eq_true rfl) (Nat.zero_le _) (Nat.zero_le _) ?_
        refine aw_max dX0_giveUp_77 80 rfl wd_56 wd_57 wd_39 wd_58 (Nat.le_of_ble_eq_true rfl) (Nat.le_of_ble_eq_true rfl) (Nat.zero_le _) (Nat.zero_le _) ?_
        refine aw_lti (fun x13 => ?_)
        refine aw_istore dX0_giveUp_80 82 rfl [(6, .int x13), (0, .ref (q_ad G 2 o1)), (1, .ref (q_ad G 2 o2)), (2, .int x1), (3, .int x2), (4, .int x4), (5, .int x11)] (by decide) rfl ?_
        refine aw_iload_n (i := 2) dX0_giveUp_82 83 rfl rfl 3 rfl ?_
        refine aw_iload (i := 6) dX0_giveUp_83 85 rfl 0 rfl ?_
        refine aw_aload_n (i := 1) dX0_giveUp_85 86 rfl rfl 2 rfl ?_
        refine gf_X0_1 dX0_giveUp_86 89 rfl wd_19 (ok_2 q2) ?_
        refine aw_iload (i := 4) dX0_giveUp_89 91 rfl 5 rfl ?_
        refine aw_iald dX0_giveUp_91 92 rfl at_38 (al_38 _) (ok_38 q2) (fun h5 => ?_)
        refine aw_isub dX0_giveUp_92 93 rfl ?_
        refine aw_iadd dX0_giveUp_93 94 rfl ?_
        refine aw_lti (fun x14 => ?_)
        refine aw_istore_n dX0_giveUp_94 95 rfl rfl [(2, .int x14), (6, .int x13), (0, .ref (q_ad G 2 o1)), (1, .ref (q_ad G 2 o2)), (3, .int x2), (4, .int x4), (5, .int x11)] (by decide) rfl ?_
        refine aw_aload_n (i := 1) dX0_giveUp_95 96 rfl rfl 3 rfl ?_
        refine gf_X0_1 dX0_giveUp_96 99 rfl wd_19 (ok_2 q2) ?_
        refine aw_iload (i := 4) dX0_giveUp_99 101 rfl 5 rfl ?_
        refine aw_iload (i := 6) dX0_giveUp_101 103 rfl 1 rfl ?_
        refine aw_iast dX0_giveUp_103 104 rfl at_38 (al_38 _) (ok_38 q2) (fun h6 => ?_)
        refine aw_ltm (fun u8 => ?_)
        refine aw_aload_n (i := 0) dX0_giveUp_104 105 rfl rfl 2 rfl ?_
        refine gf_X0_7 dX0_giveUp_105 108 rfl wd_17 (ok_2 q1) ?_
        refine gfN_X4_0 dX0_giveUp_108 111 rfl "SeaCells" (ns_21) (ok_5 q1) ?_
        refine aw_iload_n (i := 3) dX0_giveUp_111 112 rfl rfl 4 rfl ?_
        refine aw_iload (i := 6) dX0_giveUp_112 114 rfl 1 rfl ?_
        refine aw_iast dX0_giveUp_114 115 rfl at_45 (al_45 _) (ok_45 q1) (fun h7 => ?_)
        refine aw_ltm (fun u9 => ?_)
        refine aw_aload_n (i := 0) dX0_giveUp_115 116 rfl rfl 2 rfl ?_
        refine gf_X0_7 dX0_giveUp_116 119 rfl wd_17 (ok_2 q1) ?_
        refine gfN_X4_1 dX0_giveUp_119 122 rfl "SeaCells" (ns_22) (ok_5 q1) ?_
        refine aw_iload_n (i := 3) dX0_giveUp_122 123 rfl rfl 4 rfl ?_
        refine aw_iload (i := 5) dX0_giveUp_123 125 rfl 6 rfl ?_
        refine aw_iconst (x := 4) dX0_giveUp_125 126 rfl rfl ?_
        refine aw_iload (i := 6) dX0_giveUp_126 128 rfl 1 rfl ?_
        refine aw_imul dX0_giveUp_128 129 rfl ?_
        refine aw_isub dX0_giveUp_129 130 rfl ?_
        refine aw_iast dX0_giveUp_130 131 rfl at_46 (al_46 _) (ok_46 q1) (fun h8 => ?_)
        refine aw_ltm (fun u10 => ?_)
        refine aw_iincx (i := 3) dX0_giveUp_131 134 rfl 4 rfl 1 rfl (fun x15 => [(3, .int x15), (2, .int x14), (6, .int x13), (0, .ref (q_ad G 2 o1)), (1, .ref (q_ad G 2 o2)), (4, .int x4), (5, .int x11)]) (by decide) (fun _ => rfl) (fun x15 => ?_)
        refine aw_goto dX0_giveUp_134 4 rfl ?_
        exact aw_conv [3, 4, 1, 0] rfl (ih x14 x15 u10)
set_option maxRecDepth 100000 in
set_option maxHeartbeats 4000000 in
theorem k_X0_giveUp (l : Launch) (G : qG) (o1 : Nat) (o2 : Nat) (ho1 : o1 < 7) (ho2 : o2 < 7) (u0 : qM) : qCt l G m_X0_giveUp q_cI [.ref (q_ad G 2 o1), .ref (q_ad G 2 o2)] u0 (f_X0_giveUp o1 o2 u0) := by
  refine q_entry pk_X0_giveUp (Nat.le_of_ble_eq_true rfl) ?_
  show qAW l G m_X0_giveUp (q_mq G q_cI) 0 [(0, .ref (q_ad G 2 o1)), (1, .ref (q_ad G 2 o2))] [] u0 (f_X0_giveUp o1 o2 u0)
  unfold f_X0_giveUp
  refine aw_iconst (x := 0) dX0_giveUp_0 1 rfl rfl ?_
  refine aw_istore_n dX0_giveUp_1 2 rfl rfl [(2, .int 0), (0, .ref (q_ad G 2 o1)), (1, .ref (q_ad G 2 o2))] (by decide) rfl ?_
  refine aw_iconst (x := 0) dX0_giveUp_2 3 rfl rfl ?_
  refine aw_istore_n dX0_giveUp_3 4 rfl rfl [(3, .int 0), (2, .int 0), (0, .ref (q_ad G 2 o1)), (1, .ref (q_ad G 2 o2))] (by decide) rfl ?_
  refine aw_conv [2, 3, 1, 0] rfl (TL_X0_giveUp_4 l G o1 o2 ho1 ho2 _ ?_ _ 0 0 u0)
  · intro x16 u11
    refine aw_iload_n (i := 2) dX0_giveUp_137 138 rfl rfl 0 rfl ?_
    exact aw_iret dX0_giveUp_138 rfl
theorem dX0_unfilled_0 : decode cX0_unfilled 0 = .ok (.aload_n 0, 1) := by decide +kernel
theorem dX0_unfilled_1 : decode cX0_unfilled 1 = .ok (.getfield 15, 3) := by decide +kernel
theorem dX0_unfilled_4 : decode cX0_unfilled 4 = .ok (.aload_n 0, 1) := by decide +kernel
theorem dX0_unfilled_5 : decode cX0_unfilled 5 = .ok (.iload_n 1, 1) := by decide +kernel
theorem dX0_unfilled_6 : decode cX0_unfilled 6 = .ok (.iload_n 2, 1) := by decide +kernel
theorem dX0_unfilled_7 : decode cX0_unfilled 7 = .ok (.invokevirtual 190, 3) := by decide +kernel
theorem dX0_unfilled_10 : decode cX0_unfilled 10 = .ok (.iaload, 1) := by decide +kernel
theorem dX0_unfilled_11 : decode cX0_unfilled 11 = .ok (.ineg, 1) := by decide +kernel
theorem dX0_unfilled_12 : decode cX0_unfilled 12 = .ok (.istore_n 3, 1) := by decide +kernel
theorem dX0_unfilled_13 : decode cX0_unfilled 13 = .ok (.iload_n 3, 1) := by decide +kernel
theorem dX0_unfilled_14 : decode cX0_unfilled 14 = .ok (.ifCond .gt 5, 3) := by decide +kernel
theorem dX0_unfilled_17 : decode cX0_unfilled 17 = .ok (.iconst 0, 1) := by decide +kernel
theorem dX0_unfilled_18 : decode cX0_unfilled 18 = .ok (.ireturn, 1) := by decide +kernel
theorem dX0_unfilled_19 : decode cX0_unfilled 19 = .ok (.aload_n 0, 1) := by decide +kernel
theorem dX0_unfilled_20 : decode cX0_unfilled 20 = .ok (.getfield 15, 3) := by decide +kernel
theorem dX0_unfilled_23 : decode cX0_unfilled 23 = .ok (.aload_n 0, 1) := by decide +kernel
theorem dX0_unfilled_24 : decode cX0_unfilled 24 = .ok (.iload_n 1, 1) := by decide +kernel
theorem dX0_unfilled_25 : decode cX0_unfilled 25 = .ok (.iload_n 2, 1) := by decide +kernel
theorem dX0_unfilled_26 : decode cX0_unfilled 26 = .ok (.invokevirtual 190, 3) := by decide +kernel
theorem dX0_unfilled_29 : decode cX0_unfilled 29 = .ok (.iconst 0, 1) := by decide +kernel
theorem dX0_unfilled_30 : decode cX0_unfilled 30 = .ok (.iastore, 1) := by decide +kernel
theorem dX0_unfilled_31 : decode cX0_unfilled 31 = .ok (.iconst 1, 1) := by decide +kernel
theorem dX0_unfilled_32 : decode cX0_unfilled 32 = .ok (.istore 4, 2) := by decide +kernel
theorem dX0_unfilled_34 : decode cX0_unfilled 34 = .ok (.iload 4, 2) := by decide +kernel
theorem dX0_unfilled_36 : decode cX0_unfilled 36 = .ok (.iconst 4, 1) := by decide +kernel
theorem dX0_unfilled_37 : decode cX0_unfilled 37 = .ok (.if_icmp .ge 56, 3) := by decide +kernel
theorem dX0_unfilled_40 : decode cX0_unfilled 40 = .ok (.aload_n 0, 1) := by decide +kernel
theorem dX0_unfilled_41 : decode cX0_unfilled 41 = .ok (.iload_n 1, 1) := by decide +kernel
theorem dX0_unfilled_42 : decode cX0_unfilled 42 = .ok (.iload_n 2, 1) := by decide +kernel
theorem dX0_unfilled_43 : decode cX0_unfilled 43 = .ok (.iload 4, 2) := by decide +kernel
theorem dX0_unfilled_45 : decode cX0_unfilled 45 = .ok (.iadd, 1) := by decide +kernel
theorem dX0_unfilled_46 : decode cX0_unfilled 46 = .ok (.iconst 4, 1) := by decide +kernel
theorem dX0_unfilled_47 : decode cX0_unfilled 47 = .ok (.irem, 1) := by decide +kernel
theorem dX0_unfilled_48 : decode cX0_unfilled 48 = .ok (.invokevirtual 190, 3) := by decide +kernel
theorem dX0_unfilled_51 : decode cX0_unfilled 51 = .ok (.istore 5, 2) := by decide +kernel
theorem dX0_unfilled_53 : decode cX0_unfilled 53 = .ok (.iconst 0, 1) := by decide +kernel
theorem dX0_unfilled_54 : decode cX0_unfilled 54 = .ok (.iload_n 3, 1) := by decide +kernel
theorem dX0_unfilled_55 : decode cX0_unfilled 55 = .ok (.aload_n 0, 1) := by decide +kernel
theorem dX0_unfilled_56 : decode cX0_unfilled 56 = .ok (.getfield 15, 3) := by decide +kernel
theorem dX0_unfilled_59 : decode cX0_unfilled 59 = .ok (.iload 5, 2) := by decide +kernel
theorem dX0_unfilled_61 : decode cX0_unfilled 61 = .ok (.iaload, 1) := by decide +kernel
theorem dX0_unfilled_62 : decode cX0_unfilled 62 = .ok (.invokestatic 200, 3) := by decide +kernel
theorem dX0_unfilled_65 : decode cX0_unfilled 65 = .ok (.invokestatic 203, 3) := by decide +kernel
theorem dX0_unfilled_68 : decode cX0_unfilled 68 = .ok (.istore 6, 2) := by decide +kernel
theorem dX0_unfilled_70 : decode cX0_unfilled 70 = .ok (.aload_n 0, 1) := by decide +kernel
theorem dX0_unfilled_71 : decode cX0_unfilled 71 = .ok (.getfield 15, 3) := by decide +kernel
theorem dX0_unfilled_74 : decode cX0_unfilled 74 = .ok (.iload 5, 2) := by decide +kernel
theorem dX0_unfilled_76 : decode cX0_unfilled 76 = .ok (.dup2, 1) := by decide +kernel
theorem dX0_unfilled_77 : decode cX0_unfilled 77 = .ok (.iaload, 1) := by decide +kernel
theorem dX0_unfilled_78 : decode cX0_unfilled 78 = .ok (.iload 6, 2) := by decide +kernel
theorem dX0_unfilled_80 : decode cX0_unfilled 80 = .ok (.isub, 1) := by decide +kernel
theorem dX0_unfilled_81 : decode cX0_unfilled 81 = .ok (.iastore, 1) := by decide +kernel
theorem dX0_unfilled_82 : decode cX0_unfilled 82 = .ok (.iload_n 3, 1) := by decide +kernel
theorem dX0_unfilled_83 : decode cX0_unfilled 83 = .ok (.iload 6, 2) := by decide +kernel
theorem dX0_unfilled_85 : decode cX0_unfilled 85 = .ok (.isub, 1) := by decide +kernel
theorem dX0_unfilled_86 : decode cX0_unfilled 86 = .ok (.istore_n 3, 1) := by decide +kernel
theorem dX0_unfilled_87 : decode cX0_unfilled 87 = .ok (.iinc 4 1, 3) := by decide +kernel
theorem dX0_unfilled_90 : decode cX0_unfilled 90 = .ok (.goto (-56), 3) := by decide +kernel
theorem dX0_unfilled_93 : decode cX0_unfilled 93 = .ok (.iload_n 3, 1) := by decide +kernel
theorem dX0_unfilled_94 : decode cX0_unfilled 94 = .ok (.ireturn, 1) := by decide +kernel
noncomputable def L_X0_unfilled_34 (o1 : Nat) (x1 : Int32) (x2 : Int32) : Nat → Int32 → Int32 → qM → (Int32 → qM → Option (Int32 × qM)) → Option (Int32 × qM)
  | 0, _, _, _, _ => none
  | n + 1, x6, x7, u4, e1 => if 4 ≤ x7 then e1 x6 u4 else q_bd (f_X0_fineCell o1 x1 ((x2 + x7) - (x2 + x7) / 4 * 4) u4) (fun (x8 : Int32) (u5 : qM) => q_ck (q_in x8 48) (q_lt ((if 0 < (if (u5.1 38 o1 (Int32.toNatClampNeg x8)) < x6 then u5.1 38 o1 (Int32.toNatClampNeg x8) else x6) then (if (u5.1 38 o1 (Int32.toNatClampNeg x8)) < x6 then u5.1 38 o1 (Int32.toNatClampNeg x8) else x6) else 0)) (fun (x9 : Int32) => q_ck (q_in x8 48) (q_ck (q_in x8 48) (q_lt (q_si u5 38 o1 (Int32.toNatClampNeg x8) ((u5.1 38 o1 (Int32.toNatClampNeg x8)) - x9)) (fun (u6 : qM) => q_lt (x6 - x9) (fun (x10 : Int32) => q_lt (x7 + 1) (fun (x11 : Int32) => L_X0_unfilled_34 o1 x1 x2 n x10 x11 u6 e1))))))))
noncomputable def f_X0_unfilled (o1 : Nat) (x1 : Int32) (x2 : Int32) (u0 : qM) : Option (Int32 × qM) :=
  q_bd (f_X0_fineCell o1 x1 x2 u0) (fun (x3 : Int32) (u1 : qM) => q_ck (q_in x3 48) (q_lt (-(u1.1 38 o1 (Int32.toNatClampNeg x3))) (fun (x4 : Int32) => if (0 : Int32) < x4 then q_bd (f_X0_fineCell o1 x1 x2 u1) (fun (x5 : Int32) (u2 : qM) => q_ck (q_in x5 48) (q_lt (q_si u2 38 o1 (Int32.toNatClampNeg x5) 0) (fun (u3 : qM) => L_X0_unfilled_34 o1 x1 x2 q_fu x4 1 u3 (fun x12 u7 => some (x12, u7))))) else some (0, u1))))
set_option maxRecDepth 100000 in
set_option maxHeartbeats 4000000 in
theorem TL_X0_unfilled_34 (l : Launch) (G : qG) (o1 : Nat) (x1 : Int32) (x2 : Int32) (q1 : o1 < 7) (e1 : Int32 → qM → Option (Int32 × qM)) (he1 : ∀ (y1 : Int32) (v : qM), qAW l G m_X0_unfilled (q_mq G q_cI) 93 [(3, .int y1)] [] v (e1 y1 v)) : ∀ (n : Nat) (x6 : Int32) (x7 : Int32) (u4 : qM), qAW l G m_X0_unfilled (q_mq G q_cI) 34 [(0, .ref (q_ad G 2 o1)), (1, .int x1), (2, .int x2), (3, .int x6), (4, .int x7)] [] u4 (L_X0_unfilled_34 o1 x1 x2 n x6 x7 u4 e1) := by
  intro n
  induction n with
  | zero => intros; exact aw_none
  | succ n ih =>
    intro x6 x7 u4
    unfold L_X0_unfilled_34
    refine aw_iload (i := 4) dX0_unfilled_34 36 rfl 4 rfl ?_
    refine aw_iconst (x := 4) dX0_unfilled_36 37 rfl rfl ?_
    refine aw_icmp_ge dX0_unfilled_37 40 rfl 93 rfl (fun h4 => ?_) (fun h4 => ?_)
    · exact aw_conv [3] rfl (he1 x6 u4)
    · refine aw_aload_n (i := 0) dX0_unfilled_40 41 rfl rfl 0 rfl ?_
      refine aw_iload_n (i := 1) dX0_unfilled_41 42 rfl rfl 1 rfl ?_
      refine aw_iload_n (i := 2) dX0_unfilled_42 43 rfl rfl 2 rfl ?_
      refine aw_iload (i := 4) dX0_unfilled_43 45 rfl 4 rfl ?_
      refine aw_iadd dX0_unfilled_45 46 rfl ?_
      refine aw_iconst (x := 4) dX0_unfilled_46 47 rfl rfl ?_
      refine aw_irem dX0_unfilled_47 48 rfl (by decide) ?_
      refine aw_callV (M2 := m_X0_fineCell) (cv := q_cI) dX0_unfilled_48 51 rfl (k_X0_fineCell l G o1 x1 ((x2 + x7) - (x2 + x7) / 4 * 4) q1 u4) wd_52 wv_X0_fineCell pk_X0_fineCell rfl rfl ⟨by decide, by decide⟩ ⟨Nat.zero_le _, Nat.zero_le _⟩ at_2 (ok_2 q1) rfl rfl rfl (Nat.le_of_ble_eq_true rfl) (fun x8 u5 => ?_)
      show qAW l G m_X0_unfilled (q_mq G q_cI) 51 [(0, .ref (q_ad G 2 o1)), (1, .int x1), (2, .int x2), (3, .int x6), (4, .int x7)] [.int x8] u5 _
      refine aw_istore dX0_unfilled_51 53 rfl [(5, .int x8), (0, .ref (q_ad G 2 o1)), (1, .int x1), (2, .int x2), (3, .int x6), (4, .int x7)] (by decide) rfl ?_
      refine aw_iconst (x := 0) dX0_unfilled_53 54 rfl rfl ?_
      refine aw_iload_n (i := 3) dX0_unfilled_54 55 rfl rfl 4 rfl ?_
      refine aw_aload_n (i := 0) dX0_unfilled_55 56 rfl rfl 1 rfl ?_
      refine gf_X0_1 dX0_unfilled_56 59 rfl wd_19 (ok_2 q1) ?_
      refine aw_iload (i := 5) dX0_unfilled_59 61 rfl 0 rfl ?_
      refine aw_iald dX0_unfilled_61 62 rfl at_38 (al_38 _) (ok_38 q1) (fun h5 => ?_)
      refine aw_min dX0_unfilled_62 65 rfl wd_55 wd_38 wd_39 wd_40 (Nat.le_of_ble_eq_true rfl) (Nat.le_of_ble_eq_true rfl) (Nat.zero_le _) (Nat.zero_le _) ?_
      refine aw_max dX0_unfilled_65 68 rfl wd_56 wd_57 wd_39 wd_58 (Nat.le_of_ble_eq_true rfl) (Nat.le_of_ble_eq_true rfl) (Nat.zero_le _) (Nat.zero_le _) ?_
      refine aw_lti (fun x9 => ?_)
      refine aw_istore dX0_unfilled_68 70 rfl [(6, .int x9), (5, .int x8), (0, .ref (q_ad G 2 o1)), (1, .int x1), (2, .int x2), (3, .int x6), (4, .int x7)] (by decide) rfl ?_
      refine aw_aload_n (i := 0) dX0_unfilled_70 71 rfl rfl 2 rfl ?_
      refine gf_X0_1 dX0_unfilled_71 74 rfl wd_19 (ok_2 q1) ?_
      refine aw_iload (i := 5) dX0_unfilled_74 76 rfl 1 rfl ?_
      refine aw_dup2 dX0_unfilled_76 77 rfl rfl rfl ?_
      refine aw_iald dX0_unfilled_77 78 rfl at_38 (al_38 _) (ok_38 q1) (fun h6 => ?_)
      refine aw_iload (i := 6) dX0_unfilled_78 80 rfl 0 rfl ?_
      refine aw_isub dX0_unfilled_80 81 rfl ?_
      refine aw_iast dX0_unfilled_81 82 rfl at_38 (al_38 _) (ok_38 q1) (fun h7 => ?_)
      refine aw_ltm (fun u6 => ?_)
      refine aw_iload_n (i := 3) dX0_unfilled_82 83 rfl rfl 5 rfl ?_
      refine aw_iload (i := 6) dX0_unfilled_83 85 rfl 0 rfl ?_
      refine aw_isub dX0_unfilled_85 86 rfl ?_
      refine aw_lti (fun x10 => ?_)
      refine aw_istore_n dX0_unfilled_86 87 rfl rfl [(3, .int x10), (6, .int x9), (5, .int x8), (0, .ref (q_ad G 2 o1)), (1, .int x1), (2, .int x2), (4, .int x7)] (by decide) rfl ?_
      refine aw_iincx (i := 4) dX0_unfilled_87 90 rfl 6 rfl 1 rfl (fun x11 => [(4, .int x11), (3, .int x10), (6, .int x9), (5, .int x8), (0, .ref (q_ad G 2 o1)), (1, .int x1), (2, .int x2)]) (by decide) (fun _ => rfl) (fun x11 => ?_)
      refine aw_goto dX0_unfilled_90 34 rfl ?_
      exact aw_conv [4, 5, 6, 1, 0] rfl (ih x10 x11 u6)
set_option maxRecDepth 100000 in
set_option maxHeartbeats 4000000 in
theorem k_X0_unfilled (l : Launch) (G : qG) (o1 : Nat) (x1 : Int32) (x2 : Int32) (ho1 : o1 < 7) (u0 : qM) : qCt l G m_X0_unfilled q_cI [.ref (q_ad G 2 o1), .int x1, .int x2] u0 (f_X0_unfilled o1 x1 x2 u0) := by
  refine q_entry pk_X0_unfilled (Nat.le_of_ble_eq_true rfl) ?_
  show qAW l G m_X0_unfilled (q_mq G q_cI) 0 [(0, .ref (q_ad G 2 o1)), (1, .int x1), (2, .int x2)] [] u0 (f_X0_unfilled o1 x1 x2 u0)
  unfold f_X0_unfilled
  refine aw_aload_n (i := 0) dX0_unfilled_0 1 rfl rfl 0 rfl ?_
  refine gf_X0_1 dX0_unfilled_1 4 rfl wd_19 (ok_2 ho1) ?_
  refine aw_aload_n (i := 0) dX0_unfilled_4 5 rfl rfl 0 rfl ?_
  refine aw_iload_n (i := 1) dX0_unfilled_5 6 rfl rfl 1 rfl ?_
  refine aw_iload_n (i := 2) dX0_unfilled_6 7 rfl rfl 2 rfl ?_
  refine aw_callV (M2 := m_X0_fineCell) (cv := q_cI) dX0_unfilled_7 10 rfl (k_X0_fineCell l G o1 x1 x2 ho1 u0) wd_52 wv_X0_fineCell pk_X0_fineCell rfl rfl ⟨by decide, by decide⟩ ⟨Nat.zero_le _, Nat.zero_le _⟩ at_2 (ok_2 ho1) rfl rfl rfl (Nat.le_of_ble_eq_true rfl) (fun x3 u1 => ?_)
  show qAW l G m_X0_unfilled (q_mq G q_cI) 10 [(0, .ref (q_ad G 2 o1)), (1, .int x1), (2, .int x2)] [.int x3, .ref (q_ad G 38 o1)] u1 _
  refine aw_iald dX0_unfilled_10 11 rfl at_38 (al_38 _) (ok_38 ho1) (fun h1 => ?_)
  refine aw_ineg dX0_unfilled_11 12 rfl ?_
  refine aw_lti (fun x4 => ?_)
  refine aw_istore_n dX0_unfilled_12 13 rfl rfl [(3, .int x4), (0, .ref (q_ad G 2 o1)), (1, .int x1), (2, .int x2)] (by decide) rfl ?_
  refine aw_iload_n (i := 3) dX0_unfilled_13 14 rfl rfl 0 rfl ?_
  refine aw_if_gt dX0_unfilled_14 17 rfl 19 rfl (fun h2 => ?_) (fun h2 => ?_)
  · refine aw_aload_n (i := 0) dX0_unfilled_19 20 rfl rfl 1 rfl ?_
    refine gf_X0_1 dX0_unfilled_20 23 rfl wd_19 (ok_2 ho1) ?_
    refine aw_aload_n (i := 0) dX0_unfilled_23 24 rfl rfl 1 rfl ?_
    refine aw_iload_n (i := 1) dX0_unfilled_24 25 rfl rfl 2 rfl ?_
    refine aw_iload_n (i := 2) dX0_unfilled_25 26 rfl rfl 3 rfl ?_
    refine aw_callV (M2 := m_X0_fineCell) (cv := q_cI) dX0_unfilled_26 29 rfl (k_X0_fineCell l G o1 x1 x2 ho1 u1) wd_52 wv_X0_fineCell pk_X0_fineCell rfl rfl ⟨by decide, by decide⟩ ⟨Nat.zero_le _, Nat.zero_le _⟩ at_2 (ok_2 ho1) rfl rfl rfl (Nat.le_of_ble_eq_true rfl) (fun x5 u2 => ?_)
    show qAW l G m_X0_unfilled (q_mq G q_cI) 29 [(3, .int x4), (0, .ref (q_ad G 2 o1)), (1, .int x1), (2, .int x2)] [.int x5, .ref (q_ad G 38 o1)] u2 _
    refine aw_iconst (x := 0) dX0_unfilled_29 30 rfl rfl ?_
    refine aw_iast dX0_unfilled_30 31 rfl at_38 (al_38 _) (ok_38 ho1) (fun h3 => ?_)
    refine aw_ltm (fun u3 => ?_)
    refine aw_iconst (x := 1) dX0_unfilled_31 32 rfl rfl ?_
    refine aw_istore dX0_unfilled_32 34 rfl [(4, .int 1), (3, .int x4), (0, .ref (q_ad G 2 o1)), (1, .int x1), (2, .int x2)] (by decide) rfl ?_
    refine aw_conv [2, 3, 4, 1, 0] rfl (TL_X0_unfilled_34 l G o1 x1 x2 ho1 _ ?_ _ x4 1 u3)
    · intro x12 u7
      refine aw_iload_n (i := 3) dX0_unfilled_93 94 rfl rfl 0 rfl ?_
      exact aw_iret dX0_unfilled_94 rfl
  · refine aw_iconst (x := 0) dX0_unfilled_17 18 rfl rfl ?_
    exact aw_iret dX0_unfilled_18 rfl
theorem dX0_takeDown_0 : decode cX0_takeDown 0 = .ok (.aload_n 0, 1) := by decide +kernel
theorem dX0_takeDown_1 : decode cX0_takeDown 1 = .ok (.aload_n 0, 1) := by decide +kernel
theorem dX0_takeDown_2 : decode cX0_takeDown 2 = .ok (.getfield 15, 3) := by decide +kernel
theorem dX0_takeDown_5 : decode cX0_takeDown 5 = .ok (.iconst 0, 1) := by decide +kernel
theorem dX0_takeDown_6 : decode cX0_takeDown 6 = .ok (.invokevirtual 145, 3) := by decide +kernel
theorem dX0_takeDown_9 : decode cX0_takeDown 9 = .ok (.istore_n 2, 1) := by decide +kernel
theorem dX0_takeDown_10 : decode cX0_takeDown 10 = .ok (.iconst 0, 1) := by decide +kernel
theorem dX0_takeDown_11 : decode cX0_takeDown 11 = .ok (.istore_n 3, 1) := by decide +kernel
theorem dX0_takeDown_12 : decode cX0_takeDown 12 = .ok (.iload_n 3, 1) := by decide +kernel
theorem dX0_takeDown_13 : decode cX0_takeDown 13 = .ok (.aload_n 0, 1) := by decide +kernel
theorem dX0_takeDown_14 : decode cX0_takeDown 14 = .ok (.invokevirtual 153, 3) := by decide +kernel
theorem dX0_takeDown_17 : decode cX0_takeDown 17 = .ok (.iconst 4, 1) := by decide +kernel
theorem dX0_takeDown_18 : decode cX0_takeDown 18 = .ok (.idiv, 1) := by decide +kernel
theorem dX0_takeDown_19 : decode cX0_takeDown 19 = .ok (.if_icmp .ge 185, 3) := by decide +kernel
theorem dX0_takeDown_22 : decode cX0_takeDown 22 = .ok (.aload_n 0, 1) := by decide +kernel
theorem dX0_takeDown_23 : decode cX0_takeDown 23 = .ok (.iload_n 3, 1) := by decide +kernel
theorem dX0_takeDown_24 : decode cX0_takeDown 24 = .ok (.aload_n 1, 1) := by decide +kernel
theorem dX0_takeDown_25 : decode cX0_takeDown 25 = .ok (.invokevirtual 186, 3) := by decide +kernel
theorem dX0_takeDown_28 : decode cX0_takeDown 28 = .ok (.istore 4, 2) := by decide +kernel
theorem dX0_takeDown_30 : decode cX0_takeDown 30 = .ok (.aload_n 1, 1) := by decide +kernel
theorem dX0_takeDown_31 : decode cX0_takeDown 31 = .ok (.getfield 15, 3) := by decide +kernel
theorem dX0_takeDown_34 : decode cX0_takeDown 34 = .ok (.iload 4, 2) := by decide +kernel
theorem dX0_takeDown_36 : decode cX0_takeDown 36 = .ok (.iaload, 1) := by decide +kernel
theorem dX0_takeDown_37 : decode cX0_takeDown 37 = .ok (.aload_n 0, 1) := by decide +kernel
theorem dX0_takeDown_38 : decode cX0_takeDown 38 = .ok (.getfield 45, 3) := by decide +kernel
theorem dX0_takeDown_41 : decode cX0_takeDown 41 = .ok (.getfield 193, 3) := by decide +kernel
theorem dX0_takeDown_44 : decode cX0_takeDown 44 = .ok (.iload_n 3, 1) := by decide +kernel
theorem dX0_takeDown_45 : decode cX0_takeDown 45 = .ok (.iaload, 1) := by decide +kernel
theorem dX0_takeDown_46 : decode cX0_takeDown 46 = .ok (.isub, 1) := by decide +kernel
theorem dX0_takeDown_47 : decode cX0_takeDown 47 = .ok (.istore 5, 2) := by decide +kernel
theorem dX0_takeDown_49 : decode cX0_takeDown 49 = .ok (.iconst 0, 1) := by decide +kernel
theorem dX0_takeDown_50 : decode cX0_takeDown 50 = .ok (.istore 6, 2) := by decide +kernel
theorem dX0_takeDown_52 : decode cX0_takeDown 52 = .ok (.iload 6, 2) := by decide +kernel
theorem dX0_takeDown_54 : decode cX0_takeDown 54 = .ok (.iconst 4, 1) := by decide +kernel
theorem dX0_takeDown_55 : decode cX0_takeDown 55 = .ok (.if_icmp .ge 26, 3) := by decide +kernel
theorem dX0_takeDown_58 : decode cX0_takeDown 58 = .ok (.aload_n 0, 1) := by decide +kernel
theorem dX0_takeDown_59 : decode cX0_takeDown 59 = .ok (.getfield 15, 3) := by decide +kernel
theorem dX0_takeDown_62 : decode cX0_takeDown 62 = .ok (.aload_n 0, 1) := by decide +kernel
theorem dX0_takeDown_63 : decode cX0_takeDown 63 = .ok (.iload_n 3, 1) := by decide +kernel
theorem dX0_takeDown_64 : decode cX0_takeDown 64 = .ok (.iload 6, 2) := by decide +kernel
theorem dX0_takeDown_66 : decode cX0_takeDown 66 = .ok (.invokevirtual 190, 3) := by decide +kernel
theorem dX0_takeDown_69 : decode cX0_takeDown 69 = .ok (.dup2, 1) := by decide +kernel
theorem dX0_takeDown_70 : decode cX0_takeDown 70 = .ok (.iaload, 1) := by decide +kernel
theorem dX0_takeDown_71 : decode cX0_takeDown 71 = .ok (.iload 5, 2) := by decide +kernel
theorem dX0_takeDown_73 : decode cX0_takeDown 73 = .ok (.iadd, 1) := by decide +kernel
theorem dX0_takeDown_74 : decode cX0_takeDown 74 = .ok (.iastore, 1) := by decide +kernel
theorem dX0_takeDown_75 : decode cX0_takeDown 75 = .ok (.iinc 6 1, 3) := by decide +kernel
theorem dX0_takeDown_78 : decode cX0_takeDown 78 = .ok (.goto (-26), 3) := by decide +kernel
theorem dX0_takeDown_81 : decode cX0_takeDown 81 = .ok (.iconst 0, 1) := by decide +kernel
theorem dX0_takeDown_82 : decode cX0_takeDown 82 = .ok (.istore 6, 2) := by decide +kernel
theorem dX0_takeDown_84 : decode cX0_takeDown 84 = .ok (.iload 6, 2) := by decide +kernel
theorem dX0_takeDown_86 : decode cX0_takeDown 86 = .ok (.iconst 4, 1) := by decide +kernel
theorem dX0_takeDown_87 : decode cX0_takeDown 87 = .ok (.if_icmp .ge 28, 3) := by decide +kernel
theorem dX0_takeDown_90 : decode cX0_takeDown 90 = .ok (.aload_n 0, 1) := by decide +kernel
theorem dX0_takeDown_91 : decode cX0_takeDown 91 = .ok (.getfield 45, 3) := by decide +kernel
theorem dX0_takeDown_94 : decode cX0_takeDown 94 = .ok (.getfield 156, 3) := by decide +kernel
theorem dX0_takeDown_97 : decode cX0_takeDown 97 = .ok (.iload_n 3, 1) := by decide +kernel
theorem dX0_takeDown_98 : decode cX0_takeDown 98 = .ok (.dup2, 1) := by decide +kernel
theorem dX0_takeDown_99 : decode cX0_takeDown 99 = .ok (.iaload, 1) := by decide +kernel
theorem dX0_takeDown_100 : decode cX0_takeDown 100 = .ok (.aload_n 0, 1) := by decide +kernel
theorem dX0_takeDown_101 : decode cX0_takeDown 101 = .ok (.iload_n 3, 1) := by decide +kernel
theorem dX0_takeDown_102 : decode cX0_takeDown 102 = .ok (.iload 6, 2) := by decide +kernel
theorem dX0_takeDown_104 : decode cX0_takeDown 104 = .ok (.invokevirtual 206, 3) := by decide +kernel
theorem dX0_takeDown_107 : decode cX0_takeDown 107 = .ok (.isub, 1) := by decide +kernel
theorem dX0_takeDown_108 : decode cX0_takeDown 108 = .ok (.iastore, 1) := by decide +kernel
theorem dX0_takeDown_109 : decode cX0_takeDown 109 = .ok (.iinc 6 1, 3) := by decide +kernel
theorem dX0_takeDown_112 : decode cX0_takeDown 112 = .ok (.goto (-28), 3) := by decide +kernel
theorem dX0_takeDown_115 : decode cX0_takeDown 115 = .ok (.iconst 0, 1) := by decide +kernel
theorem dX0_takeDown_116 : decode cX0_takeDown 116 = .ok (.istore 6, 2) := by decide +kernel
theorem dX0_takeDown_118 : decode cX0_takeDown 118 = .ok (.iload 6, 2) := by decide +kernel
theorem dX0_takeDown_120 : decode cX0_takeDown 120 = .ok (.iconst 4, 1) := by decide +kernel
theorem dX0_takeDown_121 : decode cX0_takeDown 121 = .ok (.if_icmp .ge 61, 3) := by decide +kernel
theorem dX0_takeDown_124 : decode cX0_takeDown 124 = .ok (.iconst 0, 1) := by decide +kernel
theorem dX0_takeDown_125 : decode cX0_takeDown 125 = .ok (.aload_n 0, 1) := by decide +kernel
theorem dX0_takeDown_126 : decode cX0_takeDown 126 = .ok (.getfield 15, 3) := by decide +kernel
theorem dX0_takeDown_129 : decode cX0_takeDown 129 = .ok (.aload_n 0, 1) := by decide +kernel
theorem dX0_takeDown_130 : decode cX0_takeDown 130 = .ok (.iload_n 3, 1) := by decide +kernel
theorem dX0_takeDown_131 : decode cX0_takeDown 131 = .ok (.iload 6, 2) := by decide +kernel
theorem dX0_takeDown_133 : decode cX0_takeDown 133 = .ok (.invokevirtual 190, 3) := by decide +kernel
theorem dX0_takeDown_136 : decode cX0_takeDown 136 = .ok (.iaload, 1) := by decide +kernel
theorem dX0_takeDown_137 : decode cX0_takeDown 137 = .ok (.ldc 196, 2) := by decide +kernel
theorem dX0_takeDown_139 : decode cX0_takeDown 139 = .ok (.isub, 1) := by decide +kernel
theorem dX0_takeDown_140 : decode cX0_takeDown 140 = .ok (.invokestatic 203, 3) := by decide +kernel
theorem dX0_takeDown_143 : decode cX0_takeDown 143 = .ok (.istore 7, 2) := by decide +kernel
theorem dX0_takeDown_145 : decode cX0_takeDown 145 = .ok (.aload_n 0, 1) := by decide +kernel
theorem dX0_takeDown_146 : decode cX0_takeDown 146 = .ok (.getfield 15, 3) := by decide +kernel
theorem dX0_takeDown_149 : decode cX0_takeDown 149 = .ok (.aload_n 0, 1) := by decide +kernel
theorem dX0_takeDown_150 : decode cX0_takeDown 150 = .ok (.iload_n 3, 1) := by decide +kernel
theorem dX0_takeDown_151 : decode cX0_takeDown 151 = .ok (.iload 6, 2) := by decide +kernel
theorem dX0_takeDown_153 : decode cX0_takeDown 153 = .ok (.invokevirtual 190, 3) := by decide +kernel
theorem dX0_takeDown_156 : decode cX0_takeDown 156 = .ok (.dup2, 1) := by decide +kernel
theorem dX0_takeDown_157 : decode cX0_takeDown 157 = .ok (.iaload, 1) := by decide +kernel
theorem dX0_takeDown_158 : decode cX0_takeDown 158 = .ok (.iload 7, 2) := by decide +kernel
theorem dX0_takeDown_160 : decode cX0_takeDown 160 = .ok (.isub, 1) := by decide +kernel
theorem dX0_takeDown_161 : decode cX0_takeDown 161 = .ok (.iastore, 1) := by decide +kernel
theorem dX0_takeDown_162 : decode cX0_takeDown 162 = .ok (.aload_n 0, 1) := by decide +kernel
theorem dX0_takeDown_163 : decode cX0_takeDown 163 = .ok (.getfield 45, 3) := by decide +kernel
theorem dX0_takeDown_166 : decode cX0_takeDown 166 = .ok (.getfield 156, 3) := by decide +kernel
theorem dX0_takeDown_169 : decode cX0_takeDown 169 = .ok (.iload_n 3, 1) := by decide +kernel
theorem dX0_takeDown_170 : decode cX0_takeDown 170 = .ok (.dup2, 1) := by decide +kernel
theorem dX0_takeDown_171 : decode cX0_takeDown 171 = .ok (.iaload, 1) := by decide +kernel
theorem dX0_takeDown_172 : decode cX0_takeDown 172 = .ok (.iload 7, 2) := by decide +kernel
theorem dX0_takeDown_174 : decode cX0_takeDown 174 = .ok (.iadd, 1) := by decide +kernel
theorem dX0_takeDown_175 : decode cX0_takeDown 175 = .ok (.iastore, 1) := by decide +kernel
theorem dX0_takeDown_176 : decode cX0_takeDown 176 = .ok (.iinc 6 1, 3) := by decide +kernel
theorem dX0_takeDown_179 : decode cX0_takeDown 179 = .ok (.goto (-61), 3) := by decide +kernel
theorem dX0_takeDown_182 : decode cX0_takeDown 182 = .ok (.aload_n 0, 1) := by decide +kernel
theorem dX0_takeDown_183 : decode cX0_takeDown 183 = .ok (.getfield 45, 3) := by decide +kernel
theorem dX0_takeDown_186 : decode cX0_takeDown 186 = .ok (.getfield 193, 3) := by decide +kernel
theorem dX0_takeDown_189 : decode cX0_takeDown 189 = .ok (.iload_n 3, 1) := by decide +kernel
theorem dX0_takeDown_190 : decode cX0_takeDown 190 = .ok (.aload_n 1, 1) := by decide +kernel
theorem dX0_takeDown_191 : decode cX0_takeDown 191 = .ok (.getfield 15, 3) := by decide +kernel
theorem dX0_takeDown_194 : decode cX0_takeDown 194 = .ok (.iload 4, 2) := by decide +kernel
theorem dX0_takeDown_196 : decode cX0_takeDown 196 = .ok (.iaload, 1) := by decide +kernel
theorem dX0_takeDown_197 : decode cX0_takeDown 197 = .ok (.iastore, 1) := by decide +kernel
theorem dX0_takeDown_198 : decode cX0_takeDown 198 = .ok (.iinc 3 1, 3) := by decide +kernel
theorem dX0_takeDown_201 : decode cX0_takeDown 201 = .ok (.goto (-189), 3) := by decide +kernel
theorem dX0_takeDown_204 : decode cX0_takeDown 204 = .ok (.aload_n 0, 1) := by decide +kernel
theorem dX0_takeDown_205 : decode cX0_takeDown 205 = .ok (.aload_n 0, 1) := by decide +kernel
theorem dX0_takeDown_206 : decode cX0_takeDown 206 = .ok (.getfield 15, 3) := by decide +kernel
theorem dX0_takeDown_209 : decode cX0_takeDown 209 = .ok (.iconst 0, 1) := by decide +kernel
theorem dX0_takeDown_210 : decode cX0_takeDown 210 = .ok (.invokevirtual 145, 3) := by decide +kernel
theorem dX0_takeDown_213 : decode cX0_takeDown 213 = .ok (.iload_n 2, 1) := by decide +kernel
theorem dX0_takeDown_214 : decode cX0_takeDown 214 = .ok (.isub, 1) := by decide +kernel
theorem dX0_takeDown_215 : decode cX0_takeDown 215 = .ok (.ireturn, 1) := by decide +kernel
noncomputable def L_X0_takeDown_52 (o1 : Nat) (o2 : Nat) (x1 : Int32) (x2 : Int32) (x4 : Int32) (x5 : Int32) : Nat → Int32 → qM → (qM → Option (Int32 × qM)) → Option (Int32 × qM)
  | 0, _, _, _ => none
  | n + 1, x6, u5, e1 => if 4 ≤ x6 then e1 u5 else q_bd (f_X0_fineCell o1 x2 x6 u5) (fun (x7 : Int32) (u6 : qM) => q_ck (q_in x7 48) (q_ck (q_in x7 48) (q_lt (q_si u6 38 o1 (Int32.toNatClampNeg x7) ((u6.1 38 o1 (Int32.toNatClampNeg x7)) + x5)) (fun (u7 : qM) => q_lt (x6 + 1) (fun (x8 : Int32) => L_X0_takeDown_52 o1 o2 x1 x2 x4 x5 n x8 u7 e1)))))
noncomputable def L_X0_takeDown_84 (o1 : Nat) (o2 : Nat) (x1 : Int32) (x2 : Int32) (x4 : Int32) : Nat → Int32 → qM → (qM → Option (Int32 × qM)) → Option (Int32 × qM)
  | 0, _, _, _ => none
  | n + 1, x9, u9, e1 => if 4 ≤ x9 then e1 u9 else q_ck (q_in x2 12) (q_bd (f_X0_unfilled o1 x2 x9 u9) (fun (x10 : Int32) (u10 : qM) => q_ck (q_in x2 12) (q_lt (q_si u10 46 o1 (Int32.toNatClampNeg x2) ((u9.1 46 o1 (Int32.toNatClampNeg x2)) - x10)) (fun (u11 : qM) => q_lt (x9 + 1) (fun (x11 : Int32) => L_X0_takeDown_84 o1 o2 x1 x2 x4 n x11 u11 e1)))))
noncomputable def L_X0_takeDown_118 (o1 : Nat) (o2 : Nat) (x1 : Int32) (x2 : Int32) (x4 : Int32) : Nat → Int32 → qM → (qM → Option (Int32 × qM)) → Option (Int32 × qM)
  | 0, _, _, _ => none
  | n + 1, x12, u13, e1 => if 4 ≤ x12 then e1 u13 else q_bd (f_X0_fineCell o1 x2 x12 u13) (fun (x13 : Int32) (u14 : qM) => q_ck (q_in x13 48) (q_lt ((if 0 < ((u14.1 38 o1 (Int32.toNatClampNeg x13)) - 100000) then (u14.1 38 o1 (Int32.toNatClampNeg x13)) - 100000 else 0)) (fun (x14 : Int32) => q_bd (f_X0_fineCell o1 x2 x12 u14) (fun (x15 : Int32) (u15 : qM) => q_ck (q_in x15 48) (q_ck (q_in x15 48) (q_lt (q_si u15 38 o1 (Int32.toNatClampNeg x15) ((u15.1 38 o1 (Int32.toNatClampNeg x15)) - x14)) (fun (u16 : qM) => q_ck (q_in x2 12) (q_ck (q_in x2 12) (q_lt (q_si u16 46 o1 (Int32.toNatClampNeg x2) ((u16.1 46 o1 (Int32.toNatClampNeg x2)) + x14)) (fun (u17 : qM) => q_lt (x12 + 1) (fun (x16 : Int32) => L_X0_takeDown_118 o1 o2 x1 x2 x4 n x16 u17 e1)))))))))))
noncomputable def L_X0_takeDown_12 (o1 : Nat) (o2 : Nat) (x1 : Int32) : Nat → Int32 → qM → (qM → Option (Int32 × qM)) → Option (Int32 × qM)
  | 0, _, _, _ => none
  | n + 1, x2, u2, e1 => q_bd (f_X0_cells o1 u2) (fun (x3 : Int32) (u3 : qM) => if (x3 / 4) ≤ x2 then e1 u3 else q_bd (f_X0_underCell o1 x2 o2 u3) (fun (x4 : Int32) (u4 : qM) => q_ck (q_in x4 48) (q_ck (q_in x2 12) (q_lt ((u4.1 38 o2 (Int32.toNatClampNeg x4)) - (u4.1 45 o1 (Int32.toNatClampNeg x2))) (fun (x5 : Int32) => L_X0_takeDown_52 o1 o2 x1 x2 x4 x5 q_fu 0 u4 (fun u8 => L_X0_takeDown_84 o1 o2 x1 x2 x4 q_fu 0 u8 (fun u12 => L_X0_takeDown_118 o1 o2 x1 x2 x4 q_fu 0 u12 (fun u18 => q_ck (q_in x4 48) (q_ck (q_in x2 12) (q_lt (q_si u18 45 o1 (Int32.toNatClampNeg x2) (u18.1 38 o2 (Int32.toNatClampNeg x4))) (fun (u19 : qM) => q_lt (x2 + 1) (fun (x17 : Int32) => L_X0_takeDown_12 o1 o2 x1 n x17 u19 e1))))))))))))
noncomputable def f_X0_takeDown (o1 : Nat) (o2 : Nat) (u0 : qM) : Option (Int32 × qM) :=
  q_bd (f_X0_sum o1 38 o1 0 u0) (fun (x1 : Int32) (u1 : qM) => L_X0_takeDown_12 o1 o2 x1 q_fu 0 u1 (fun u20 => q_bd (f_X0_sum o1 38 o1 0 u20) (fun (x18 : Int32) (u21 : qM) => some (x18 - x1, u21))))
set_option maxRecDepth 100000 in
set_option maxHeartbeats 4000000 in
theorem TL_X0_takeDown_52 (l : Launch) (G : qG) (o1 : Nat) (o2 : Nat) (x1 : Int32) (x2 : Int32) (x4 : Int32) (x5 : Int32) (q3 : o1 < 7) (q4 : o2 < 7) (e1 : qM → Option (Int32 × qM)) (he1 : ∀  (v : qM), qAW l G m_X0_takeDown (q_mq G q_cI) 81 [(0, .ref (q_ad G 2 o1)), (1, .ref (q_ad G 2 o2)), (2, .int x1), (3, .int x2), (4, .int x4)] [] v (e1 v)) : ∀ (n : Nat) (x6 : Int32) (u5 : qM), qAW l G m_X0_takeDown (q_mq G q_cI) 52 [(0, .ref (q_ad G 2 o1)), (1, .ref (q_ad G 2 o2)), (2, .int x1), (3, .int x2), (4, .int x4), (5, .int x5), (6, .int x6)] [] u5 (L_X0_takeDown_52 o1 o2 x1 x2 x4 x5 n x6 u5 e1) := by
  intro n
  induction n with
  | zero => intros; exact aw_none
  | succ n ih =>
    intro x6 u5
    unfold L_X0_takeDown_52
    refine aw_iload (i := 6) dX0_takeDown_52 54 rfl 6 rfl ?_
    refine aw_iconst (x := 4) dX0_takeDown_54 55 rfl rfl ?_
    refine aw_icmp_ge dX0_takeDown_55 58 rfl 81 rfl (fun h4 => ?_) (fun h4 => ?_)
    · exact aw_conv [0, 1, 2, 3, 4] rfl (he1 u5)
    · refine aw_aload_n (i := 0) dX0_takeDown_58 59 rfl rfl 0 rfl ?_
      refine gf_X0_1 dX0_takeDown_59 62 rfl wd_19 (ok_2 q3) ?_
      refine aw_aload_n (i := 0) dX0_takeDown_62 63 rfl rfl 0 rfl ?_
      refine aw_iload_n (i := 3) dX0_takeDown_63 64 rfl rfl 3 rfl ?_
      refine aw_iload (i := 6) dX0_takeDown_64 66 rfl 6 rfl ?_
      refine aw_callV (M2 := m_X0_fineCell) (cv := q_cI) dX0_takeDown_66 69 rfl (k_X0_fineCell l G o1 x2 x6 q3 u5) wd_52 wv_X0_fineCell pk_X0_fineCell rfl rfl ⟨by decide, by decide⟩ ⟨Nat.zero_le _, Nat.zero_le _⟩ at_2 (ok_2 q3) rfl rfl rfl (Nat.le_of_ble_eq_true rfl) (fun x7 u6 => ?_)
      show qAW l G m_X0_takeDown (q_mq G q_cI) 69 [(0, .ref (q_ad G 2 o1)), (1, .ref (q_ad G 2 o2)), (2, .int x1), (3, .int x2), (4, .int x4), (5, .int x5), (6, .int x6)] [.int x7, .ref (q_ad G 38 o1)] u6 _
      refine aw_dup2 dX0_takeDown_69 70 rfl rfl rfl ?_
      refine aw_iald dX0_takeDown_70 71 rfl at_38 (al_38 _) (ok_38 q3) (fun h5 => ?_)
      refine aw_iload (i := 5) dX0_takeDown_71 73 rfl 5 rfl ?_
      refine aw_iadd dX0_takeDown_73 74 rfl ?_
      refine aw_iast dX0_takeDown_74 75 rfl at_38 (al_38 _) (ok_38 q3) (fun h6 => ?_)
      refine aw_ltm (fun u7 => ?_)
      refine aw_iincx (i := 6) dX0_takeDown_75 78 rfl 6 rfl 1 rfl (fun x8 => [(6, .int x8), (0, .ref (q_ad G 2 o1)), (1, .ref (q_ad G 2 o2)), (2, .int x1), (3, .int x2), (4, .int x4), (5, .int x5)]) (by decide) (fun _ => rfl) (fun x8 => ?_)
      refine aw_goto dX0_takeDown_78 52 rfl ?_
      exact aw_conv [1, 2, 3, 4, 5, 6, 0] rfl (ih x8 u7)
set_option maxRecDepth 100000 in
set_option maxHeartbeats 4000000 in
theorem TL_X0_takeDown_84 (l : Launch) (G : qG) (o1 : Nat) (o2 : Nat) (x1 : Int32) (x2 : Int32) (x4 : Int32) (q5 : o1 < 7) (q6 : o2 < 7) (e1 : qM → Option (Int32 × qM)) (he1 : ∀  (v : qM), qAW l G m_X0_takeDown (q_mq G q_cI) 115 [(0, .ref (q_ad G 2 o1)), (1, .ref (q_ad G 2 o2)), (2, .int x1), (3, .int x2), (4, .int x4)] [] v (e1 v)) : ∀ (n : Nat) (x9 : Int32) (u9 : qM), qAW l G m_X0_takeDown (q_mq G q_cI) 84 [(0, .ref (q_ad G 2 o1)), (1, .ref (q_ad G 2 o2)), (2, .int x1), (3, .int x2), (4, .int x4), (6, .int x9)] [] u9 (L_X0_takeDown_84 o1 o2 x1 x2 x4 n x9 u9 e1) := by
  intro n
  induction n with
  | zero => intros; exact aw_none
  | succ n ih =>
    intro x9 u9
    unfold L_X0_takeDown_84
    refine aw_iload (i := 6) dX0_takeDown_84 86 rfl 5 rfl ?_
    refine aw_iconst (x := 4) dX0_takeDown_86 87 rfl rfl ?_
    refine aw_icmp_ge dX0_takeDown_87 90 rfl 115 rfl (fun h7 => ?_) (fun h7 => ?_)
    · exact aw_conv [0, 1, 2, 3, 4] rfl (he1 u9)
    · refine aw_aload_n (i := 0) dX0_takeDown_90 91 rfl rfl 0 rfl ?_
      refine gf_X0_7 dX0_takeDown_91 94 rfl wd_17 (ok_2 q5) ?_
      refine gfN_X4_1 dX0_takeDown_94 97 rfl "SeaCells" (ns_22) (ok_5 q5) ?_
      refine aw_iload_n (i := 3) dX0_takeDown_97 98 rfl rfl 3 rfl ?_
      refine aw_dup2 dX0_takeDown_98 99 rfl rfl rfl ?_
      refine aw_iald dX0_takeDown_99 100 rfl at_46 (al_46 _) (ok_46 q5) (fun h8 => ?_)
      refine aw_aload_n (i := 0) dX0_takeDown_100 101 rfl rfl 0 rfl ?_
      refine aw_iload_n (i := 3) dX0_takeDown_101 102 rfl rfl 3 rfl ?_
      refine aw_iload (i := 6) dX0_takeDown_102 104 rfl 5 rfl ?_
      refine aw_callV (M2 := m_X0_unfilled) (cv := q_cI) dX0_takeDown_104 107 rfl (k_X0_unfilled l G o1 x2 x9 q5 u9) wd_59 wv_X0_unfilled pk_X0_unfilled rfl rfl ⟨by decide, by decide⟩ ⟨Nat.zero_le _, Nat.zero_le _⟩ at_2 (ok_2 q5) rfl rfl rfl (Nat.le_of_ble_eq_true rfl) (fun x10 u10 => ?_)
      show qAW l G m_X0_takeDown (q_mq G q_cI) 107 [(0, .ref (q_ad G 2 o1)), (1, .ref (q_ad G 2 o2)), (2, .int x1), (3, .int x2), (4, .int x4), (6, .int x9)] [.int x10, .int (u9.1 46 o1 (Int32.toNatClampNeg x2)), .int x2, .ref (q_ad G 46 o1)] u10 _
      refine aw_isub dX0_takeDown_107 108 rfl ?_
      refine aw_iast dX0_takeDown_108 109 rfl at_46 (al_46 _) (ok_46 q5) (fun h9 => ?_)
      refine aw_ltm (fun u11 => ?_)
      refine aw_iincx (i := 6) dX0_takeDown_109 112 rfl 5 rfl 1 rfl (fun x11 => [(6, .int x11), (0, .ref (q_ad G 2 o1)), (1, .ref (q_ad G 2 o2)), (2, .int x1), (3, .int x2), (4, .int x4)]) (by decide) (fun _ => rfl) (fun x11 => ?_)
      refine aw_goto dX0_takeDown_112 84 rfl ?_
      exact aw_conv [1, 2, 3, 4, 5, 0] rfl (ih x11 u11)
set_option maxRecDepth 100000 in
set_option maxHeartbeats 4000000 in
theorem TL_X0_takeDown_118 (l : Launch) (G : qG) (o1 : Nat) (o2 : Nat) (x1 : Int32) (x2 : Int32) (x4 : Int32) (q7 : o1 < 7) (q8 : o2 < 7) (e1 : qM → Option (Int32 × qM)) (he1 : ∀  (v : qM), qAW l G m_X0_takeDown (q_mq G q_cI) 182 [(0, .ref (q_ad G 2 o1)), (1, .ref (q_ad G 2 o2)), (2, .int x1), (3, .int x2), (4, .int x4)] [] v (e1 v)) : ∀ (n : Nat) (x12 : Int32) (u13 : qM), qAW l G m_X0_takeDown (q_mq G q_cI) 118 [(0, .ref (q_ad G 2 o1)), (1, .ref (q_ad G 2 o2)), (2, .int x1), (3, .int x2), (4, .int x4), (6, .int x12)] [] u13 (L_X0_takeDown_118 o1 o2 x1 x2 x4 n x12 u13 e1) := by
  intro n
  induction n with
  | zero => intros; exact aw_none
  | succ n ih =>
    intro x12 u13
    unfold L_X0_takeDown_118
    refine aw_iload (i := 6) dX0_takeDown_118 120 rfl 5 rfl ?_
    refine aw_iconst (x := 4) dX0_takeDown_120 121 rfl rfl ?_
    refine aw_icmp_ge dX0_takeDown_121 124 rfl 182 rfl (fun h10 => ?_) (fun h10 => ?_)
    · exact aw_conv [0, 1, 2, 3, 4] rfl (he1 u13)
    · refine aw_iconst (x := 0) dX0_takeDown_124 125 rfl rfl ?_
      refine aw_aload_n (i := 0) dX0_takeDown_125 126 rfl rfl 0 rfl ?_
      refine gf_X0_1 dX0_takeDown_126 129 rfl wd_19 (ok_2 q7) ?_
      refine aw_aload_n (i := 0) dX0_takeDown_129 130 rfl rfl 0 rfl ?_
      refine aw_iload_n (i := 3) dX0_takeDown_130 131 rfl rfl 3 rfl ?_
      refine aw_iload (i := 6) dX0_takeDown_131 133 rfl 5 rfl ?_
      refine aw_callV (M2 := m_X0_fineCell) (cv := q_cI) dX0_takeDown_133 136 rfl (k_X0_fineCell l G o1 x2 x12 q7 u13) wd_52 wv_X0_fineCell pk_X0_fineCell rfl rfl ⟨by decide, by decide⟩ ⟨Nat.zero_le _, Nat.zero_le _⟩ at_2 (ok_2 q7) rfl rfl rfl (Nat.le_of_ble_eq_true rfl) (fun x13 u14 => ?_)
      show qAW l G m_X0_takeDown (q_mq G q_cI) 136 [(0, .ref (q_ad G 2 o1)), (1, .ref (q_ad G 2 o2)), (2, .int x1), (3, .int x2), (4, .int x4), (6, .int x12)] [.int x13, .ref (q_ad G 38 o1), .int 0] u14 _
      refine aw_iald dX0_takeDown_136 137 rfl at_38 (al_38 _) (ok_38 q7) (fun h11 => ?_)
      refine aw_ldc (x := 100000) dX0_takeDown_137 139 rfl wd_53 ?_
      refine aw_isub dX0_takeDown_139 140 rfl ?_
      refine aw_max dX0_takeDown_140 143 rfl wd_56 wd_57 wd_39 wd_58 (Nat.le_of_ble_eq_true rfl) (Nat.le_of_ble_eq_true rfl) (Nat.zero_le _) (Nat.zero_le _) ?_
      refine aw_lti (fun x14 => ?_)
      refine aw_istore dX0_takeDown_143 145 rfl [(7, .int x14), (0, .ref (q_ad G 2 o1)), (1, .ref (q_ad G 2 o2)), (2, .int x1), (3, .int x2), (4, .int x4), (6, .int x12)] (by decide) rfl ?_
      refine aw_aload_n (i := 0) dX0_takeDown_145 146 rfl rfl 1 rfl ?_
      refine gf_X0_1 dX0_takeDown_146 149 rfl wd_19 (ok_2 q7) ?_
      refine aw_aload_n (i := 0) dX0_takeDown_149 150 rfl rfl 1 rfl ?_
      refine aw_iload_n (i := 3) dX0_takeDown_150 151 rfl rfl 4 rfl ?_
      refine aw_iload (i := 6) dX0_takeDown_151 153 rfl 6 rfl ?_
      refine aw_callV (M2 := m_X0_fineCell) (cv := q_cI) dX0_takeDown_153 156 rfl (k_X0_fineCell l G o1 x2 x12 q7 u14) wd_52 wv_X0_fineCell pk_X0_fineCell rfl rfl ⟨by decide, by decide⟩ ⟨Nat.zero_le _, Nat.zero_le _⟩ at_2 (ok_2 q7) rfl rfl rfl (Nat.le_of_ble_eq_true rfl) (fun x15 u15 => ?_)
      show qAW l G m_X0_takeDown (q_mq G q_cI) 156 [(7, .int x14), (0, .ref (q_ad G 2 o1)), (1, .ref (q_ad G 2 o2)), (2, .int x1), (3, .int x2), (4, .int x4), (6, .int x12)] [.int x15, .ref (q_ad G 38 o1)] u15 _
      refine aw_dup2 dX0_takeDown_156 157 rfl rfl rfl ?_
      refine aw_iald dX0_takeDown_157 158 rfl at_38 (al_38 _) (ok_38 q7) (fun h12 => ?_)
      refine aw_iload (i := 7) dX0_takeDown_158 160 rfl 0 rfl ?_
      refine aw_isub dX0_takeDown_160 161 rfl ?_
      refine aw_iast dX0_takeDown_161 162 rfl at_38 (al_38 _) (ok_38 q7) (fun h13 => ?_)
      refine aw_ltm (fun u16 => ?_)
      refine aw_aload_n (i := 0) dX0_takeDown_162 163 rfl rfl 1 rfl ?_
      refine gf_X0_7 dX0_takeDown_163 166 rfl wd_17 (ok_2 q7) ?_
      refine gfN_X4_1 dX0_takeDown_166 169 rfl "SeaCells" (ns_22) (ok_5 q7) ?_
      refine aw_iload_n (i := 3) dX0_takeDown_169 170 rfl rfl 4 rfl ?_
      refine aw_dup2 dX0_takeDown_170 171 rfl rfl rfl ?_
      refine aw_iald dX0_takeDown_171 172 rfl at_46 (al_46 _) (ok_46 q7) (fun h14 => ?_)
      refine aw_iload (i := 7) dX0_takeDown_172 174 rfl 0 rfl ?_
      refine aw_iadd dX0_takeDown_174 175 rfl ?_
      refine aw_iast dX0_takeDown_175 176 rfl at_46 (al_46 _) (ok_46 q7) (fun h15 => ?_)
      refine aw_ltm (fun u17 => ?_)
      refine aw_iincx (i := 6) dX0_takeDown_176 179 rfl 6 rfl 1 rfl (fun x16 => [(6, .int x16), (7, .int x14), (0, .ref (q_ad G 2 o1)), (1, .ref (q_ad G 2 o2)), (2, .int x1), (3, .int x2), (4, .int x4)]) (by decide) (fun _ => rfl) (fun x16 => ?_)
      refine aw_goto dX0_takeDown_179 118 rfl ?_
      exact aw_conv [2, 3, 4, 5, 6, 0] rfl (ih x16 u17)
set_option maxRecDepth 100000 in
set_option maxHeartbeats 4000000 in
theorem TL_X0_takeDown_12 (l : Launch) (G : qG) (o1 : Nat) (o2 : Nat) (x1 : Int32) (q1 : o1 < 7) (q2 : o2 < 7) (e1 : qM → Option (Int32 × qM)) (he1 : ∀  (v : qM), qAW l G m_X0_takeDown (q_mq G q_cI) 204 [(0, .ref (q_ad G 2 o1)), (2, .int x1)] [] v (e1 v)) : ∀ (n : Nat) (x2 : Int32) (u2 : qM), qAW l G m_X0_takeDown (q_mq G q_cI) 12 [(0, .ref (q_ad G 2 o1)), (1, .ref (q_ad G 2 o2)), (2, .int x1), (3, .int x2)] [] u2 (L_X0_takeDown_12 o1 o2 x1 n x2 u2 e1) := by
  intro n
  induction n with
  | zero => intros; exact aw_none
  | succ n ih =>
    intro x2 u2
    unfold L_X0_takeDown_12
    refine aw_iload_n (i := 3) dX0_takeDown_12 13 rfl rfl 3 rfl ?_
    refine aw_aload_n (i := 0) dX0_takeDown_13 14 rfl rfl 0 rfl ?_
    refine aw_callV (M2 := m_X0_cells) (cv := q_cI) dX0_takeDown_14 17 rfl (k_X0_cells l G o1 q1 u2) wd_43 wv_X0_cells pk_X0_cells rfl rfl ⟨by decide, by decide⟩ ⟨Nat.zero_le _, Nat.zero_le _⟩ at_2 (ok_2 q1) rfl rfl rfl (Nat.le_of_ble_eq_true rfl) (fun x3 u3 => ?_)
    show qAW l G m_X0_takeDown (q_mq G q_cI) 17 [(0, .ref (q_ad G 2 o1)), (1, .ref (q_ad G 2 o2)), (2, .int x1), (3, .int x2)] [.int x3, .int x2] u3 _
    refine aw_iconst (x := 4) dX0_takeDown_17 18 rfl rfl ?_
    refine aw_idiv dX0_takeDown_18 19 rfl (by decide) ?_
    refine aw_icmp_ge dX0_takeDown_19 22 rfl 204 rfl (fun h1 => ?_) (fun h1 => ?_)
    · exact aw_conv [0, 2] rfl (he1 u3)
    · refine aw_aload_n (i := 0) dX0_takeDown_22 23 rfl rfl 0 rfl ?_
      refine aw_iload_n (i := 3) dX0_takeDown_23 24 rfl rfl 3 rfl ?_
      refine aw_aload_n (i := 1) dX0_takeDown_24 25 rfl rfl 1 rfl ?_
      refine aw_callV (M2 := m_X0_underCell) (cv := q_cI) dX0_takeDown_25 28 rfl (k_X0_underCell l G o1 x2 o2 q1 q2 u3) wd_51 wv_X0_underCell pk_X0_underCell rfl rfl ⟨by decide, by decide⟩ ⟨Nat.zero_le _, Nat.zero_le _⟩ at_2 (ok_2 q1) rfl rfl rfl (Nat.le_of_ble_eq_true rfl) (fun x4 u4 => ?_)
      show qAW l G m_X0_takeDown (q_mq G q_cI) 28 [(0, .ref (q_ad G 2 o1)), (1, .ref (q_ad G 2 o2)), (2, .int x1), (3, .int x2)] [.int x4] u4 _
      refine aw_istore dX0_takeDown_28 30 rfl [(4, .int x4), (0, .ref (q_ad G 2 o1)), (1, .ref (q_ad G 2 o2)), (2, .int x1), (3, .int x2)] (by decide) rfl ?_
      refine aw_aload_n (i := 1) dX0_takeDown_30 31 rfl rfl 2 rfl ?_
      refine gf_X0_1 dX0_takeDown_31 34 rfl wd_19 (ok_2 q2) ?_
      refine aw_iload (i := 4) dX0_takeDown_34 36 rfl 0 rfl ?_
      refine aw_iald dX0_takeDown_36 37 rfl at_38 (al_38 _) (ok_38 q2) (fun h2 => ?_)
      refine aw_aload_n (i := 0) dX0_takeDown_37 38 rfl rfl 1 rfl ?_
      refine gf_X0_7 dX0_takeDown_38 41 rfl wd_17 (ok_2 q1) ?_
      refine gfN_X4_0 dX0_takeDown_41 44 rfl "SeaCells" (ns_21) (ok_5 q1) ?_
      refine aw_iload_n (i := 3) dX0_takeDown_44 45 rfl rfl 4 rfl ?_
      refine aw_iald dX0_takeDown_45 46 rfl at_45 (al_45 _) (ok_45 q1) (fun h3 => ?_)
      refine aw_isub dX0_takeDown_46 47 rfl ?_
      refine aw_lti (fun x5 => ?_)
      refine aw_istore dX0_takeDown_47 49 rfl [(5, .int x5), (4, .int x4), (0, .ref (q_ad G 2 o1)), (1, .ref (q_ad G 2 o2)), (2, .int x1), (3, .int x2)] (by decide) rfl ?_
      refine aw_iconst (x := 0) dX0_takeDown_49 50 rfl rfl ?_
      refine aw_istore dX0_takeDown_50 52 rfl [(6, .int 0), (5, .int x5), (4, .int x4), (0, .ref (q_ad G 2 o1)), (1, .ref (q_ad G 2 o2)), (2, .int x1), (3, .int x2)] (by decide) rfl ?_
      refine aw_conv [3, 4, 5, 6, 2, 1, 0] rfl (TL_X0_takeDown_52 l G o1 o2 x1 x2 x4 x5 q1 q2 _ ?_ _ 0 u4)
      · intro u8
        refine aw_iconst (x := 0) dX0_takeDown_81 82 rfl rfl ?_
        refine aw_istore dX0_takeDown_82 84 rfl [(6, .int 0), (0, .ref (q_ad G 2 o1)), (1, .ref (q_ad G 2 o2)), (2, .int x1), (3, .int x2), (4, .int x4)] (by decide) rfl ?_
        refine aw_conv [1, 2, 3, 4, 5, 0] rfl (TL_X0_takeDown_84 l G o1 o2 x1 x2 x4 q1 q2 _ ?_ _ 0 u8)
        · intro u12
          refine aw_iconst (x := 0) dX0_takeDown_115 116 rfl rfl ?_
          refine aw_istore dX0_takeDown_116 118 rfl [(6, .int 0), (0, .ref (q_ad G 2 o1)), (1, .ref (q_ad G 2 o2)), (2, .int x1), (3, .int x2), (4, .int x4)] (by decide) rfl ?_
          refine aw_conv [1, 2, 3, 4, 5, 0] rfl (TL_X0_takeDown_118 l G o1 o2 x1 x2 x4 q1 q2 _ ?_ _ 0 u12)
          · intro u18
            refine aw_aload_n (i := 0) dX0_takeDown_182 183 rfl rfl 0 rfl ?_
            refine gf_X0_7 dX0_takeDown_183 186 rfl wd_17 (ok_2 q1) ?_
            refine gfN_X4_0 dX0_takeDown_186 189 rfl "SeaCells" (ns_21) (ok_5 q1) ?_
            refine aw_iload_n (i := 3) dX0_takeDown_189 190 rfl rfl 3 rfl ?_
            refine aw_aload_n (i := 1) dX0_takeDown_190 191 rfl rfl 1 rfl ?_
            refine gf_X0_1 dX0_takeDown_191 194 rfl wd_19 (ok_2 q2) ?_
            refine aw_iload (i := 4) dX0_takeDown_194 196 rfl 4 rfl ?_
            refine aw_iald dX0_takeDown_196 197 rfl at_38 (al_38 _) (ok_38 q2) (fun h16 => ?_)
            refine aw_iast dX0_takeDown_197 198 rfl at_45 (al_45 _) (ok_45 q1) (fun h17 => ?_)
            refine aw_ltm (fun u19 => ?_)
            refine aw_iincx (i := 3) dX0_takeDown_198 201 rfl 3 rfl 1 rfl (fun x17 => [(3, .int x17), (0, .ref (q_ad G 2 o1)), (1, .ref (q_ad G 2 o2)), (2, .int x1), (4, .int x4)]) (by decide) (fun _ => rfl) (fun x17 => ?_)
            refine aw_goto dX0_takeDown_201 12 rfl ?_
            exact aw_conv [1, 2, 3, 0] rfl (ih x17 u19)
set_option maxRecDepth 100000 in
set_option maxHeartbeats 4000000 in
theorem k_X0_takeDown (l : Launch) (G : qG) (o1 : Nat) (o2 : Nat) (ho1 : o1 < 7) (ho2 : o2 < 7) (u0 : qM) : qCt l G m_X0_takeDown q_cI [.ref (q_ad G 2 o1), .ref (q_ad G 2 o2)] u0 (f_X0_takeDown o1 o2 u0) := by
  refine q_entry pk_X0_takeDown (Nat.le_of_ble_eq_true rfl) ?_
  show qAW l G m_X0_takeDown (q_mq G q_cI) 0 [(0, .ref (q_ad G 2 o1)), (1, .ref (q_ad G 2 o2))] [] u0 (f_X0_takeDown o1 o2 u0)
  unfold f_X0_takeDown
  refine aw_aload_n (i := 0) dX0_takeDown_0 1 rfl rfl 0 rfl ?_
  refine aw_aload_n (i := 0) dX0_takeDown_1 2 rfl rfl 0 rfl ?_
  refine gf_X0_1 dX0_takeDown_2 5 rfl wd_19 (ok_2 ho1) ?_
  refine aw_iconst (x := 0) dX0_takeDown_5 6 rfl rfl ?_
  refine aw_callV (M2 := m_X0_sum) (cv := q_cI) dX0_takeDown_6 9 rfl (k_X0_sum l G o1 38 o1 0 ho1 at_38 (ok_38 ho1) u0) wd_44 wv_X0_sum pk_X0_sum rfl rfl ⟨by decide, by decide⟩ ⟨Nat.zero_le _, Nat.zero_le _⟩ at_2 (ok_2 ho1) rfl rfl rfl (Nat.le_of_ble_eq_true rfl) (fun x1 u1 => ?_)
  show qAW l G m_X0_takeDown (q_mq G q_cI) 9 [(0, .ref (q_ad G 2 o1)), (1, .ref (q_ad G 2 o2))] [.int x1] u1 _
  refine aw_istore_n dX0_takeDown_9 10 rfl rfl [(2, .int x1), (0, .ref (q_ad G 2 o1)), (1, .ref (q_ad G 2 o2))] (by decide) rfl ?_
  refine aw_iconst (x := 0) dX0_takeDown_10 11 rfl rfl ?_
  refine aw_istore_n dX0_takeDown_11 12 rfl rfl [(3, .int 0), (2, .int x1), (0, .ref (q_ad G 2 o1)), (1, .ref (q_ad G 2 o2))] (by decide) rfl ?_
  refine aw_conv [2, 3, 1, 0] rfl (TL_X0_takeDown_12 l G o1 o2 x1 ho1 ho2 _ ?_ _ 0 u1)
  · intro u20
    refine aw_aload_n (i := 0) dX0_takeDown_204 205 rfl rfl 0 rfl ?_
    refine aw_aload_n (i := 0) dX0_takeDown_205 206 rfl rfl 0 rfl ?_
    refine gf_X0_1 dX0_takeDown_206 209 rfl wd_19 (ok_2 ho1) ?_
    refine aw_iconst (x := 0) dX0_takeDown_209 210 rfl rfl ?_
    refine aw_callV (M2 := m_X0_sum) (cv := q_cI) dX0_takeDown_210 213 rfl (k_X0_sum l G o1 38 o1 0 ho1 at_38 (ok_38 ho1) u20) wd_44 wv_X0_sum pk_X0_sum rfl rfl ⟨by decide, by decide⟩ ⟨Nat.zero_le _, Nat.zero_le _⟩ at_2 (ok_2 ho1) rfl rfl rfl (Nat.le_of_ble_eq_true rfl) (fun x18 u21 => ?_)
    show qAW l G m_X0_takeDown (q_mq G q_cI) 213 [(0, .ref (q_ad G 2 o1)), (2, .int x1)] [.int x18] u21 _
    refine aw_iload_n (i := 2) dX0_takeDown_213 214 rfl rfl 1 rfl ?_
    refine aw_isub dX0_takeDown_214 215 rfl ?_
    exact aw_iret dX0_takeDown_215 rfl
theorem dX0_digested_0 : decode cX0_digested 0 = .ok (.aload_n 0, 1) := by decide +kernel
theorem dX0_digested_1 : decode cX0_digested 1 = .ok (.getfield 62, 3) := by decide +kernel
theorem dX0_digested_4 : decode cX0_digested 4 = .ok (.ifCond .ne 11, 3) := by decide +kernel
theorem dX0_digested_7 : decode cX0_digested 7 = .ok (.ldc2_w 209, 3) := by decide +kernel
theorem dX0_digested_10 : decode cX0_digested 10 = .ok (.lload_n 1, 1) := by decide +kernel
theorem dX0_digested_11 : decode cX0_digested 11 = .ok (.lmul, 1) := by decide +kernel
theorem dX0_digested_12 : decode cX0_digested 12 = .ok (.lconst 1, 1) := by decide +kernel
theorem dX0_digested_13 : decode cX0_digested 13 = .ok (.lsub, 1) := by decide +kernel
theorem dX0_digested_14 : decode cX0_digested 14 = .ok (.lreturn, 1) := by decide +kernel
theorem dX0_digested_15 : decode cX0_digested 15 = .ok (.lload_n 1, 1) := by decide +kernel
theorem dX0_digested_16 : decode cX0_digested 16 = .ok (.lstore_n 3, 1) := by decide +kernel
theorem dX0_digested_17 : decode cX0_digested 17 = .ok (.iconst 0, 1) := by decide +kernel
theorem dX0_digested_18 : decode cX0_digested 18 = .ok (.istore 5, 2) := by decide +kernel
theorem dX0_digested_20 : decode cX0_digested 20 = .ok (.iload 5, 2) := by decide +kernel
theorem dX0_digested_22 : decode cX0_digested 22 = .ok (.bipush 10, 2) := by decide +kernel
theorem dX0_digested_24 : decode cX0_digested 24 = .ok (.if_icmp .gt 23, 3) := by decide +kernel
theorem dX0_digested_27 : decode cX0_digested 27 = .ok (.ldc2_w 209, 3) := by decide +kernel
theorem dX0_digested_30 : decode cX0_digested 30 = .ok (.lload_n 3, 1) := by decide +kernel
theorem dX0_digested_31 : decode cX0_digested 31 = .ok (.lmul, 1) := by decide +kernel
theorem dX0_digested_32 : decode cX0_digested 32 = .ok (.aload_n 0, 1) := by decide +kernel
theorem dX0_digested_33 : decode cX0_digested 33 = .ok (.iload 5, 2) := by decide +kernel
theorem dX0_digested_35 : decode cX0_digested 35 = .ok (.invokevirtual 211, 3) := by decide +kernel
theorem dX0_digested_38 : decode cX0_digested 38 = .ok (.i2l, 1) := by decide +kernel
theorem dX0_digested_39 : decode cX0_digested 39 = .ok (.ladd, 1) := by decide +kernel
theorem dX0_digested_40 : decode cX0_digested 40 = .ok (.lstore_n 3, 1) := by decide +kernel
theorem dX0_digested_41 : decode cX0_digested 41 = .ok (.iinc 5 1, 3) := by decide +kernel
theorem dX0_digested_44 : decode cX0_digested 44 = .ok (.goto (-24), 3) := by decide +kernel
theorem dX0_digested_47 : decode cX0_digested 47 = .ok (.iconst 0, 1) := by decide +kernel
theorem dX0_digested_48 : decode cX0_digested 48 = .ok (.istore 5, 2) := by decide +kernel
theorem dX0_digested_50 : decode cX0_digested 50 = .ok (.iload 5, 2) := by decide +kernel
theorem dX0_digested_52 : decode cX0_digested 52 = .ok (.aload_n 0, 1) := by decide +kernel
theorem dX0_digested_53 : decode cX0_digested 53 = .ok (.invokevirtual 153, 3) := by decide +kernel
theorem dX0_digested_56 : decode cX0_digested 56 = .ok (.if_icmp .ge 75, 3) := by decide +kernel
theorem dX0_digested_59 : decode cX0_digested 59 = .ok (.ldc2_w 209, 3) := by decide +kernel
theorem dX0_digested_62 : decode cX0_digested 62 = .ok (.lload_n 3, 1) := by decide +kernel
theorem dX0_digested_63 : decode cX0_digested 63 = .ok (.lmul, 1) := by decide +kernel
theorem dX0_digested_64 : decode cX0_digested 64 = .ok (.aload_n 0, 1) := by decide +kernel
theorem dX0_digested_65 : decode cX0_digested 65 = .ok (.getfield 9, 3) := by decide +kernel
theorem dX0_digested_68 : decode cX0_digested 68 = .ok (.iload 5, 2) := by decide +kernel
theorem dX0_digested_70 : decode cX0_digested 70 = .ok (.iaload, 1) := by decide +kernel
theorem dX0_digested_71 : decode cX0_digested 71 = .ok (.i2l, 1) := by decide +kernel
theorem dX0_digested_72 : decode cX0_digested 72 = .ok (.ladd, 1) := by decide +kernel
theorem dX0_digested_73 : decode cX0_digested 73 = .ok (.lstore_n 3, 1) := by decide +kernel
theorem dX0_digested_74 : decode cX0_digested 74 = .ok (.ldc2_w 209, 3) := by decide +kernel
theorem dX0_digested_77 : decode cX0_digested 77 = .ok (.lload_n 3, 1) := by decide +kernel
theorem dX0_digested_78 : decode cX0_digested 78 = .ok (.lmul, 1) := by decide +kernel
theorem dX0_digested_79 : decode cX0_digested 79 = .ok (.aload_n 0, 1) := by decide +kernel
theorem dX0_digested_80 : decode cX0_digested 80 = .ok (.getfield 15, 3) := by decide +kernel
theorem dX0_digested_83 : decode cX0_digested 83 = .ok (.iload 5, 2) := by decide +kernel
theorem dX0_digested_85 : decode cX0_digested 85 = .ok (.iaload, 1) := by decide +kernel
theorem dX0_digested_86 : decode cX0_digested 86 = .ok (.i2l, 1) := by decide +kernel
theorem dX0_digested_87 : decode cX0_digested 87 = .ok (.ladd, 1) := by decide +kernel
theorem dX0_digested_88 : decode cX0_digested 88 = .ok (.lstore_n 3, 1) := by decide +kernel
theorem dX0_digested_89 : decode cX0_digested 89 = .ok (.iconst 0, 1) := by decide +kernel
theorem dX0_digested_90 : decode cX0_digested 90 = .ok (.istore 6, 2) := by decide +kernel
theorem dX0_digested_92 : decode cX0_digested 92 = .ok (.iload 6, 2) := by decide +kernel
theorem dX0_digested_94 : decode cX0_digested 94 = .ok (.iconst 3, 1) := by decide +kernel
theorem dX0_digested_95 : decode cX0_digested 95 = .ok (.if_icmp .ge 30, 3) := by decide +kernel
theorem dX0_digested_98 : decode cX0_digested 98 = .ok (.ldc2_w 209, 3) := by decide +kernel
theorem dX0_digested_101 : decode cX0_digested 101 = .ok (.lload_n 3, 1) := by decide +kernel
theorem dX0_digested_102 : decode cX0_digested 102 = .ok (.lmul, 1) := by decide +kernel
theorem dX0_digested_103 : decode cX0_digested 103 = .ok (.aload_n 0, 1) := by decide +kernel
theorem dX0_digested_104 : decode cX0_digested 104 = .ok (.getfield 18, 3) := by decide +kernel
theorem dX0_digested_107 : decode cX0_digested 107 = .ok (.iload 6, 2) := by decide +kernel
theorem dX0_digested_109 : decode cX0_digested 109 = .ok (.bipush 48, 2) := by decide +kernel
theorem dX0_digested_111 : decode cX0_digested 111 = .ok (.imul, 1) := by decide +kernel
theorem dX0_digested_112 : decode cX0_digested 112 = .ok (.iload 5, 2) := by decide +kernel
theorem dX0_digested_114 : decode cX0_digested 114 = .ok (.iadd, 1) := by decide +kernel
theorem dX0_digested_115 : decode cX0_digested 115 = .ok (.iaload, 1) := by decide +kernel
theorem dX0_digested_116 : decode cX0_digested 116 = .ok (.i2l, 1) := by decide +kernel
theorem dX0_digested_117 : decode cX0_digested 117 = .ok (.ladd, 1) := by decide +kernel
theorem dX0_digested_118 : decode cX0_digested 118 = .ok (.lstore_n 3, 1) := by decide +kernel
theorem dX0_digested_119 : decode cX0_digested 119 = .ok (.iinc 6 1, 3) := by decide +kernel
theorem dX0_digested_122 : decode cX0_digested 122 = .ok (.goto (-30), 3) := by decide +kernel
theorem dX0_digested_125 : decode cX0_digested 125 = .ok (.iinc 5 1, 3) := by decide +kernel
theorem dX0_digested_128 : decode cX0_digested 128 = .ok (.goto (-78), 3) := by decide +kernel
theorem dX0_digested_131 : decode cX0_digested 131 = .ok (.iconst 0, 1) := by decide +kernel
theorem dX0_digested_132 : decode cX0_digested 132 = .ok (.istore 5, 2) := by decide +kernel
theorem dX0_digested_134 : decode cX0_digested 134 = .ok (.iload 5, 2) := by decide +kernel
theorem dX0_digested_136 : decode cX0_digested 136 = .ok (.iconst 2, 1) := by decide +kernel
theorem dX0_digested_137 : decode cX0_digested 137 = .ok (.aload_n 0, 1) := by decide +kernel
theorem dX0_digested_138 : decode cX0_digested 138 = .ok (.invokevirtual 153, 3) := by decide +kernel
theorem dX0_digested_141 : decode cX0_digested 141 = .ok (.imul, 1) := by decide +kernel
theorem dX0_digested_142 : decode cX0_digested 142 = .ok (.if_icmp .ge 59, 3) := by decide +kernel
theorem dX0_digested_145 : decode cX0_digested 145 = .ok (.aload_n 0, 1) := by decide +kernel
theorem dX0_digested_146 : decode cX0_digested 146 = .ok (.iload 5, 2) := by decide +kernel
theorem dX0_digested_148 : decode cX0_digested 148 = .ok (.invokevirtual 135, 3) := by decide +kernel
theorem dX0_digested_151 : decode cX0_digested 151 = .ok (.ifCond .ne 6, 3) := by decide +kernel
theorem dX0_digested_154 : decode cX0_digested 154 = .ok (.goto 41, 3) := by decide +kernel
theorem dX0_digested_157 : decode cX0_digested 157 = .ok (.ldc2_w 209, 3) := by decide +kernel
theorem dX0_digested_160 : decode cX0_digested 160 = .ok (.lload_n 3, 1) := by decide +kernel
theorem dX0_digested_161 : decode cX0_digested 161 = .ok (.lmul, 1) := by decide +kernel
theorem dX0_digested_162 : decode cX0_digested 162 = .ok (.aload_n 0, 1) := by decide +kernel
theorem dX0_digested_163 : decode cX0_digested 163 = .ok (.getfield 21, 3) := by decide +kernel
theorem dX0_digested_166 : decode cX0_digested 166 = .ok (.iload 5, 2) := by decide +kernel
theorem dX0_digested_168 : decode cX0_digested 168 = .ok (.iaload, 1) := by decide +kernel
theorem dX0_digested_169 : decode cX0_digested 169 = .ok (.i2l, 1) := by decide +kernel
theorem dX0_digested_170 : decode cX0_digested 170 = .ok (.ladd, 1) := by decide +kernel
theorem dX0_digested_171 : decode cX0_digested 171 = .ok (.lstore_n 3, 1) := by decide +kernel
theorem dX0_digested_172 : decode cX0_digested 172 = .ok (.ldc2_w 209, 3) := by decide +kernel
theorem dX0_digested_175 : decode cX0_digested 175 = .ok (.lload_n 3, 1) := by decide +kernel
theorem dX0_digested_176 : decode cX0_digested 176 = .ok (.lmul, 1) := by decide +kernel
theorem dX0_digested_177 : decode cX0_digested 177 = .ok (.aload_n 0, 1) := by decide +kernel
theorem dX0_digested_178 : decode cX0_digested 178 = .ok (.getfield 24, 3) := by decide +kernel
theorem dX0_digested_181 : decode cX0_digested 181 = .ok (.iload 5, 2) := by decide +kernel
theorem dX0_digested_183 : decode cX0_digested 183 = .ok (.baload, 1) := by decide +kernel
theorem dX0_digested_184 : decode cX0_digested 184 = .ok (.ifCond .eq 7, 3) := by decide +kernel
theorem dX0_digested_187 : decode cX0_digested 187 = .ok (.iconst 1, 1) := by decide +kernel
theorem dX0_digested_188 : decode cX0_digested 188 = .ok (.goto 4, 3) := by decide +kernel
theorem dX0_digested_191 : decode cX0_digested 191 = .ok (.iconst 0, 1) := by decide +kernel
theorem dX0_digested_192 : decode cX0_digested 192 = .ok (.i2l, 1) := by decide +kernel
theorem dX0_digested_193 : decode cX0_digested 193 = .ok (.ladd, 1) := by decide +kernel
theorem dX0_digested_194 : decode cX0_digested 194 = .ok (.lstore_n 3, 1) := by decide +kernel
theorem dX0_digested_195 : decode cX0_digested 195 = .ok (.iinc 5 1, 3) := by decide +kernel
theorem dX0_digested_198 : decode cX0_digested 198 = .ok (.goto (-64), 3) := by decide +kernel
theorem dX0_digested_201 : decode cX0_digested 201 = .ok (.lload_n 3, 1) := by decide +kernel
theorem dX0_digested_202 : decode cX0_digested 202 = .ok (.lreturn, 1) := by decide +kernel
noncomputable def L_X0_digested_20 (o1 : Nat) : Nat → Int64 → Int32 → qM → (Int64 → qM → Option (Int64 × qM)) → Option (Int64 × qM)
  | 0, _, _, _, _ => none
  | n + 1, w2, x1, u1, e1 => if 10 < x1 then e1 w2 u1 else q_bd (f_X0_tells o1 x1 u1) (fun (x2 : Int32) (u2 : qM) => q_lt ((31 * w2) + (Int32.toInt64 x2)) (fun (w3 : Int64) => q_lt (x1 + 1) (fun (x3 : Int32) => L_X0_digested_20 o1 n w3 x3 u2 e1)))
noncomputable def L_X0_digested_92 (o1 : Nat) (x4 : Int32) : Nat → Int64 → Int32 → qM → (Int64 → qM → Option (Int64 × qM)) → Option (Int64 × qM)
  | 0, _, _, _, _ => none
  | n + 1, w8, x6, u6, e1 => if 3 ≤ x6 then e1 w8 u6 else q_ck (q_in ((x6 * 48) + x4) 144) (q_lt ((31 * w8) + (Int32.toInt64 (u6.1 39 o1 (Int32.toNatClampNeg ((x6 * 48) + x4))))) (fun (w9 : Int64) => q_lt (x6 + 1) (fun (x7 : Int32) => L_X0_digested_92 o1 x4 n w9 x7 u6 e1)))
noncomputable def L_X0_digested_50 (o1 : Nat) : Nat → Int64 → Int32 → qM → (Int64 → qM → Option (Int64 × qM)) → Option (Int64 × qM)
  | 0, _, _, _, _ => none
  | n + 1, w5, x4, u4, e1 => q_bd (f_X0_cells o1 u4) (fun (x5 : Int32) (u5 : qM) => if x5 ≤ x4 then e1 w5 u5 else q_ck (q_in x4 48) (q_lt ((31 * w5) + (Int32.toInt64 (u5.1 37 o1 (Int32.toNatClampNeg x4)))) (fun (w6 : Int64) => q_ck (q_in x4 48) (q_lt ((31 * w6) + (Int32.toInt64 (u5.1 38 o1 (Int32.toNatClampNeg x4)))) (fun (w7 : Int64) => L_X0_digested_92 o1 x4 q_fu w7 0 u5 (fun w10 u7 => q_lt (x4 + 1) (fun (x8 : Int32) => L_X0_digested_50 o1 n w10 x8 u7 e1)))))))
noncomputable def L_X0_digested_134 (o1 : Nat) : Nat → Int64 → Int32 → qM → (Int64 → qM → Option (Int64 × qM)) → Option (Int64 × qM)
  | 0, _, _, _, _ => none
  | n + 1, w12, x9, u9, e1 => q_bd (f_X0_cells o1 u9) (fun (x10 : Int32) (u10 : qM) => if (2 * x10) ≤ x9 then e1 w12 u10 else q_bd (f_X0_hasSide o1 x9 u10) (fun (x11 : Int32) (u11 : qM) => q_jn (fun (w13 : Int64) (u12 : qM) => q_lt (x9 + 1) (fun (x12 : Int32) => L_X0_digested_134 o1 n w13 x12 u12 e1)) (fun j1 => if x11 = 0 then j1 w12 u11 else q_ck (q_in x9 96) (q_lt ((31 * w12) + (Int32.toInt64 (u11.1 40 o1 (Int32.toNatClampNeg x9)))) (fun (w14 : Int64) => q_ck (q_in x9 96) (q_jn (fun (x13 : Int32) (u13 : qM) => q_lt ((31 * w14) + (Int32.toInt64 x13)) (fun (w15 : Int64) => j1 w15 u13)) (fun j2 => if (u11.1 41 o1 (Int32.toNatClampNeg x9)) = 0 then j2 0 u11 else j2 1 u11)))))))
noncomputable def f_X0_digested (o1 : Nat) (w1 : Int64) (u0 : qM) : Option (Int64 × qM) :=
  if (u0.1 2 o1 10) = 0 then some ((31 * w1) - 1, u0) else L_X0_digested_20 o1 q_fu w1 0 u0 (fun w4 u3 => L_X0_digested_50 o1 q_fu w4 0 u3 (fun w11 u8 => L_X0_digested_134 o1 q_fu w11 0 u8 (fun w16 u14 => some (w16, u14))))
set_option maxRecDepth 100000 in
set_option maxHeartbeats 4000000 in
theorem TL_X0_digested_20 (l : Launch) (G : qG) (o1 : Nat) (q1 : o1 < 7) (e1 : Int64 → qM → Option (Int64 × qM)) (he1 : ∀ (y1 : Int64) (v : qM), qAW l G m_X0_digested (q_mq G q_cL) 47 [(0, .ref (q_ad G 2 o1)), (3, .long y1)] [] v (e1 y1 v)) : ∀ (n : Nat) (w2 : Int64) (x1 : Int32) (u1 : qM), qAW l G m_X0_digested (q_mq G q_cL) 20 [(0, .ref (q_ad G 2 o1)), (3, .long w2), (5, .int x1)] [] u1 (L_X0_digested_20 o1 n w2 x1 u1 e1) := by
  intro n
  induction n with
  | zero => intros; exact aw_none
  | succ n ih =>
    intro w2 x1 u1
    unfold L_X0_digested_20
    refine aw_iload (i := 5) dX0_digested_20 22 rfl 2 rfl ?_
    refine aw_bipush (x := 10) dX0_digested_22 24 rfl rfl ?_
    refine aw_icmp_gt dX0_digested_24 27 rfl 47 rfl (fun h2 => ?_) (fun h2 => ?_)
    · exact aw_conv [0, 1] rfl (he1 w2 u1)
    · refine aw_ldc2 (x := 31) dX0_digested_27 30 rfl wd_60 ?_
      refine aw_lload_n (i := 3) dX0_digested_30 31 rfl rfl 1 rfl ?_
      refine aw_lmul dX0_digested_31 32 rfl ?_
      refine aw_aload_n (i := 0) dX0_digested_32 33 rfl rfl 0 rfl ?_
      refine aw_iload (i := 5) dX0_digested_33 35 rfl 2 rfl ?_
      refine aw_callV (M2 := m_X0_tells) (cv := q_cI) dX0_digested_35 38 rfl (k_X0_tells l G o1 x1 q1 u1) wd_61 wv_X0_tells pk_X0_tells rfl rfl ⟨by decide, by decide⟩ ⟨Nat.zero_le _, Nat.zero_le _⟩ at_2 (ok_2 q1) rfl rfl rfl (Nat.le_of_ble_eq_true rfl) (fun x2 u2 => ?_)
      show qAW l G m_X0_digested (q_mq G q_cL) 38 [(0, .ref (q_ad G 2 o1)), (3, .long w2), (5, .int x1)] [.int x2, .long (31 * w2)] u2 _
      refine aw_i2l dX0_digested_38 39 rfl ?_
      refine aw_ladd dX0_digested_39 40 rfl ?_
      refine aw_ltl (fun w3 => ?_)
      refine aw_lstore_n dX0_digested_40 41 rfl rfl [(3, .long w3), (0, .ref (q_ad G 2 o1)), (5, .int x1)] (by decide) rfl ?_
      refine aw_iincx (i := 5) dX0_digested_41 44 rfl 2 rfl 1 rfl (fun x3 => [(5, .int x3), (3, .long w3), (0, .ref (q_ad G 2 o1))]) (by decide) (fun _ => rfl) (fun x3 => ?_)
      refine aw_goto dX0_digested_44 20 rfl ?_
      exact aw_conv [2, 1, 0] rfl (ih w3 x3 u2)
set_option maxRecDepth 100000 in
set_option maxHeartbeats 4000000 in
theorem TL_X0_digested_92 (l : Launch) (G : qG) (o1 : Nat) (x4 : Int32) (q3 : o1 < 7) (e1 : Int64 → qM → Option (Int64 × qM)) (he1 : ∀ (y1 : Int64) (v : qM), qAW l G m_X0_digested (q_mq G q_cL) 125 [(0, .ref (q_ad G 2 o1)), (3, .long y1), (5, .int x4)] [] v (e1 y1 v)) : ∀ (n : Nat) (w8 : Int64) (x6 : Int32) (u6 : qM), qAW l G m_X0_digested (q_mq G q_cL) 92 [(0, .ref (q_ad G 2 o1)), (3, .long w8), (5, .int x4), (6, .int x6)] [] u6 (L_X0_digested_92 o1 x4 n w8 x6 u6 e1) := by
  intro n
  induction n with
  | zero => intros; exact aw_none
  | succ n ih =>
    intro w8 x6 u6
    unfold L_X0_digested_92
    refine aw_iload (i := 6) dX0_digested_92 94 rfl 3 rfl ?_
    refine aw_iconst (x := 3) dX0_digested_94 95 rfl rfl ?_
    refine aw_icmp_ge dX0_digested_95 98 rfl 125 rfl (fun h6 => ?_) (fun h6 => ?_)
    · exact aw_conv [0, 1, 2] rfl (he1 w8 u6)
    · refine aw_ldc2 (x := 31) dX0_digested_98 101 rfl wd_60 ?_
      refine aw_lload_n (i := 3) dX0_digested_101 102 rfl rfl 1 rfl ?_
      refine aw_lmul dX0_digested_102 103 rfl ?_
      refine aw_aload_n (i := 0) dX0_digested_103 104 rfl rfl 0 rfl ?_
      refine gf_X0_2 dX0_digested_104 107 rfl wd_20 (ok_2 q3) ?_
      refine aw_iload (i := 6) dX0_digested_107 109 rfl 3 rfl ?_
      refine aw_bipush (x := 48) dX0_digested_109 111 rfl rfl ?_
      refine aw_imul dX0_digested_111 112 rfl ?_
      refine aw_iload (i := 5) dX0_digested_112 114 rfl 2 rfl ?_
      refine aw_iadd dX0_digested_114 115 rfl ?_
      refine aw_iald dX0_digested_115 116 rfl at_39 (al_39 _) (ok_39 q3) (fun h7 => ?_)
      refine aw_i2l dX0_digested_116 117 rfl ?_
      refine aw_ladd dX0_digested_117 118 rfl ?_
      refine aw_ltl (fun w9 => ?_)
      refine aw_lstore_n dX0_digested_118 119 rfl rfl [(3, .long w9), (0, .ref (q_ad G 2 o1)), (5, .int x4), (6, .int x6)] (by decide) rfl ?_
      refine aw_iincx (i := 6) dX0_digested_119 122 rfl 3 rfl 1 rfl (fun x7 => [(6, .int x7), (3, .long w9), (0, .ref (q_ad G 2 o1)), (5, .int x4)]) (by decide) (fun _ => rfl) (fun x7 => ?_)
      refine aw_goto dX0_digested_122 92 rfl ?_
      exact aw_conv [2, 1, 3, 0] rfl (ih w9 x7 u6)
set_option maxRecDepth 100000 in
set_option maxHeartbeats 4000000 in
theorem TL_X0_digested_50 (l : Launch) (G : qG) (o1 : Nat) (q2 : o1 < 7) (e1 : Int64 → qM → Option (Int64 × qM)) (he1 : ∀ (y1 : Int64) (v : qM), qAW l G m_X0_digested (q_mq G q_cL) 131 [(0, .ref (q_ad G 2 o1)), (3, .long y1)] [] v (e1 y1 v)) : ∀ (n : Nat) (w5 : Int64) (x4 : Int32) (u4 : qM), qAW l G m_X0_digested (q_mq G q_cL) 50 [(0, .ref (q_ad G 2 o1)), (3, .long w5), (5, .int x4)] [] u4 (L_X0_digested_50 o1 n w5 x4 u4 e1) := by
  intro n
  induction n with
  | zero => intros; exact aw_none
  | succ n ih =>
    intro w5 x4 u4
    unfold L_X0_digested_50
    refine aw_iload (i := 5) dX0_digested_50 52 rfl 2 rfl ?_
    refine aw_aload_n (i := 0) dX0_digested_52 53 rfl rfl 0 rfl ?_
    refine aw_callV (M2 := m_X0_cells) (cv := q_cI) dX0_digested_53 56 rfl (k_X0_cells l G o1 q2 u4) wd_43 wv_X0_cells pk_X0_cells rfl rfl ⟨by decide, by decide⟩ ⟨Nat.zero_le _, Nat.zero_le _⟩ at_2 (ok_2 q2) rfl rfl rfl (Nat.le_of_ble_eq_true rfl) (fun x5 u5 => ?_)
    show qAW l G m_X0_digested (q_mq G q_cL) 56 [(0, .ref (q_ad G 2 o1)), (3, .long w5), (5, .int x4)] [.int x5, .int x4] u5 _
    refine aw_icmp_ge dX0_digested_56 59 rfl 131 rfl (fun h3 => ?_) (fun h3 => ?_)
    · exact aw_conv [0, 1] rfl (he1 w5 u5)
    · refine aw_ldc2 (x := 31) dX0_digested_59 62 rfl wd_60 ?_
      refine aw_lload_n (i := 3) dX0_digested_62 63 rfl rfl 1 rfl ?_
      refine aw_lmul dX0_digested_63 64 rfl ?_
      refine aw_aload_n (i := 0) dX0_digested_64 65 rfl rfl 0 rfl ?_
      refine gf_X0_0 dX0_digested_65 68 rfl wd_18 (ok_2 q2) ?_
      refine aw_iload (i := 5) dX0_digested_68 70 rfl 2 rfl ?_
      refine aw_iald dX0_digested_70 71 rfl at_37 (al_37 _) (ok_37 q2) (fun h4 => ?_)
      refine aw_i2l dX0_digested_71 72 rfl ?_
      refine aw_ladd dX0_digested_72 73 rfl ?_
      refine aw_ltl (fun w6 => ?_)
      refine aw_lstore_n dX0_digested_73 74 rfl rfl [(3, .long w6), (0, .ref (q_ad G 2 o1)), (5, .int x4)] (by decide) rfl ?_
      refine aw_ldc2 (x := 31) dX0_digested_74 77 rfl wd_60 ?_
      refine aw_lload_n (i := 3) dX0_digested_77 78 rfl rfl 0 rfl ?_
      refine aw_lmul dX0_digested_78 79 rfl ?_
      refine aw_aload_n (i := 0) dX0_digested_79 80 rfl rfl 1 rfl ?_
      refine gf_X0_1 dX0_digested_80 83 rfl wd_19 (ok_2 q2) ?_
      refine aw_iload (i := 5) dX0_digested_83 85 rfl 2 rfl ?_
      refine aw_iald dX0_digested_85 86 rfl at_38 (al_38 _) (ok_38 q2) (fun h5 => ?_)
      refine aw_i2l dX0_digested_86 87 rfl ?_
      refine aw_ladd dX0_digested_87 88 rfl ?_
      refine aw_ltl (fun w7 => ?_)
      refine aw_lstore_n dX0_digested_88 89 rfl rfl [(3, .long w7), (0, .ref (q_ad G 2 o1)), (5, .int x4)] (by decide) rfl ?_
      refine aw_iconst (x := 0) dX0_digested_89 90 rfl rfl ?_
      refine aw_istore dX0_digested_90 92 rfl [(6, .int 0), (3, .long w7), (0, .ref (q_ad G 2 o1)), (5, .int x4)] (by decide) rfl ?_
      refine aw_conv [2, 1, 3, 0] rfl (TL_X0_digested_92 l G o1 x4 q2 _ ?_ _ w7 0 u5)
      · intro w10 u7
        refine aw_iincx (i := 5) dX0_digested_125 128 rfl 2 rfl 1 rfl (fun x8 => [(5, .int x8), (0, .ref (q_ad G 2 o1)), (3, .long w10)]) (by decide) (fun _ => rfl) (fun x8 => ?_)
        refine aw_goto dX0_digested_128 50 rfl ?_
        exact aw_conv [1, 2, 0] rfl (ih w10 x8 u7)
set_option maxRecDepth 100000 in
set_option maxHeartbeats 4000000 in
theorem TL_X0_digested_134 (l : Launch) (G : qG) (o1 : Nat) (q4 : o1 < 7) (e1 : Int64 → qM → Option (Int64 × qM)) (he1 : ∀ (y1 : Int64) (v : qM), qAW l G m_X0_digested (q_mq G q_cL) 201 [(3, .long y1)] [] v (e1 y1 v)) : ∀ (n : Nat) (w12 : Int64) (x9 : Int32) (u9 : qM), qAW l G m_X0_digested (q_mq G q_cL) 134 [(0, .ref (q_ad G 2 o1)), (3, .long w12), (5, .int x9)] [] u9 (L_X0_digested_134 o1 n w12 x9 u9 e1) := by
  intro n
  induction n with
  | zero => intros; exact aw_none
  | succ n ih =>
    intro w12 x9 u9
    unfold L_X0_digested_134
    refine aw_iload (i := 5) dX0_digested_134 136 rfl 2 rfl ?_
    refine aw_iconst (x := 2) dX0_digested_136 137 rfl rfl ?_
    refine aw_aload_n (i := 0) dX0_digested_137 138 rfl rfl 0 rfl ?_
    refine aw_callV (M2 := m_X0_cells) (cv := q_cI) dX0_digested_138 141 rfl (k_X0_cells l G o1 q4 u9) wd_43 wv_X0_cells pk_X0_cells rfl rfl ⟨by decide, by decide⟩ ⟨Nat.zero_le _, Nat.zero_le _⟩ at_2 (ok_2 q4) rfl rfl rfl (Nat.le_of_ble_eq_true rfl) (fun x10 u10 => ?_)
    show qAW l G m_X0_digested (q_mq G q_cL) 141 [(0, .ref (q_ad G 2 o1)), (3, .long w12), (5, .int x9)] [.int x10, .int 2, .int x9] u10 _
    refine aw_imul dX0_digested_141 142 rfl ?_
    refine aw_icmp_ge dX0_digested_142 145 rfl 201 rfl (fun h8 => ?_) (fun h8 => ?_)
    · exact aw_conv [1] rfl (he1 w12 u10)
    · refine aw_aload_n (i := 0) dX0_digested_145 146 rfl rfl 0 rfl ?_
      refine aw_iload (i := 5) dX0_digested_146 148 rfl 2 rfl ?_
      refine aw_callV (M2 := m_X0_hasSide) (cv := q_cI) dX0_digested_148 151 rfl (k_X0_hasSide l G o1 x9 q4 u10) wd_41 wv_X0_hasSide pk_X0_hasSide rfl rfl ⟨by decide, by decide⟩ ⟨Nat.zero_le _, Nat.zero_le _⟩ at_2 (ok_2 q4) rfl rfl rfl (Nat.le_of_ble_eq_true rfl) (fun x11 u11 => ?_)
      show qAW l G m_X0_digested (q_mq G q_cL) 151 [(0, .ref (q_ad G 2 o1)), (3, .long w12), (5, .int x9)] [.int x11] u11 _
      refine aw_jn (fun k => ∀ (w13 : Int64) (u12 : qM), qAW l G m_X0_digested (q_mq G q_cL) 195 [(0, .ref (q_ad G 2 o1)), (3, .long w13), (5, .int x9)] [] u12 (k w13 u12)) ?_ ?_
      · intro w13 u12
        refine aw_iincx (i := 5) dX0_digested_195 198 rfl 2 rfl 1 rfl (fun x12 => [(5, .int x12), (0, .ref (q_ad G 2 o1)), (3, .long w13)]) (by decide) (fun _ => rfl) (fun x12 => ?_)
        refine aw_goto dX0_digested_198 134 rfl ?_
        exact aw_conv [1, 2, 0] rfl (ih w13 x12 u12)
      · intro j1 hj1
        refine aw_if_ne dX0_digested_151 154 rfl 157 rfl (fun h9 => ?_) (fun h9 => ?_)
        · refine aw_ldc2 (x := 31) dX0_digested_157 160 rfl wd_60 ?_
          refine aw_lload_n (i := 3) dX0_digested_160 161 rfl rfl 1 rfl ?_
          refine aw_lmul dX0_digested_161 162 rfl ?_
          refine aw_aload_n (i := 0) dX0_digested_162 163 rfl rfl 0 rfl ?_
          refine gf_X0_3 dX0_digested_163 166 rfl wd_21 (ok_2 q4) ?_
          refine aw_iload (i := 5) dX0_digested_166 168 rfl 2 rfl ?_
          refine aw_iald dX0_digested_168 169 rfl at_40 (al_40 _) (ok_40 q4) (fun h10 => ?_)
          refine aw_i2l dX0_digested_169 170 rfl ?_
          refine aw_ladd dX0_digested_170 171 rfl ?_
          refine aw_ltl (fun w14 => ?_)
          refine aw_lstore_n dX0_digested_171 172 rfl rfl [(3, .long w14), (0, .ref (q_ad G 2 o1)), (5, .int x9)] (by decide) rfl ?_
          refine aw_ldc2 (x := 31) dX0_digested_172 175 rfl wd_60 ?_
          refine aw_lload_n (i := 3) dX0_digested_175 176 rfl rfl 0 rfl ?_
          refine aw_lmul dX0_digested_176 177 rfl ?_
          refine aw_aload_n (i := 0) dX0_digested_177 178 rfl rfl 1 rfl ?_
          refine gf_X0_4 dX0_digested_178 181 rfl wd_22 (ok_2 q4) ?_
          refine aw_iload (i := 5) dX0_digested_181 183 rfl 2 rfl ?_
          refine aw_zald dX0_digested_183 184 rfl at_41 (al_41 _) (ok_41 q4) (fun h11 => ?_)
          refine aw_jn (fun k => ∀ (x13 : Int32) (u13 : qM), qAW l G m_X0_digested (q_mq G q_cL) 192 [(0, .ref (q_ad G 2 o1)), (5, .int x9)] [.int x13, .long (31 * w14)] u13 (k x13 u13)) ?_ ?_
          · intro x13 u13
            refine aw_i2l dX0_digested_192 193 rfl ?_
            refine aw_ladd dX0_digested_193 194 rfl ?_
            refine aw_ltl (fun w15 => ?_)
            refine aw_lstore_n dX0_digested_194 195 rfl rfl [(3, .long w15), (0, .ref (q_ad G 2 o1)), (5, .int x9)] (by decide) rfl ?_
            exact aw_conv [1, 0, 2] rfl (hj1 w15 u13)
          · intro j2 hj2
            refine aw_if_eq dX0_digested_184 187 rfl 191 rfl (fun h12 => ?_) (fun h12 => ?_)
            · refine aw_iconst (x := 0) dX0_digested_191 192 rfl rfl ?_
              exact aw_conv [1, 2] rfl (hj2 0 u11)
            · refine aw_iconst (x := 1) dX0_digested_187 188 rfl rfl ?_
              refine aw_goto dX0_digested_188 192 rfl ?_
              exact aw_conv [1, 2] rfl (hj2 1 u11)
        · refine aw_goto dX0_digested_154 195 rfl ?_
          exact hj1 w12 u11
set_option maxRecDepth 100000 in
set_option maxHeartbeats 4000000 in
theorem k_X0_digested (l : Launch) (G : qG) (o1 : Nat) (w1 : Int64) (ho1 : o1 < 7) (u0 : qM) : qCt l G m_X0_digested q_cL [.ref (q_ad G 2 o1), .long w1] u0 (f_X0_digested o1 w1 u0) := by
  refine q_entry pk_X0_digested (Nat.le_of_ble_eq_true rfl) ?_
  show qAW l G m_X0_digested (q_mq G q_cL) 0 [(0, .ref (q_ad G 2 o1)), (1, .long w1)] [] u0 (f_X0_digested o1 w1 u0)
  unfold f_X0_digested
  refine aw_aload_n (i := 0) dX0_digested_0 1 rfl rfl 0 rfl ?_
  refine gf_X0_10 dX0_digested_1 4 rfl wd_4 (ok_2 ho1) ?_
  refine aw_if_ne dX0_digested_4 7 rfl 15 rfl (fun h1 => ?_) (fun h1 => ?_)
  · refine aw_lload_n (i := 1) dX0_digested_15 16 rfl rfl 1 rfl ?_
    refine aw_lstore_n dX0_digested_16 17 rfl rfl [(3, .long w1), (0, .ref (q_ad G 2 o1)), (1, .long w1)] (by decide) rfl ?_
    refine aw_iconst (x := 0) dX0_digested_17 18 rfl rfl ?_
    refine aw_istore dX0_digested_18 20 rfl [(5, .int 0), (3, .long w1), (0, .ref (q_ad G 2 o1)), (1, .long w1)] (by decide) rfl ?_
    refine aw_conv [2, 1, 0] rfl (TL_X0_digested_20 l G o1 ho1 _ ?_ _ w1 0 u0)
    · intro w4 u3
      refine aw_iconst (x := 0) dX0_digested_47 48 rfl rfl ?_
      refine aw_istore dX0_digested_48 50 rfl [(5, .int 0), (0, .ref (q_ad G 2 o1)), (3, .long w4)] (by decide) rfl ?_
      refine aw_conv [1, 2, 0] rfl (TL_X0_digested_50 l G o1 ho1 _ ?_ _ w4 0 u3)
      · intro w11 u8
        refine aw_iconst (x := 0) dX0_digested_131 132 rfl rfl ?_
        refine aw_istore dX0_digested_132 134 rfl [(5, .int 0), (0, .ref (q_ad G 2 o1)), (3, .long w11)] (by decide) rfl ?_
        refine aw_conv [1, 2, 0] rfl (TL_X0_digested_134 l G o1 ho1 _ ?_ _ w11 0 u8)
        · intro w16 u14
          refine aw_lload_n (i := 3) dX0_digested_201 202 rfl rfl 0 rfl ?_
          exact aw_lret dX0_digested_202 rfl
  · refine aw_ldc2 (x := 31) dX0_digested_7 10 rfl wd_60 ?_
    refine aw_lload_n (i := 1) dX0_digested_10 11 rfl rfl 1 rfl ?_
    refine aw_lmul dX0_digested_11 12 rfl ?_
    refine aw_lconst (x := 1) dX0_digested_12 13 rfl rfl ?_
    refine aw_lsub dX0_digested_13 14 rfl ?_
    exact aw_lret dX0_digested_14 rfl
theorem dX1_drift_0 : decode cX1_drift 0 = .ok (.aload_n 1, 1) := by decide +kernel
theorem dX1_drift_1 : decode cX1_drift 1 = .ok (.getfield 15, 3) := by decide +kernel
theorem dX1_drift_4 : decode cX1_drift 4 = .ok (.astore_n 2, 1) := by decide +kernel
theorem dX1_drift_5 : decode cX1_drift 5 = .ok (.aload_n 0, 1) := by decide +kernel
theorem dX1_drift_6 : decode cX1_drift 6 = .ok (.getfield 21, 3) := by decide +kernel
theorem dX1_drift_9 : decode cX1_drift 9 = .ok (.istore_n 3, 1) := by decide +kernel
theorem dX1_drift_10 : decode cX1_drift 10 = .ok (.aload_n 0, 1) := by decide +kernel
theorem dX1_drift_11 : decode cX1_drift 11 = .ok (.getfield 24, 3) := by decide +kernel
theorem dX1_drift_14 : decode cX1_drift 14 = .ok (.iconst 1, 1) := by decide +kernel
theorem dX1_drift_15 : decode cX1_drift 15 = .ok (.isub, 1) := by decide +kernel
theorem dX1_drift_16 : decode cX1_drift 16 = .ok (.istore 4, 2) := by decide +kernel
theorem dX1_drift_18 : decode cX1_drift 18 = .ok (.aload_n 1, 1) := by decide +kernel
theorem dX1_drift_19 : decode cX1_drift 19 = .ok (.iconst 2, 1) := by decide +kernel
theorem dX1_drift_20 : decode cX1_drift 20 = .ok (.iload_n 3, 1) := by decide +kernel
theorem dX1_drift_21 : decode cX1_drift 21 = .ok (.imul, 1) := by decide +kernel
theorem dX1_drift_22 : decode cX1_drift 22 = .ok (.invokevirtual 27, 3) := by decide +kernel
theorem dX1_drift_25 : decode cX1_drift 25 = .ok (.ifCond .eq 27, 3) := by decide +kernel
theorem dX1_drift_28 : decode cX1_drift 28 = .ok (.aload_n 2, 1) := by decide +kernel
theorem dX1_drift_29 : decode cX1_drift 29 = .ok (.iconst 2, 1) := by decide +kernel
theorem dX1_drift_30 : decode cX1_drift 30 = .ok (.iload_n 3, 1) := by decide +kernel
theorem dX1_drift_31 : decode cX1_drift 31 = .ok (.imul, 1) := by decide +kernel
theorem dX1_drift_32 : decode cX1_drift 32 = .ok (.iaload, 1) := by decide +kernel
theorem dX1_drift_33 : decode cX1_drift 33 = .ok (.iload 4, 2) := by decide +kernel
theorem dX1_drift_35 : decode cX1_drift 35 = .ok (.if_icmp .le 17, 3) := by decide +kernel
theorem dX1_drift_38 : decode cX1_drift 38 = .ok (.aload_n 2, 1) := by decide +kernel
theorem dX1_drift_39 : decode cX1_drift 39 = .ok (.iconst 2, 1) := by decide +kernel
theorem dX1_drift_40 : decode cX1_drift 40 = .ok (.iload_n 3, 1) := by decide +kernel
theorem dX1_drift_41 : decode cX1_drift 41 = .ok (.imul, 1) := by decide +kernel
theorem dX1_drift_42 : decode cX1_drift 42 = .ok (.iaload, 1) := by decide +kernel
theorem dX1_drift_43 : decode cX1_drift 43 = .ok (.istore 4, 2) := by decide +kernel
theorem dX1_drift_45 : decode cX1_drift 45 = .ok (.aload_n 0, 1) := by decide +kernel
theorem dX1_drift_46 : decode cX1_drift 46 = .ok (.iload_n 3, 1) := by decide +kernel
theorem dX1_drift_47 : decode cX1_drift 47 = .ok (.iconst 1, 1) := by decide +kernel
theorem dX1_drift_48 : decode cX1_drift 48 = .ok (.iadd, 1) := by decide +kernel
theorem dX1_drift_49 : decode cX1_drift 49 = .ok (.putfield 21, 3) := by decide +kernel
theorem dX1_drift_52 : decode cX1_drift 52 = .ok (.aload_n 1, 1) := by decide +kernel
theorem dX1_drift_53 : decode cX1_drift 53 = .ok (.iconst 2, 1) := by decide +kernel
theorem dX1_drift_54 : decode cX1_drift 54 = .ok (.iload_n 3, 1) := by decide +kernel
theorem dX1_drift_55 : decode cX1_drift 55 = .ok (.imul, 1) := by decide +kernel
theorem dX1_drift_56 : decode cX1_drift 56 = .ok (.iconst 1, 1) := by decide +kernel
theorem dX1_drift_57 : decode cX1_drift 57 = .ok (.iadd, 1) := by decide +kernel
theorem dX1_drift_58 : decode cX1_drift 58 = .ok (.invokevirtual 27, 3) := by decide +kernel
theorem dX1_drift_61 : decode cX1_drift 61 = .ok (.ifCond .eq 34, 3) := by decide +kernel
theorem dX1_drift_64 : decode cX1_drift 64 = .ok (.aload_n 2, 1) := by decide +kernel
theorem dX1_drift_65 : decode cX1_drift 65 = .ok (.iconst 2, 1) := by decide +kernel
theorem dX1_drift_66 : decode cX1_drift 66 = .ok (.iload_n 3, 1) := by decide +kernel
theorem dX1_drift_67 : decode cX1_drift 67 = .ok (.imul, 1) := by decide +kernel
theorem dX1_drift_68 : decode cX1_drift 68 = .ok (.iconst 1, 1) := by decide +kernel
theorem dX1_drift_69 : decode cX1_drift 69 = .ok (.iadd, 1) := by decide +kernel
theorem dX1_drift_70 : decode cX1_drift 70 = .ok (.iaload, 1) := by decide +kernel
theorem dX1_drift_71 : decode cX1_drift 71 = .ok (.iload 4, 2) := by decide +kernel
theorem dX1_drift_73 : decode cX1_drift 73 = .ok (.if_icmp .le 22, 3) := by decide +kernel
theorem dX1_drift_76 : decode cX1_drift 76 = .ok (.aload_n 2, 1) := by decide +kernel
theorem dX1_drift_77 : decode cX1_drift 77 = .ok (.iconst 2, 1) := by decide +kernel
theorem dX1_drift_78 : decode cX1_drift 78 = .ok (.iload_n 3, 1) := by decide +kernel
theorem dX1_drift_79 : decode cX1_drift 79 = .ok (.imul, 1) := by decide +kernel
theorem dX1_drift_80 : decode cX1_drift 80 = .ok (.iconst 1, 1) := by decide +kernel
theorem dX1_drift_81 : decode cX1_drift 81 = .ok (.iadd, 1) := by decide +kernel
theorem dX1_drift_82 : decode cX1_drift 82 = .ok (.iaload, 1) := by decide +kernel
theorem dX1_drift_83 : decode cX1_drift 83 = .ok (.istore 4, 2) := by decide +kernel
theorem dX1_drift_85 : decode cX1_drift 85 = .ok (.aload_n 0, 1) := by decide +kernel
theorem dX1_drift_86 : decode cX1_drift 86 = .ok (.iload_n 3, 1) := by decide +kernel
theorem dX1_drift_87 : decode cX1_drift 87 = .ok (.aload_n 1, 1) := by decide +kernel
theorem dX1_drift_88 : decode cX1_drift 88 = .ok (.getfield 31, 3) := by decide +kernel
theorem dX1_drift_91 : decode cX1_drift 91 = .ok (.iadd, 1) := by decide +kernel
theorem dX1_drift_92 : decode cX1_drift 92 = .ok (.putfield 21, 3) := by decide +kernel
theorem dX1_drift_95 : decode cX1_drift 95 = .ok (.iconst 2, 1) := by decide +kernel
theorem dX1_drift_96 : decode cX1_drift 96 = .ok (.iload_n 3, 1) := by decide +kernel
theorem dX1_drift_97 : decode cX1_drift 97 = .ok (.iconst 1, 1) := by decide +kernel
theorem dX1_drift_98 : decode cX1_drift 98 = .ok (.isub, 1) := by decide +kernel
theorem dX1_drift_99 : decode cX1_drift 99 = .ok (.imul, 1) := by decide +kernel
theorem dX1_drift_100 : decode cX1_drift 100 = .ok (.istore 5, 2) := by decide +kernel
theorem dX1_drift_102 : decode cX1_drift 102 = .ok (.aload_n 1, 1) := by decide +kernel
theorem dX1_drift_103 : decode cX1_drift 103 = .ok (.iload 5, 2) := by decide +kernel
theorem dX1_drift_105 : decode cX1_drift 105 = .ok (.invokevirtual 27, 3) := by decide +kernel
theorem dX1_drift_108 : decode cX1_drift 108 = .ok (.ifCond .eq 27, 3) := by decide +kernel
theorem dX1_drift_111 : decode cX1_drift 111 = .ok (.aload_n 2, 1) := by decide +kernel
theorem dX1_drift_112 : decode cX1_drift 112 = .ok (.iload 5, 2) := by decide +kernel
theorem dX1_drift_114 : decode cX1_drift 114 = .ok (.iaload, 1) := by decide +kernel
theorem dX1_drift_115 : decode cX1_drift 115 = .ok (.ineg, 1) := by decide +kernel
theorem dX1_drift_116 : decode cX1_drift 116 = .ok (.iload 4, 2) := by decide +kernel
theorem dX1_drift_118 : decode cX1_drift 118 = .ok (.if_icmp .le 17, 3) := by decide +kernel
theorem dX1_drift_121 : decode cX1_drift 121 = .ok (.aload_n 2, 1) := by decide +kernel
theorem dX1_drift_122 : decode cX1_drift 122 = .ok (.iload 5, 2) := by decide +kernel
theorem dX1_drift_124 : decode cX1_drift 124 = .ok (.iaload, 1) := by decide +kernel
theorem dX1_drift_125 : decode cX1_drift 125 = .ok (.ineg, 1) := by decide +kernel
theorem dX1_drift_126 : decode cX1_drift 126 = .ok (.istore 4, 2) := by decide +kernel
theorem dX1_drift_128 : decode cX1_drift 128 = .ok (.aload_n 0, 1) := by decide +kernel
theorem dX1_drift_129 : decode cX1_drift 129 = .ok (.iload_n 3, 1) := by decide +kernel
theorem dX1_drift_130 : decode cX1_drift 130 = .ok (.iconst 1, 1) := by decide +kernel
theorem dX1_drift_131 : decode cX1_drift 131 = .ok (.isub, 1) := by decide +kernel
theorem dX1_drift_132 : decode cX1_drift 132 = .ok (.putfield 21, 3) := by decide +kernel
theorem dX1_drift_135 : decode cX1_drift 135 = .ok (.iconst 2, 1) := by decide +kernel
theorem dX1_drift_136 : decode cX1_drift 136 = .ok (.iload_n 3, 1) := by decide +kernel
theorem dX1_drift_137 : decode cX1_drift 137 = .ok (.aload_n 1, 1) := by decide +kernel
theorem dX1_drift_138 : decode cX1_drift 138 = .ok (.getfield 31, 3) := by decide +kernel
theorem dX1_drift_141 : decode cX1_drift 141 = .ok (.isub, 1) := by decide +kernel
theorem dX1_drift_142 : decode cX1_drift 142 = .ok (.imul, 1) := by decide +kernel
theorem dX1_drift_143 : decode cX1_drift 143 = .ok (.iconst 1, 1) := by decide +kernel
theorem dX1_drift_144 : decode cX1_drift 144 = .ok (.iadd, 1) := by decide +kernel
theorem dX1_drift_145 : decode cX1_drift 145 = .ok (.istore 6, 2) := by decide +kernel
theorem dX1_drift_147 : decode cX1_drift 147 = .ok (.aload_n 1, 1) := by decide +kernel
theorem dX1_drift_148 : decode cX1_drift 148 = .ok (.iload 6, 2) := by decide +kernel
theorem dX1_drift_150 : decode cX1_drift 150 = .ok (.invokevirtual 27, 3) := by decide +kernel
theorem dX1_drift_153 : decode cX1_drift 153 = .ok (.ifCond .eq 23, 3) := by decide +kernel
theorem dX1_drift_156 : decode cX1_drift 156 = .ok (.aload_n 2, 1) := by decide +kernel
theorem dX1_drift_157 : decode cX1_drift 157 = .ok (.iload 6, 2) := by decide +kernel
theorem dX1_drift_159 : decode cX1_drift 159 = .ok (.iaload, 1) := by decide +kernel
theorem dX1_drift_160 : decode cX1_drift 160 = .ok (.ineg, 1) := by decide +kernel
theorem dX1_drift_161 : decode cX1_drift 161 = .ok (.iload 4, 2) := by decide +kernel
theorem dX1_drift_163 : decode cX1_drift 163 = .ok (.if_icmp .le 13, 3) := by decide +kernel
theorem dX1_drift_166 : decode cX1_drift 166 = .ok (.aload_n 0, 1) := by decide +kernel
theorem dX1_drift_167 : decode cX1_drift 167 = .ok (.iload_n 3, 1) := by decide +kernel
theorem dX1_drift_168 : decode cX1_drift 168 = .ok (.aload_n 1, 1) := by decide +kernel
theorem dX1_drift_169 : decode cX1_drift 169 = .ok (.getfield 31, 3) := by decide +kernel
theorem dX1_drift_172 : decode cX1_drift 172 = .ok (.isub, 1) := by decide +kernel
theorem dX1_drift_173 : decode cX1_drift 173 = .ok (.putfield 21, 3) := by decide +kernel
theorem dX1_drift_176 : decode cX1_drift 176 = .ok (.return_, 1) := by decide +kernel
noncomputable def f_X1_drift (o1 : Nat) (o2 : Nat) (u0 : qM) : Option (Unit × qM) :=
  q_lt (u0.1 8 o1 1) (fun (x1 : Int32) => q_lt ((u0.1 8 o1 2) - 1) (fun (x2 : Int32) => q_bd (f_X0_hasSide o2 (2 * x1) u0) (fun (x3 : Int32) (u1 : qM) => q_jn (fun (x4 : Int32) (u2 : qM) => q_bd (f_X0_hasSide o2 ((2 * x1) + 1) u2) (fun (x5 : Int32) (u3 : qM) => q_jn (fun (x6 : Int32) (u4 : qM) => q_lt (2 * (x1 - 1)) (fun (x7 : Int32) => q_bd (f_X0_hasSide o2 x7 u4) (fun (x8 : Int32) (u5 : qM) => q_jn (fun (x9 : Int32) (u6 : qM) => q_lt ((2 * (x1 - (u6.1 2 o2 12))) + 1) (fun (x10 : Int32) => q_bd (f_X0_hasSide o2 x10 u6) (fun (x11 : Int32) (u7 : qM) => q_jn (fun  (u8 : qM) => some ((), u8)) (fun j4 => if x11 = 0 then j4 u7 else q_ck (q_in x10 96) (if (-(u7.1 40 o2 (Int32.toNatClampNeg x10))) ≤ x9 then j4 u7 else q_lt (q_si u7 8 o1 1 (x1 - (u7.1 2 o2 12))) (fun (u9 : qM) => j4 u9)))))) (fun j3 => if x8 = 0 then j3 x6 u5 else q_ck (q_in x7 96) (if (-(u5.1 40 o2 (Int32.toNatClampNeg x7))) ≤ x6 then j3 x6 u5 else q_ck (q_in x7 96) (q_lt (-(u5.1 40 o2 (Int32.toNatClampNeg x7))) (fun (x12 : Int32) => q_lt (q_si u5 8 o1 1 (x1 - 1)) (fun (u10 : qM) => j3 x12 u10)))))))) (fun j2 => if x5 = 0 then j2 x4 u3 else q_ck (q_in ((2 * x1) + 1) 96) (if (u3.1 40 o2 (Int32.toNatClampNeg ((2 * x1) + 1))) ≤ x4 then j2 x4 u3 else q_ck (q_in ((2 * x1) + 1) 96) (q_lt (u3.1 40 o2 (Int32.toNatClampNeg ((2 * x1) + 1))) (fun (x13 : Int32) => q_lt (q_si u3 8 o1 1 (x1 + (u3.1 2 o2 12))) (fun (u11 : qM) => j2 x13 u11))))))) (fun j1 => if x3 = 0 then j1 x2 u1 else q_ck (q_in (2 * x1) 96) (if (u1.1 40 o2 (Int32.toNatClampNeg (2 * x1))) ≤ x2 then j1 x2 u1 else q_ck (q_in (2 * x1) 96) (q_lt (u1.1 40 o2 (Int32.toNatClampNeg (2 * x1))) (fun (x14 : Int32) => q_lt (q_si u1 8 o1 1 (x1 + 1)) (fun (u12 : qM) => j1 x14 u12))))))))
set_option maxRecDepth 100000 in
set_option maxHeartbeats 4000000 in
theorem k_X1_drift (l : Launch) (G : qG) (o1 : Nat) (o2 : Nat) (ho1 : o1 < 8) (ho2 : o2 < 7) (u0 : qM) : qCt l G m_X1_drift q_cU [.ref (q_ad G 8 o1), .ref (q_ad G 2 o2)] u0 (f_X1_drift o1 o2 u0) := by
  refine q_entry pk_X1_drift (Nat.le_of_ble_eq_true rfl) ?_
  show qAW l G m_X1_drift (q_mq G q_cU) 0 [(0, .ref (q_ad G 8 o1)), (1, .ref (q_ad G 2 o2))] [] u0 (f_X1_drift o1 o2 u0)
  unfold f_X1_drift
  refine aw_aload_n (i := 1) dX1_drift_0 1 rfl rfl 1 rfl ?_
  refine gfN_X0_3 dX1_drift_1 4 rfl "SeaCells" (ns_35) (ok_2 ho2) ?_
  refine aw_astore_n dX1_drift_4 5 rfl rfl [(2, .ref (q_ad G 40 o2)), (0, .ref (q_ad G 8 o1)), (1, .ref (q_ad G 2 o2))] (by decide) rfl ?_
  refine aw_aload_n (i := 0) dX1_drift_5 6 rfl rfl 1 rfl ?_
  refine gf_X1_1 dX1_drift_6 9 rfl wd_62 (ok_8 ho1) ?_
  refine aw_lti (fun x1 => ?_)
  refine aw_istore_n dX1_drift_9 10 rfl rfl [(3, .int x1), (2, .ref (q_ad G 40 o2)), (0, .ref (q_ad G 8 o1)), (1, .ref (q_ad G 2 o2))] (by decide) rfl ?_
  refine aw_aload_n (i := 0) dX1_drift_10 11 rfl rfl 2 rfl ?_
  refine gf_X1_2 dX1_drift_11 14 rfl wd_63 (ok_8 ho1) ?_
  refine aw_iconst (x := 1) dX1_drift_14 15 rfl rfl ?_
  refine aw_isub dX1_drift_15 16 rfl ?_
  refine aw_lti (fun x2 => ?_)
  refine aw_istore dX1_drift_16 18 rfl [(4, .int x2), (3, .int x1), (2, .ref (q_ad G 40 o2)), (0, .ref (q_ad G 8 o1)), (1, .ref (q_ad G 2 o2))] (by decide) rfl ?_
  refine aw_aload_n (i := 1) dX1_drift_18 19 rfl rfl 4 rfl ?_
  refine aw_iconst (x := 2) dX1_drift_19 20 rfl rfl ?_
  refine aw_iload_n (i := 3) dX1_drift_20 21 rfl rfl 1 rfl ?_
  refine aw_imul dX1_drift_21 22 rfl ?_
  refine aw_callV (M2 := m_X0_hasSide) (cv := q_cI) dX1_drift_22 25 rfl (k_X0_hasSide l G o2 (2 * x1) ho2 u0) wd_64 wv_X0_hasSide pk_X0_hasSide rfl rfl ⟨by decide, by decide⟩ ⟨Nat.zero_le _, Nat.zero_le _⟩ at_2 (ok_2 ho2) rfl rfl rfl (Nat.le_of_ble_eq_true rfl) (fun x3 u1 => ?_)
  show qAW l G m_X1_drift (q_mq G q_cU) 25 [(4, .int x2), (3, .int x1), (2, .ref (q_ad G 40 o2)), (0, .ref (q_ad G 8 o1)), (1, .ref (q_ad G 2 o2))] [.int x3] u1 _
  refine aw_jn (fun k => ∀ (x4 : Int32) (u2 : qM), qAW l G m_X1_drift (q_mq G q_cU) 52 [(0, .ref (q_ad G 8 o1)), (1, .ref (q_ad G 2 o2)), (2, .ref (q_ad G 40 o2)), (3, .int x1), (4, .int x4)] [] u2 (k x4 u2)) ?_ ?_
  · intro x4 u2
    refine aw_aload_n (i := 1) dX1_drift_52 53 rfl rfl 1 rfl ?_
    refine aw_iconst (x := 2) dX1_drift_53 54 rfl rfl ?_
    refine aw_iload_n (i := 3) dX1_drift_54 55 rfl rfl 3 rfl ?_
    refine aw_imul dX1_drift_55 56 rfl ?_
    refine aw_iconst (x := 1) dX1_drift_56 57 rfl rfl ?_
    refine aw_iadd dX1_drift_57 58 rfl ?_
    refine aw_callV (M2 := m_X0_hasSide) (cv := q_cI) dX1_drift_58 61 rfl (k_X0_hasSide l G o2 ((2 * x1) + 1) ho2 u2) wd_64 wv_X0_hasSide pk_X0_hasSide rfl rfl ⟨by decide, by decide⟩ ⟨Nat.zero_le _, Nat.zero_le _⟩ at_2 (ok_2 ho2) rfl rfl rfl (Nat.le_of_ble_eq_true rfl) (fun x5 u3 => ?_)
    show qAW l G m_X1_drift (q_mq G q_cU) 61 [(0, .ref (q_ad G 8 o1)), (1, .ref (q_ad G 2 o2)), (2, .ref (q_ad G 40 o2)), (3, .int x1), (4, .int x4)] [.int x5] u3 _
    refine aw_jn (fun k => ∀ (x6 : Int32) (u4 : qM), qAW l G m_X1_drift (q_mq G q_cU) 95 [(0, .ref (q_ad G 8 o1)), (1, .ref (q_ad G 2 o2)), (2, .ref (q_ad G 40 o2)), (3, .int x1), (4, .int x6)] [] u4 (k x6 u4)) ?_ ?_
    · intro x6 u4
      refine aw_iconst (x := 2) dX1_drift_95 96 rfl rfl ?_
      refine aw_iload_n (i := 3) dX1_drift_96 97 rfl rfl 3 rfl ?_
      refine aw_iconst (x := 1) dX1_drift_97 98 rfl rfl ?_
      refine aw_isub dX1_drift_98 99 rfl ?_
      refine aw_imul dX1_drift_99 100 rfl ?_
      refine aw_lti (fun x7 => ?_)
      refine aw_istore dX1_drift_100 102 rfl [(5, .int x7), (0, .ref (q_ad G 8 o1)), (1, .ref (q_ad G 2 o2)), (2, .ref (q_ad G 40 o2)), (3, .int x1), (4, .int x6)] (by decide) rfl ?_
      refine aw_aload_n (i := 1) dX1_drift_102 103 rfl rfl 2 rfl ?_
      refine aw_iload (i := 5) dX1_drift_103 105 rfl 0 rfl ?_
      refine aw_callV (M2 := m_X0_hasSide) (cv := q_cI) dX1_drift_105 108 rfl (k_X0_hasSide l G o2 x7 ho2 u4) wd_64 wv_X0_hasSide pk_X0_hasSide rfl rfl ⟨by decide, by decide⟩ ⟨Nat.zero_le _, Nat.zero_le _⟩ at_2 (ok_2 ho2) rfl rfl rfl (Nat.le_of_ble_eq_true rfl) (fun x8 u5 => ?_)
      show qAW l G m_X1_drift (q_mq G q_cU) 108 [(5, .int x7), (0, .ref (q_ad G 8 o1)), (1, .ref (q_ad G 2 o2)), (2, .ref (q_ad G 40 o2)), (3, .int x1), (4, .int x6)] [.int x8] u5 _
      refine aw_jn (fun k => ∀ (x9 : Int32) (u6 : qM), qAW l G m_X1_drift (q_mq G q_cU) 135 [(0, .ref (q_ad G 8 o1)), (1, .ref (q_ad G 2 o2)), (2, .ref (q_ad G 40 o2)), (3, .int x1), (4, .int x9)] [] u6 (k x9 u6)) ?_ ?_
      · intro x9 u6
        refine aw_iconst (x := 2) dX1_drift_135 136 rfl rfl ?_
        refine aw_iload_n (i := 3) dX1_drift_136 137 rfl rfl 3 rfl ?_
        refine aw_aload_n (i := 1) dX1_drift_137 138 rfl rfl 1 rfl ?_
        refine gfN_X0_12 dX1_drift_138 141 rfl "SeaCells" (ns_49) (ok_2 ho2) ?_
        refine aw_isub dX1_drift_141 142 rfl ?_
        refine aw_imul dX1_drift_142 143 rfl ?_
        refine aw_iconst (x := 1) dX1_drift_143 144 rfl rfl ?_
        refine aw_iadd dX1_drift_144 145 rfl ?_
        refine aw_lti (fun x10 => ?_)
        refine aw_istore dX1_drift_145 147 rfl [(6, .int x10), (0, .ref (q_ad G 8 o1)), (1, .ref (q_ad G 2 o2)), (2, .ref (q_ad G 40 o2)), (3, .int x1), (4, .int x9)] (by decide) rfl ?_
        refine aw_aload_n (i := 1) dX1_drift_147 148 rfl rfl 2 rfl ?_
        refine aw_iload (i := 6) dX1_drift_148 150 rfl 0 rfl ?_
        refine aw_callV (M2 := m_X0_hasSide) (cv := q_cI) dX1_drift_150 153 rfl (k_X0_hasSide l G o2 x10 ho2 u6) wd_64 wv_X0_hasSide pk_X0_hasSide rfl rfl ⟨by decide, by decide⟩ ⟨Nat.zero_le _, Nat.zero_le _⟩ at_2 (ok_2 ho2) rfl rfl rfl (Nat.le_of_ble_eq_true rfl) (fun x11 u7 => ?_)
        show qAW l G m_X1_drift (q_mq G q_cU) 153 [(6, .int x10), (0, .ref (q_ad G 8 o1)), (1, .ref (q_ad G 2 o2)), (2, .ref (q_ad G 40 o2)), (3, .int x1), (4, .int x9)] [.int x11] u7 _
        refine aw_jn (fun k => ∀  (u8 : qM), qAW l G m_X1_drift (q_mq G q_cU) 176 [] [] u8 (k u8)) ?_ ?_
        · intro u8
          exact aw_vret dX1_drift_176 rfl
        · intro j4 hj4
          refine aw_if_eq dX1_drift_153 156 rfl 176 rfl (fun h4 => ?_) (fun h4 => ?_)
          · exact aw_conv [] rfl (hj4 u7)
          · refine aw_aload_n (i := 2) dX1_drift_156 157 rfl rfl 3 rfl ?_
            refine aw_iload (i := 6) dX1_drift_157 159 rfl 0 rfl ?_
            refine aw_iald dX1_drift_159 160 rfl at_40 (al_40 _) (ok_40 ho2) (fun h5 => ?_)
            refine aw_ineg dX1_drift_160 161 rfl ?_
            refine aw_iload (i := 4) dX1_drift_161 163 rfl 5 rfl ?_
            refine aw_icmp_le dX1_drift_163 166 rfl 176 rfl (fun h6 => ?_) (fun h6 => ?_)
            · exact aw_conv [] rfl (hj4 u7)
            · refine aw_aload_n (i := 0) dX1_drift_166 167 rfl rfl 1 rfl ?_
              refine aw_iload_n (i := 3) dX1_drift_167 168 rfl rfl 4 rfl ?_
              refine aw_aload_n (i := 1) dX1_drift_168 169 rfl rfl 2 rfl ?_
              refine gfN_X0_12 dX1_drift_169 172 rfl "SeaCells" (ns_49) (ok_2 ho2) ?_
              refine aw_isub dX1_drift_172 173 rfl ?_
              refine pf_X1_1 dX1_drift_173 176 rfl wd_62 (ok_8 ho1) ?_
              refine aw_ltm (fun u9 => ?_)
              exact aw_conv [] rfl (hj4 u9)
      · intro j3 hj3
        refine aw_if_eq dX1_drift_108 111 rfl 135 rfl (fun h3 => ?_) (fun h3 => ?_)
        · exact aw_conv [1, 2, 3, 4, 5] rfl (hj3 x6 u5)
        · refine aw_aload_n (i := 2) dX1_drift_111 112 rfl rfl 3 rfl ?_
          refine aw_iload (i := 5) dX1_drift_112 114 rfl 0 rfl ?_
          refine aw_iald dX1_drift_114 115 rfl at_40 (al_40 _) (ok_40 ho2) (fun h7 => ?_)
          refine aw_ineg dX1_drift_115 116 rfl ?_
          refine aw_iload (i := 4) dX1_drift_116 118 rfl 5 rfl ?_
          refine aw_icmp_le dX1_drift_118 121 rfl 135 rfl (fun h8 => ?_) (fun h8 => ?_)
          · exact aw_conv [1, 2, 3, 4, 5] rfl (hj3 x6 u5)
          · refine aw_aload_n (i := 2) dX1_drift_121 122 rfl rfl 3 rfl ?_
            refine aw_iload (i := 5) dX1_drift_122 124 rfl 0 rfl ?_
            refine aw_iald dX1_drift_124 125 rfl at_40 (al_40 _) (ok_40 ho2) (fun h9 => ?_)
            refine aw_ineg dX1_drift_125 126 rfl ?_
            refine aw_lti (fun x12 => ?_)
            refine aw_istore dX1_drift_126 128 rfl [(4, .int x12), (5, .int x7), (0, .ref (q_ad G 8 o1)), (1, .ref (q_ad G 2 o2)), (2, .ref (q_ad G 40 o2)), (3, .int x1)] (by decide) rfl ?_
            refine aw_aload_n (i := 0) dX1_drift_128 129 rfl rfl 2 rfl ?_
            refine aw_iload_n (i := 3) dX1_drift_129 130 rfl rfl 5 rfl ?_
            refine aw_iconst (x := 1) dX1_drift_130 131 rfl rfl ?_
            refine aw_isub dX1_drift_131 132 rfl ?_
            refine pf_X1_1 dX1_drift_132 135 rfl wd_62 (ok_8 ho1) ?_
            refine aw_ltm (fun u10 => ?_)
            exact aw_conv [2, 3, 4, 5, 0] rfl (hj3 x12 u10)
    · intro j2 hj2
      refine aw_if_eq dX1_drift_61 64 rfl 95 rfl (fun h2 => ?_) (fun h2 => ?_)
      · exact hj2 x4 u3
      · refine aw_aload_n (i := 2) dX1_drift_64 65 rfl rfl 2 rfl ?_
        refine aw_iconst (x := 2) dX1_drift_65 66 rfl rfl ?_
        refine aw_iload_n (i := 3) dX1_drift_66 67 rfl rfl 3 rfl ?_
        refine aw_imul dX1_drift_67 68 rfl ?_
        refine aw_iconst (x := 1) dX1_drift_68 69 rfl rfl ?_
        refine aw_iadd dX1_drift_69 70 rfl ?_
        refine aw_iald dX1_drift_70 71 rfl at_40 (al_40 _) (ok_40 ho2) (fun h10 => ?_)
        refine aw_iload (i := 4) dX1_drift_71 73 rfl 4 rfl ?_
        refine aw_icmp_le dX1_drift_73 76 rfl 95 rfl (fun h11 => ?_) (fun h11 => ?_)
        · exact hj2 x4 u3
        · refine aw_aload_n (i := 2) dX1_drift_76 77 rfl rfl 2 rfl ?_
          refine aw_iconst (x := 2) dX1_drift_77 78 rfl rfl ?_
          refine aw_iload_n (i := 3) dX1_drift_78 79 rfl rfl 3 rfl ?_
          refine aw_imul dX1_drift_79 80 rfl ?_
          refine aw_iconst (x := 1) dX1_drift_80 81 rfl rfl ?_
          refine aw_iadd dX1_drift_81 82 rfl ?_
          refine aw_iald dX1_drift_82 83 rfl at_40 (al_40 _) (ok_40 ho2) (fun h12 => ?_)
          refine aw_lti (fun x13 => ?_)
          refine aw_istore dX1_drift_83 85 rfl [(4, .int x13), (0, .ref (q_ad G 8 o1)), (1, .ref (q_ad G 2 o2)), (2, .ref (q_ad G 40 o2)), (3, .int x1)] (by decide) rfl ?_
          refine aw_aload_n (i := 0) dX1_drift_85 86 rfl rfl 1 rfl ?_
          refine aw_iload_n (i := 3) dX1_drift_86 87 rfl rfl 4 rfl ?_
          refine aw_aload_n (i := 1) dX1_drift_87 88 rfl rfl 2 rfl ?_
          refine gfN_X0_12 dX1_drift_88 91 rfl "SeaCells" (ns_49) (ok_2 ho2) ?_
          refine aw_iadd dX1_drift_91 92 rfl ?_
          refine pf_X1_1 dX1_drift_92 95 rfl wd_62 (ok_8 ho1) ?_
          refine aw_ltm (fun u11 => ?_)
          exact aw_conv [1, 2, 3, 4, 0] rfl (hj2 x13 u11)
  · intro j1 hj1
    refine aw_if_eq dX1_drift_25 28 rfl 52 rfl (fun h1 => ?_) (fun h1 => ?_)
    · exact aw_conv [3, 4, 2, 1, 0] rfl (hj1 x2 u1)
    · refine aw_aload_n (i := 2) dX1_drift_28 29 rfl rfl 2 rfl ?_
      refine aw_iconst (x := 2) dX1_drift_29 30 rfl rfl ?_
      refine aw_iload_n (i := 3) dX1_drift_30 31 rfl rfl 1 rfl ?_
      refine aw_imul dX1_drift_31 32 rfl ?_
      refine aw_iald dX1_drift_32 33 rfl at_40 (al_40 _) (ok_40 ho2) (fun h13 => ?_)
      refine aw_iload (i := 4) dX1_drift_33 35 rfl 0 rfl ?_
      refine aw_icmp_le dX1_drift_35 38 rfl 52 rfl (fun h14 => ?_) (fun h14 => ?_)
      · exact aw_conv [3, 4, 2, 1, 0] rfl (hj1 x2 u1)
      · refine aw_aload_n (i := 2) dX1_drift_38 39 rfl rfl 2 rfl ?_
        refine aw_iconst (x := 2) dX1_drift_39 40 rfl rfl ?_
        refine aw_iload_n (i := 3) dX1_drift_40 41 rfl rfl 1 rfl ?_
        refine aw_imul dX1_drift_41 42 rfl ?_
        refine aw_iald dX1_drift_42 43 rfl at_40 (al_40 _) (ok_40 ho2) (fun h15 => ?_)
        refine aw_lti (fun x14 => ?_)
        refine aw_istore dX1_drift_43 45 rfl [(4, .int x14), (3, .int x1), (2, .ref (q_ad G 40 o2)), (0, .ref (q_ad G 8 o1)), (1, .ref (q_ad G 2 o2))] (by decide) rfl ?_
        refine aw_aload_n (i := 0) dX1_drift_45 46 rfl rfl 3 rfl ?_
        refine aw_iload_n (i := 3) dX1_drift_46 47 rfl rfl 1 rfl ?_
        refine aw_iconst (x := 1) dX1_drift_47 48 rfl rfl ?_
        refine aw_iadd dX1_drift_48 49 rfl ?_
        refine pf_X1_1 dX1_drift_49 52 rfl wd_62 (ok_8 ho1) ?_
        refine aw_ltm (fun u12 => ?_)
        exact aw_conv [3, 4, 2, 1, 0] rfl (hj1 x14 u12)
theorem dX1_digested_0 : decode cX1_digested 0 = .ok (.aload_n 0, 1) := by decide +kernel
theorem dX1_digested_1 : decode cX1_digested 1 = .ok (.getfield 9, 3) := by decide +kernel
theorem dX1_digested_4 : decode cX1_digested 4 = .ok (.bipush (-9), 2) := by decide +kernel
theorem dX1_digested_6 : decode cX1_digested 6 = .ok (.if_icmp .ne 11, 3) := by decide +kernel
theorem dX1_digested_9 : decode cX1_digested 9 = .ok (.ldc2_w 34, 3) := by decide +kernel
theorem dX1_digested_12 : decode cX1_digested 12 = .ok (.lload_n 1, 1) := by decide +kernel
theorem dX1_digested_13 : decode cX1_digested 13 = .ok (.lmul, 1) := by decide +kernel
theorem dX1_digested_14 : decode cX1_digested 14 = .ok (.lconst 1, 1) := by decide +kernel
theorem dX1_digested_15 : decode cX1_digested 15 = .ok (.lsub, 1) := by decide +kernel
theorem dX1_digested_16 : decode cX1_digested 16 = .ok (.lreturn, 1) := by decide +kernel
theorem dX1_digested_17 : decode cX1_digested 17 = .ok (.ldc2_w 34, 3) := by decide +kernel
theorem dX1_digested_20 : decode cX1_digested 20 = .ok (.ldc2_w 34, 3) := by decide +kernel
theorem dX1_digested_23 : decode cX1_digested 23 = .ok (.ldc2_w 34, 3) := by decide +kernel
theorem dX1_digested_26 : decode cX1_digested 26 = .ok (.lload_n 1, 1) := by decide +kernel
theorem dX1_digested_27 : decode cX1_digested 27 = .ok (.lmul, 1) := by decide +kernel
theorem dX1_digested_28 : decode cX1_digested 28 = .ok (.aload_n 0, 1) := by decide +kernel
theorem dX1_digested_29 : decode cX1_digested 29 = .ok (.getfield 9, 3) := by decide +kernel
theorem dX1_digested_32 : decode cX1_digested 32 = .ok (.i2l, 1) := by decide +kernel
theorem dX1_digested_33 : decode cX1_digested 33 = .ok (.ladd, 1) := by decide +kernel
theorem dX1_digested_34 : decode cX1_digested 34 = .ok (.lmul, 1) := by decide +kernel
theorem dX1_digested_35 : decode cX1_digested 35 = .ok (.aload_n 0, 1) := by decide +kernel
theorem dX1_digested_36 : decode cX1_digested 36 = .ok (.getfield 21, 3) := by decide +kernel
theorem dX1_digested_39 : decode cX1_digested 39 = .ok (.i2l, 1) := by decide +kernel
theorem dX1_digested_40 : decode cX1_digested 40 = .ok (.ladd, 1) := by decide +kernel
theorem dX1_digested_41 : decode cX1_digested 41 = .ok (.lmul, 1) := by decide +kernel
theorem dX1_digested_42 : decode cX1_digested 42 = .ok (.aload_n 0, 1) := by decide +kernel
theorem dX1_digested_43 : decode cX1_digested 43 = .ok (.getfield 24, 3) := by decide +kernel
theorem dX1_digested_46 : decode cX1_digested 46 = .ok (.i2l, 1) := by decide +kernel
theorem dX1_digested_47 : decode cX1_digested 47 = .ok (.ladd, 1) := by decide +kernel
theorem dX1_digested_48 : decode cX1_digested 48 = .ok (.lreturn, 1) := by decide +kernel
noncomputable def f_X1_digested (o1 : Nat) (w1 : Int64) (u0 : qM) : Option (Int64 × qM) :=
  if (u0.1 8 o1 0) = (-9) then some ((31 * w1) - 1, u0) else some ((31 * ((31 * ((31 * w1) + (Int32.toInt64 (u0.1 8 o1 0)))) + (Int32.toInt64 (u0.1 8 o1 1)))) + (Int32.toInt64 (u0.1 8 o1 2)), u0)
set_option maxRecDepth 100000 in
set_option maxHeartbeats 4000000 in
theorem k_X1_digested (l : Launch) (G : qG) (o1 : Nat) (w1 : Int64) (ho1 : o1 < 8) (u0 : qM) : qCt l G m_X1_digested q_cL [.ref (q_ad G 8 o1), .long w1] u0 (f_X1_digested o1 w1 u0) := by
  refine q_entry pk_X1_digested (Nat.le_of_ble_eq_true rfl) ?_
  show qAW l G m_X1_digested (q_mq G q_cL) 0 [(0, .ref (q_ad G 8 o1)), (1, .long w1)] [] u0 (f_X1_digested o1 w1 u0)
  unfold f_X1_digested
  refine aw_aload_n (i := 0) dX1_digested_0 1 rfl rfl 0 rfl ?_
  refine gf_X1_0 dX1_digested_1 4 rfl wd_65 (ok_8 ho1) ?_
  refine aw_bipush (x := (-9)) dX1_digested_4 6 rfl rfl ?_
  refine aw_icmp_ne dX1_digested_6 9 rfl 17 rfl (fun h1 => ?_) (fun h1 => ?_)
  · refine aw_ldc2 (x := 31) dX1_digested_17 20 rfl wd_66 ?_
    refine aw_ldc2 (x := 31) dX1_digested_20 23 rfl wd_66 ?_
    refine aw_ldc2 (x := 31) dX1_digested_23 26 rfl wd_66 ?_
    refine aw_lload_n (i := 1) dX1_digested_26 27 rfl rfl 1 rfl ?_
    refine aw_lmul dX1_digested_27 28 rfl ?_
    refine aw_aload_n (i := 0) dX1_digested_28 29 rfl rfl 0 rfl ?_
    refine gf_X1_0 dX1_digested_29 32 rfl wd_65 (ok_8 ho1) ?_
    refine aw_i2l dX1_digested_32 33 rfl ?_
    refine aw_ladd dX1_digested_33 34 rfl ?_
    refine aw_lmul dX1_digested_34 35 rfl ?_
    refine aw_aload_n (i := 0) dX1_digested_35 36 rfl rfl 0 rfl ?_
    refine gf_X1_1 dX1_digested_36 39 rfl wd_62 (ok_8 ho1) ?_
    refine aw_i2l dX1_digested_39 40 rfl ?_
    refine aw_ladd dX1_digested_40 41 rfl ?_
    refine aw_lmul dX1_digested_41 42 rfl ?_
    refine aw_aload_n (i := 0) dX1_digested_42 43 rfl rfl 0 rfl ?_
    refine gf_X1_2 dX1_digested_43 46 rfl wd_63 (ok_8 ho1) ?_
    refine aw_i2l dX1_digested_46 47 rfl ?_
    refine aw_ladd dX1_digested_47 48 rfl ?_
    exact aw_lret dX1_digested_48 rfl
  · refine aw_ldc2 (x := 31) dX1_digested_9 12 rfl wd_66 ?_
    refine aw_lload_n (i := 1) dX1_digested_12 13 rfl rfl 1 rfl ?_
    refine aw_lmul dX1_digested_13 14 rfl ?_
    refine aw_lconst (x := 1) dX1_digested_14 15 rfl rfl ?_
    refine aw_lsub dX1_digested_15 16 rfl ?_
    exact aw_lret dX1_digested_16 rfl
theorem dX2_place_0 : decode cX2_place 0 = .ok (.aload_n 0, 1) := by decide +kernel
theorem dX2_place_1 : decode cX2_place 1 = .ok (.iload_n 1, 1) := by decide +kernel
theorem dX2_place_2 : decode cX2_place 2 = .ok (.putfield 19, 3) := by decide +kernel
theorem dX2_place_5 : decode cX2_place 5 = .ok (.aload_n 0, 1) := by decide +kernel
theorem dX2_place_6 : decode cX2_place 6 = .ok (.iload_n 2, 1) := by decide +kernel
theorem dX2_place_7 : decode cX2_place 7 = .ok (.putfield 23, 3) := by decide +kernel
theorem dX2_place_10 : decode cX2_place 10 = .ok (.aload_n 0, 1) := by decide +kernel
theorem dX2_place_11 : decode cX2_place 11 = .ok (.iconst 0, 1) := by decide +kernel
theorem dX2_place_12 : decode cX2_place 12 = .ok (.putfield 26, 3) := by decide +kernel
theorem dX2_place_15 : decode cX2_place 15 = .ok (.aload_n 0, 1) := by decide +kernel
theorem dX2_place_16 : decode cX2_place 16 = .ok (.iconst 0, 1) := by decide +kernel
theorem dX2_place_17 : decode cX2_place 17 = .ok (.putfield 29, 3) := by decide +kernel
theorem dX2_place_20 : decode cX2_place 20 = .ok (.return_, 1) := by decide +kernel
noncomputable def f_X2_place (o1 : Nat) (x1 : Int32) (x2 : Int32) (u0 : qM) : Option (Unit × qM) :=
  q_lt (q_si u0 9 o1 2 x1) (fun (u1 : qM) => q_lt (q_si u1 9 o1 3 x2) (fun (u2 : qM) => q_lt (q_si u2 9 o1 4 0) (fun (u3 : qM) => q_lt (q_si u3 9 o1 5 0) (fun (u4 : qM) => some ((), u4)))))
set_option maxRecDepth 100000 in
set_option maxHeartbeats 4000000 in
theorem k_X2_place (l : Launch) (G : qG) (o1 : Nat) (x1 : Int32) (x2 : Int32) (ho1 : o1 < 8) (u0 : qM) : qCt l G m_X2_place q_cU [.ref (q_ad G 9 o1), .int x1, .int x2] u0 (f_X2_place o1 x1 x2 u0) := by
  refine q_entry pk_X2_place (Nat.le_of_ble_eq_true rfl) ?_
  show qAW l G m_X2_place (q_mq G q_cU) 0 [(0, .ref (q_ad G 9 o1)), (1, .int x1), (2, .int x2)] [] u0 (f_X2_place o1 x1 x2 u0)
  unfold f_X2_place
  refine aw_aload_n (i := 0) dX2_place_0 1 rfl rfl 0 rfl ?_
  refine aw_iload_n (i := 1) dX2_place_1 2 rfl rfl 1 rfl ?_
  refine pf_X2_2 dX2_place_2 5 rfl wd_67 (ok_9 ho1) ?_
  refine aw_ltm (fun u1 => ?_)
  refine aw_aload_n (i := 0) dX2_place_5 6 rfl rfl 0 rfl ?_
  refine aw_iload_n (i := 2) dX2_place_6 7 rfl rfl 2 rfl ?_
  refine pf_X2_3 dX2_place_7 10 rfl wd_68 (ok_9 ho1) ?_
  refine aw_ltm (fun u2 => ?_)
  refine aw_aload_n (i := 0) dX2_place_10 11 rfl rfl 0 rfl ?_
  refine aw_iconst (x := 0) dX2_place_11 12 rfl rfl ?_
  refine pf_X2_4 dX2_place_12 15 rfl wd_69 (ok_9 ho1) ?_
  refine aw_ltm (fun u3 => ?_)
  refine aw_aload_n (i := 0) dX2_place_15 16 rfl rfl 0 rfl ?_
  refine aw_iconst (x := 0) dX2_place_16 17 rfl rfl ?_
  refine pf_X2_5 dX2_place_17 20 rfl wd_70 (ok_9 ho1) ?_
  refine aw_ltm (fun u4 => ?_)
  exact aw_vret dX2_place_20 rfl
theorem dX2_fromOldest_0 : decode cX2_fromOldest 0 = .ok (.aload_n 0, 1) := by decide +kernel
theorem dX2_fromOldest_1 : decode cX2_fromOldest 1 = .ok (.getfield 26, 3) := by decide +kernel
theorem dX2_fromOldest_4 : decode cX2_fromOldest 4 = .ok (.iload_n 1, 1) := by decide +kernel
theorem dX2_fromOldest_5 : decode cX2_fromOldest 5 = .ok (.iadd, 1) := by decide +kernel
theorem dX2_fromOldest_6 : decode cX2_fromOldest 6 = .ok (.bipush 48, 2) := by decide +kernel
theorem dX2_fromOldest_8 : decode cX2_fromOldest 8 = .ok (.irem, 1) := by decide +kernel
theorem dX2_fromOldest_9 : decode cX2_fromOldest 9 = .ok (.ireturn, 1) := by decide +kernel
noncomputable def f_X2_fromOldest (o1 : Nat) (x1 : Int32) (u0 : qM) : Option (Int32 × qM) :=
  some (((u0.1 9 o1 4) + x1) - ((u0.1 9 o1 4) + x1) / 48 * 48, u0)
set_option maxRecDepth 100000 in
set_option maxHeartbeats 4000000 in
theorem k_X2_fromOldest (l : Launch) (G : qG) (o1 : Nat) (x1 : Int32) (ho1 : o1 < 8) (u0 : qM) : qCt l G m_X2_fromOldest q_cI [.ref (q_ad G 9 o1), .int x1] u0 (f_X2_fromOldest o1 x1 u0) := by
  refine q_entry pk_X2_fromOldest (Nat.le_of_ble_eq_true rfl) ?_
  show qAW l G m_X2_fromOldest (q_mq G q_cI) 0 [(0, .ref (q_ad G 9 o1)), (1, .int x1)] [] u0 (f_X2_fromOldest o1 x1 u0)
  unfold f_X2_fromOldest
  refine aw_aload_n (i := 0) dX2_fromOldest_0 1 rfl rfl 0 rfl ?_
  refine gf_X2_4 dX2_fromOldest_1 4 rfl wd_69 (ok_9 ho1) ?_
  refine aw_iload_n (i := 1) dX2_fromOldest_4 5 rfl rfl 1 rfl ?_
  refine aw_iadd dX2_fromOldest_5 6 rfl ?_
  refine aw_bipush (x := 48) dX2_fromOldest_6 8 rfl rfl ?_
  refine aw_irem dX2_fromOldest_8 9 rfl (by decide) ?_
  exact aw_iret dX2_fromOldest_9 rfl
theorem dX2_read_0 : decode cX2_read 0 = .ok (.aload_n 0, 1) := by decide +kernel
theorem dX2_read_1 : decode cX2_read 1 = .ok (.aload_n 0, 1) := by decide +kernel
theorem dX2_read_2 : decode cX2_read 2 = .ok (.getfield 29, 3) := by decide +kernel
theorem dX2_read_5 : decode cX2_read 5 = .ok (.invokevirtual 32, 3) := by decide +kernel
theorem dX2_read_8 : decode cX2_read 8 = .ok (.istore_n 2, 1) := by decide +kernel
theorem dX2_read_9 : decode cX2_read 9 = .ok (.aload_n 0, 1) := by decide +kernel
theorem dX2_read_10 : decode cX2_read 10 = .ok (.getfield 9, 3) := by decide +kernel
theorem dX2_read_13 : decode cX2_read 13 = .ok (.iload_n 2, 1) := by decide +kernel
theorem dX2_read_14 : decode cX2_read 14 = .ok (.iload_n 1, 1) := by decide +kernel
theorem dX2_read_15 : decode cX2_read 15 = .ok (.iastore, 1) := by decide +kernel
theorem dX2_read_16 : decode cX2_read 16 = .ok (.aload_n 0, 1) := by decide +kernel
theorem dX2_read_17 : decode cX2_read 17 = .ok (.getfield 15, 3) := by decide +kernel
theorem dX2_read_20 : decode cX2_read 20 = .ok (.iload_n 2, 1) := by decide +kernel
theorem dX2_read_21 : decode cX2_read 21 = .ok (.iconst 0, 1) := by decide +kernel
theorem dX2_read_22 : decode cX2_read 22 = .ok (.bastore, 1) := by decide +kernel
theorem dX2_read_23 : decode cX2_read 23 = .ok (.aload_n 0, 1) := by decide +kernel
theorem dX2_read_24 : decode cX2_read 24 = .ok (.getfield 29, 3) := by decide +kernel
theorem dX2_read_27 : decode cX2_read 27 = .ok (.bipush 48, 2) := by decide +kernel
theorem dX2_read_29 : decode cX2_read 29 = .ok (.if_icmp .ge 16, 3) := by decide +kernel
theorem dX2_read_32 : decode cX2_read 32 = .ok (.aload_n 0, 1) := by decide +kernel
theorem dX2_read_33 : decode cX2_read 33 = .ok (.dup, 1) := by decide +kernel
theorem dX2_read_34 : decode cX2_read 34 = .ok (.getfield 29, 3) := by decide +kernel
theorem dX2_read_37 : decode cX2_read 37 = .ok (.iconst 1, 1) := by decide +kernel
theorem dX2_read_38 : decode cX2_read 38 = .ok (.iadd, 1) := by decide +kernel
theorem dX2_read_39 : decode cX2_read 39 = .ok (.putfield 29, 3) := by decide +kernel
theorem dX2_read_42 : decode cX2_read 42 = .ok (.goto 12, 3) := by decide +kernel
theorem dX2_read_45 : decode cX2_read 45 = .ok (.aload_n 0, 1) := by decide +kernel
theorem dX2_read_46 : decode cX2_read 46 = .ok (.aload_n 0, 1) := by decide +kernel
theorem dX2_read_47 : decode cX2_read 47 = .ok (.iconst 1, 1) := by decide +kernel
theorem dX2_read_48 : decode cX2_read 48 = .ok (.invokevirtual 32, 3) := by decide +kernel
theorem dX2_read_51 : decode cX2_read 51 = .ok (.putfield 26, 3) := by decide +kernel
theorem dX2_read_54 : decode cX2_read 54 = .ok (.return_, 1) := by decide +kernel
noncomputable def f_X2_read (o1 : Nat) (x1 : Int32) (u0 : qM) : Option (Unit × qM) :=
  q_bd (f_X2_fromOldest o1 (u0.1 9 o1 5) u0) (fun (x2 : Int32) (u1 : qM) => q_ck (q_in x2 48) (q_lt (q_si u1 52 o1 (Int32.toNatClampNeg x2) x1) (fun (u2 : qM) => q_ck (q_in x2 48) (q_lt (q_si u2 53 o1 (Int32.toNatClampNeg x2) (vp_nar .boolean 0)) (fun (u3 : qM) => q_jn (fun  (u4 : qM) => some ((), u4)) (fun j1 => if 48 ≤ (u3.1 9 o1 5) then q_bd (f_X2_fromOldest o1 1 u3) (fun (x3 : Int32) (u5 : qM) => q_lt (q_si u5 9 o1 4 x3) (fun (u6 : qM) => j1 u6)) else q_lt (q_si u3 9 o1 5 ((u3.1 9 o1 5) + 1)) (fun (u7 : qM) => j1 u7)))))))
set_option maxRecDepth 100000 in
set_option maxHeartbeats 4000000 in
theorem k_X2_read (l : Launch) (G : qG) (o1 : Nat) (x1 : Int32) (ho1 : o1 < 8) (u0 : qM) : qCt l G m_X2_read q_cU [.ref (q_ad G 9 o1), .int x1] u0 (f_X2_read o1 x1 u0) := by
  refine q_entry pk_X2_read (Nat.le_of_ble_eq_true rfl) ?_
  show qAW l G m_X2_read (q_mq G q_cU) 0 [(0, .ref (q_ad G 9 o1)), (1, .int x1)] [] u0 (f_X2_read o1 x1 u0)
  unfold f_X2_read
  refine aw_aload_n (i := 0) dX2_read_0 1 rfl rfl 0 rfl ?_
  refine aw_aload_n (i := 0) dX2_read_1 2 rfl rfl 0 rfl ?_
  refine gf_X2_5 dX2_read_2 5 rfl wd_70 (ok_9 ho1) ?_
  refine aw_callV (M2 := m_X2_fromOldest) (cv := q_cI) dX2_read_5 8 rfl (k_X2_fromOldest l G o1 (u0.1 9 o1 5) ho1 u0) wd_71 wv_X2_fromOldest pk_X2_fromOldest rfl rfl ⟨by decide, by decide⟩ ⟨Nat.zero_le _, Nat.zero_le _⟩ at_9 (ok_9 ho1) rfl rfl rfl (Nat.le_of_ble_eq_true rfl) (fun x2 u1 => ?_)
  show qAW l G m_X2_read (q_mq G q_cU) 8 [(0, .ref (q_ad G 9 o1)), (1, .int x1)] [.int x2] u1 _
  refine aw_istore_n dX2_read_8 9 rfl rfl [(2, .int x2), (0, .ref (q_ad G 9 o1)), (1, .int x1)] (by decide) rfl ?_
  refine aw_aload_n (i := 0) dX2_read_9 10 rfl rfl 1 rfl ?_
  refine gf_X2_0 dX2_read_10 13 rfl wd_72 (ok_9 ho1) ?_
  refine aw_iload_n (i := 2) dX2_read_13 14 rfl rfl 0 rfl ?_
  refine aw_iload_n (i := 1) dX2_read_14 15 rfl rfl 2 rfl ?_
  refine aw_iast dX2_read_15 16 rfl at_52 (al_52 _) (ok_52 ho1) (fun h1 => ?_)
  refine aw_ltm (fun u2 => ?_)
  refine aw_aload_n (i := 0) dX2_read_16 17 rfl rfl 1 rfl ?_
  refine gf_X2_1 dX2_read_17 20 rfl wd_73 (ok_9 ho1) ?_
  refine aw_iload_n (i := 2) dX2_read_20 21 rfl rfl 0 rfl ?_
  refine aw_iconst (x := 0) dX2_read_21 22 rfl rfl ?_
  refine aw_zast dX2_read_22 23 rfl at_53 (al_53 _) (ok_53 ho1) (fun h2 => ?_)
  refine aw_ltm (fun u3 => ?_)
  refine aw_aload_n (i := 0) dX2_read_23 24 rfl rfl 1 rfl ?_
  refine gf_X2_5 dX2_read_24 27 rfl wd_70 (ok_9 ho1) ?_
  refine aw_bipush (x := 48) dX2_read_27 29 rfl rfl ?_
  refine aw_jn (fun k => ∀  (u4 : qM), qAW l G m_X2_read (q_mq G q_cU) 54 [] [] u4 (k u4)) ?_ ?_
  · intro u4
    exact aw_vret dX2_read_54 rfl
  · intro j1 hj1
    refine aw_icmp_ge dX2_read_29 32 rfl 45 rfl (fun h3 => ?_) (fun h3 => ?_)
    · refine aw_aload_n (i := 0) dX2_read_45 46 rfl rfl 1 rfl ?_
      refine aw_aload_n (i := 0) dX2_read_46 47 rfl rfl 1 rfl ?_
      refine aw_iconst (x := 1) dX2_read_47 48 rfl rfl ?_
      refine aw_callV (M2 := m_X2_fromOldest) (cv := q_cI) dX2_read_48 51 rfl (k_X2_fromOldest l G o1 1 ho1 u3) wd_71 wv_X2_fromOldest pk_X2_fromOldest rfl rfl ⟨by decide, by decide⟩ ⟨Nat.zero_le _, Nat.zero_le _⟩ at_9 (ok_9 ho1) rfl rfl rfl (Nat.le_of_ble_eq_true rfl) (fun x3 u5 => ?_)
      show qAW l G m_X2_read (q_mq G q_cU) 51 [(2, .int x2), (0, .ref (q_ad G 9 o1)), (1, .int x1)] [.int x3, .ref (q_ad G 9 o1)] u5 _
      refine pf_X2_4 dX2_read_51 54 rfl wd_69 (ok_9 ho1) ?_
      refine aw_ltm (fun u6 => ?_)
      exact aw_conv [] rfl (hj1 u6)
    · refine aw_aload_n (i := 0) dX2_read_32 33 rfl rfl 1 rfl ?_
      refine aw_dup dX2_read_33 34 rfl rfl ?_
      refine gf_X2_5 dX2_read_34 37 rfl wd_70 (ok_9 ho1) ?_
      refine aw_iconst (x := 1) dX2_read_37 38 rfl rfl ?_
      refine aw_iadd dX2_read_38 39 rfl ?_
      refine pf_X2_5 dX2_read_39 42 rfl wd_70 (ok_9 ho1) ?_
      refine aw_ltm (fun u7 => ?_)
      refine aw_goto dX2_read_42 54 rfl ?_
      exact aw_conv [] rfl (hj1 u7)
theorem dX2_placeOf_0 : decode cX2_placeOf 0 = .ok (.aload_n 0, 1) := by decide +kernel
theorem dX2_placeOf_1 : decode cX2_placeOf 1 = .ok (.getfield 19, 3) := by decide +kernel
theorem dX2_placeOf_4 : decode cX2_placeOf 4 = .ok (.bipush (-9), 2) := by decide +kernel
theorem dX2_placeOf_6 : decode cX2_placeOf 6 = .ok (.if_icmp .eq 15, 3) := by decide +kernel
theorem dX2_placeOf_9 : decode cX2_placeOf 9 = .ok (.iload_n 1, 1) := by decide +kernel
theorem dX2_placeOf_10 : decode cX2_placeOf 10 = .ok (.ifCond .lt 11, 3) := by decide +kernel
theorem dX2_placeOf_13 : decode cX2_placeOf 13 = .ok (.iload_n 1, 1) := by decide +kernel
theorem dX2_placeOf_14 : decode cX2_placeOf 14 = .ok (.aload_n 0, 1) := by decide +kernel
theorem dX2_placeOf_15 : decode cX2_placeOf 15 = .ok (.getfield 29, 3) := by decide +kernel
theorem dX2_placeOf_18 : decode cX2_placeOf 18 = .ok (.if_icmp .lt 5, 3) := by decide +kernel
theorem dX2_placeOf_21 : decode cX2_placeOf 21 = .ok (.iconst (-1), 1) := by decide +kernel
theorem dX2_placeOf_22 : decode cX2_placeOf 22 = .ok (.ireturn, 1) := by decide +kernel
theorem dX2_placeOf_23 : decode cX2_placeOf 23 = .ok (.aload_n 0, 1) := by decide +kernel
theorem dX2_placeOf_24 : decode cX2_placeOf 24 = .ok (.aload_n 0, 1) := by decide +kernel
theorem dX2_placeOf_25 : decode cX2_placeOf 25 = .ok (.getfield 29, 3) := by decide +kernel
theorem dX2_placeOf_28 : decode cX2_placeOf 28 = .ok (.iconst 1, 1) := by decide +kernel
theorem dX2_placeOf_29 : decode cX2_placeOf 29 = .ok (.isub, 1) := by decide +kernel
theorem dX2_placeOf_30 : decode cX2_placeOf 30 = .ok (.iload_n 1, 1) := by decide +kernel
theorem dX2_placeOf_31 : decode cX2_placeOf 31 = .ok (.isub, 1) := by decide +kernel
theorem dX2_placeOf_32 : decode cX2_placeOf 32 = .ok (.invokevirtual 32, 3) := by decide +kernel
theorem dX2_placeOf_35 : decode cX2_placeOf 35 = .ok (.istore_n 2, 1) := by decide +kernel
theorem dX2_placeOf_36 : decode cX2_placeOf 36 = .ok (.aload_n 0, 1) := by decide +kernel
theorem dX2_placeOf_37 : decode cX2_placeOf 37 = .ok (.getfield 15, 3) := by decide +kernel
theorem dX2_placeOf_40 : decode cX2_placeOf 40 = .ok (.iload_n 2, 1) := by decide +kernel
theorem dX2_placeOf_41 : decode cX2_placeOf 41 = .ok (.baload, 1) := by decide +kernel
theorem dX2_placeOf_42 : decode cX2_placeOf 42 = .ok (.ifCond .eq 7, 3) := by decide +kernel
theorem dX2_placeOf_45 : decode cX2_placeOf 45 = .ok (.iconst (-1), 1) := by decide +kernel
theorem dX2_placeOf_46 : decode cX2_placeOf 46 = .ok (.goto 4, 3) := by decide +kernel
theorem dX2_placeOf_49 : decode cX2_placeOf 49 = .ok (.iload_n 2, 1) := by decide +kernel
theorem dX2_placeOf_50 : decode cX2_placeOf 50 = .ok (.ireturn, 1) := by decide +kernel
noncomputable def f_X2_placeOf (o1 : Nat) (x1 : Int32) (u0 : qM) : Option (Int32 × qM) :=
  q_jn (fun  (u1 : qM) => some ((-1), u1)) (fun j1 => if (u0.1 9 o1 2) = (-9) then j1 u0 else if x1 < 0 then j1 u0 else if x1 < (u0.1 9 o1 5) then q_bd (f_X2_fromOldest o1 (((u0.1 9 o1 5) - 1) - x1) u0) (fun (x2 : Int32) (u2 : qM) => q_ck (q_in x2 48) (q_jn (fun (x3 : Int32) (u3 : qM) => some (x3, u3)) (fun j2 => if (u2.1 53 o1 (Int32.toNatClampNeg x2)) = 0 then j2 x2 u2 else j2 (-1) u2))) else j1 u0)
set_option maxRecDepth 100000 in
set_option maxHeartbeats 4000000 in
theorem k_X2_placeOf (l : Launch) (G : qG) (o1 : Nat) (x1 : Int32) (ho1 : o1 < 8) (u0 : qM) : qCt l G m_X2_placeOf q_cI [.ref (q_ad G 9 o1), .int x1] u0 (f_X2_placeOf o1 x1 u0) := by
  refine q_entry pk_X2_placeOf (Nat.le_of_ble_eq_true rfl) ?_
  show qAW l G m_X2_placeOf (q_mq G q_cI) 0 [(0, .ref (q_ad G 9 o1)), (1, .int x1)] [] u0 (f_X2_placeOf o1 x1 u0)
  unfold f_X2_placeOf
  refine aw_aload_n (i := 0) dX2_placeOf_0 1 rfl rfl 0 rfl ?_
  refine gf_X2_2 dX2_placeOf_1 4 rfl wd_67 (ok_9 ho1) ?_
  refine aw_bipush (x := (-9)) dX2_placeOf_4 6 rfl rfl ?_
  refine aw_jn (fun k => ∀  (u1 : qM), qAW l G m_X2_placeOf (q_mq G q_cI) 21 [] [] u1 (k u1)) ?_ ?_
  · intro u1
    refine aw_iconst (x := (-1)) dX2_placeOf_21 22 rfl rfl ?_
    exact aw_iret dX2_placeOf_22 rfl
  · intro j1 hj1
    refine aw_icmp_eq dX2_placeOf_6 9 rfl 21 rfl (fun h1 => ?_) (fun h1 => ?_)
    · exact aw_conv [] rfl (hj1 u0)
    · refine aw_iload_n (i := 1) dX2_placeOf_9 10 rfl rfl 1 rfl ?_
      refine aw_if_lt dX2_placeOf_10 13 rfl 21 rfl (fun h2 => ?_) (fun h2 => ?_)
      · exact aw_conv [] rfl (hj1 u0)
      · refine aw_iload_n (i := 1) dX2_placeOf_13 14 rfl rfl 1 rfl ?_
        refine aw_aload_n (i := 0) dX2_placeOf_14 15 rfl rfl 0 rfl ?_
        refine gf_X2_5 dX2_placeOf_15 18 rfl wd_70 (ok_9 ho1) ?_
        refine aw_icmp_lt dX2_placeOf_18 21 rfl 23 rfl (fun h3 => ?_) (fun h3 => ?_)
        · refine aw_aload_n (i := 0) dX2_placeOf_23 24 rfl rfl 0 rfl ?_
          refine aw_aload_n (i := 0) dX2_placeOf_24 25 rfl rfl 0 rfl ?_
          refine gf_X2_5 dX2_placeOf_25 28 rfl wd_70 (ok_9 ho1) ?_
          refine aw_iconst (x := 1) dX2_placeOf_28 29 rfl rfl ?_
          refine aw_isub dX2_placeOf_29 30 rfl ?_
          refine aw_iload_n (i := 1) dX2_placeOf_30 31 rfl rfl 1 rfl ?_
          refine aw_isub dX2_placeOf_31 32 rfl ?_
          refine aw_callV (M2 := m_X2_fromOldest) (cv := q_cI) dX2_placeOf_32 35 rfl (k_X2_fromOldest l G o1 (((u0.1 9 o1 5) - 1) - x1) ho1 u0) wd_71 wv_X2_fromOldest pk_X2_fromOldest rfl rfl ⟨by decide, by decide⟩ ⟨Nat.zero_le _, Nat.zero_le _⟩ at_9 (ok_9 ho1) rfl rfl rfl (Nat.le_of_ble_eq_true rfl) (fun x2 u2 => ?_)
          show qAW l G m_X2_placeOf (q_mq G q_cI) 35 [(0, .ref (q_ad G 9 o1)), (1, .int x1)] [.int x2] u2 _
          refine aw_istore_n dX2_placeOf_35 36 rfl rfl [(2, .int x2), (0, .ref (q_ad G 9 o1)), (1, .int x1)] (by decide) rfl ?_
          refine aw_aload_n (i := 0) dX2_placeOf_36 37 rfl rfl 1 rfl ?_
          refine gf_X2_1 dX2_placeOf_37 40 rfl wd_73 (ok_9 ho1) ?_
          refine aw_iload_n (i := 2) dX2_placeOf_40 41 rfl rfl 0 rfl ?_
          refine aw_zald dX2_placeOf_41 42 rfl at_53 (al_53 _) (ok_53 ho1) (fun h4 => ?_)
          refine aw_jn (fun k => ∀ (x3 : Int32) (u3 : qM), qAW l G m_X2_placeOf (q_mq G q_cI) 50 [] [.int x3] u3 (k x3 u3)) ?_ ?_
          · intro x3 u3
            exact aw_iret dX2_placeOf_50 rfl
          · intro j2 hj2
            refine aw_if_eq dX2_placeOf_42 45 rfl 49 rfl (fun h5 => ?_) (fun h5 => ?_)
            · refine aw_iload_n (i := 2) dX2_placeOf_49 50 rfl rfl 0 rfl ?_
              exact aw_conv [] rfl (hj2 x2 u2)
            · refine aw_iconst (x := (-1)) dX2_placeOf_45 46 rfl rfl ?_
              refine aw_goto dX2_placeOf_46 50 rfl ?_
              exact aw_conv [] rfl (hj2 (-1) u2)
        · exact aw_conv [] rfl (hj1 u0)
theorem dX2_kept_0 : decode cX2_kept 0 = .ok (.iconst 0, 1) := by decide +kernel
theorem dX2_kept_1 : decode cX2_kept 1 = .ok (.istore_n 1, 1) := by decide +kernel
theorem dX2_kept_2 : decode cX2_kept 2 = .ok (.iconst 0, 1) := by decide +kernel
theorem dX2_kept_3 : decode cX2_kept 3 = .ok (.istore_n 2, 1) := by decide +kernel
theorem dX2_kept_4 : decode cX2_kept 4 = .ok (.iload_n 2, 1) := by decide +kernel
theorem dX2_kept_5 : decode cX2_kept 5 = .ok (.aload_n 0, 1) := by decide +kernel
theorem dX2_kept_6 : decode cX2_kept 6 = .ok (.getfield 29, 3) := by decide +kernel
theorem dX2_kept_9 : decode cX2_kept 9 = .ok (.if_icmp .ge 30, 3) := by decide +kernel
theorem dX2_kept_12 : decode cX2_kept 12 = .ok (.iload_n 1, 1) := by decide +kernel
theorem dX2_kept_13 : decode cX2_kept 13 = .ok (.aload_n 0, 1) := by decide +kernel
theorem dX2_kept_14 : decode cX2_kept 14 = .ok (.getfield 15, 3) := by decide +kernel
theorem dX2_kept_17 : decode cX2_kept 17 = .ok (.aload_n 0, 1) := by decide +kernel
theorem dX2_kept_18 : decode cX2_kept 18 = .ok (.iload_n 2, 1) := by decide +kernel
theorem dX2_kept_19 : decode cX2_kept 19 = .ok (.invokevirtual 32, 3) := by decide +kernel
theorem dX2_kept_22 : decode cX2_kept 22 = .ok (.baload, 1) := by decide +kernel
theorem dX2_kept_23 : decode cX2_kept 23 = .ok (.ifCond .eq 7, 3) := by decide +kernel
theorem dX2_kept_26 : decode cX2_kept 26 = .ok (.iconst 0, 1) := by decide +kernel
theorem dX2_kept_27 : decode cX2_kept 27 = .ok (.goto 4, 3) := by decide +kernel
theorem dX2_kept_30 : decode cX2_kept 30 = .ok (.iconst 1, 1) := by decide +kernel
theorem dX2_kept_31 : decode cX2_kept 31 = .ok (.iadd, 1) := by decide +kernel
theorem dX2_kept_32 : decode cX2_kept 32 = .ok (.istore_n 1, 1) := by decide +kernel
theorem dX2_kept_33 : decode cX2_kept 33 = .ok (.iinc 2 1, 3) := by decide +kernel
theorem dX2_kept_36 : decode cX2_kept 36 = .ok (.goto (-32), 3) := by decide +kernel
theorem dX2_kept_39 : decode cX2_kept 39 = .ok (.iload_n 1, 1) := by decide +kernel
theorem dX2_kept_40 : decode cX2_kept 40 = .ok (.ireturn, 1) := by decide +kernel
noncomputable def L_X2_kept_4 (o1 : Nat) : Nat → Int32 → Int32 → qM → (Int32 → qM → Option (Int32 × qM)) → Option (Int32 × qM)
  | 0, _, _, _, _ => none
  | n + 1, x1, x2, u1, e1 => if (u1.1 9 o1 5) ≤ x2 then e1 x1 u1 else q_bd (f_X2_fromOldest o1 x2 u1) (fun (x3 : Int32) (u2 : qM) => q_ck (q_in x3 48) (q_jn (fun (x4 : Int32) (u3 : qM) => q_lt (x1 + x4) (fun (x5 : Int32) => q_lt (x2 + 1) (fun (x6 : Int32) => L_X2_kept_4 o1 n x5 x6 u3 e1))) (fun j1 => if (u2.1 53 o1 (Int32.toNatClampNeg x3)) = 0 then j1 1 u2 else j1 0 u2)))
noncomputable def f_X2_kept (o1 : Nat) (u0 : qM) : Option (Int32 × qM) :=
  L_X2_kept_4 o1 q_fu 0 0 u0 (fun x7 u4 => some (x7, u4))
set_option maxRecDepth 100000 in
set_option maxHeartbeats 4000000 in
theorem TL_X2_kept_4 (l : Launch) (G : qG) (o1 : Nat) (q1 : o1 < 8) (e1 : Int32 → qM → Option (Int32 × qM)) (he1 : ∀ (y1 : Int32) (v : qM), qAW l G m_X2_kept (q_mq G q_cI) 39 [(1, .int y1)] [] v (e1 y1 v)) : ∀ (n : Nat) (x1 : Int32) (x2 : Int32) (u1 : qM), qAW l G m_X2_kept (q_mq G q_cI) 4 [(0, .ref (q_ad G 9 o1)), (1, .int x1), (2, .int x2)] [] u1 (L_X2_kept_4 o1 n x1 x2 u1 e1) := by
  intro n
  induction n with
  | zero => intros; exact aw_none
  | succ n ih =>
    intro x1 x2 u1
    unfold L_X2_kept_4
    refine aw_iload_n (i := 2) dX2_kept_4 5 rfl rfl 2 rfl ?_
    refine aw_aload_n (i := 0) dX2_kept_5 6 rfl rfl 0 rfl ?_
    refine gf_X2_5 dX2_kept_6 9 rfl wd_70 (ok_9 q1) ?_
    refine aw_icmp_ge dX2_kept_9 12 rfl 39 rfl (fun h1 => ?_) (fun h1 => ?_)
    · exact aw_conv [1] rfl (he1 x1 u1)
    · refine aw_iload_n (i := 1) dX2_kept_12 13 rfl rfl 1 rfl ?_
      refine aw_aload_n (i := 0) dX2_kept_13 14 rfl rfl 0 rfl ?_
      refine gf_X2_1 dX2_kept_14 17 rfl wd_73 (ok_9 q1) ?_
      refine aw_aload_n (i := 0) dX2_kept_17 18 rfl rfl 0 rfl ?_
      refine aw_iload_n (i := 2) dX2_kept_18 19 rfl rfl 2 rfl ?_
      refine aw_callV (M2 := m_X2_fromOldest) (cv := q_cI) dX2_kept_19 22 rfl (k_X2_fromOldest l G o1 x2 q1 u1) wd_71 wv_X2_fromOldest pk_X2_fromOldest rfl rfl ⟨by decide, by decide⟩ ⟨Nat.zero_le _, Nat.zero_le _⟩ at_9 (ok_9 q1) rfl rfl rfl (Nat.le_of_ble_eq_true rfl) (fun x3 u2 => ?_)
      show qAW l G m_X2_kept (q_mq G q_cI) 22 [(0, .ref (q_ad G 9 o1)), (1, .int x1), (2, .int x2)] [.int x3, .ref (q_ad G 53 o1), .int x1] u2 _
      refine aw_zald dX2_kept_22 23 rfl at_53 (al_53 _) (ok_53 q1) (fun h2 => ?_)
      refine aw_jn (fun k => ∀ (x4 : Int32) (u3 : qM), qAW l G m_X2_kept (q_mq G q_cI) 31 [(0, .ref (q_ad G 9 o1)), (2, .int x2)] [.int x4, .int x1] u3 (k x4 u3)) ?_ ?_
      · intro x4 u3
        refine aw_iadd dX2_kept_31 32 rfl ?_
        refine aw_lti (fun x5 => ?_)
        refine aw_istore_n dX2_kept_32 33 rfl rfl [(1, .int x5), (0, .ref (q_ad G 9 o1)), (2, .int x2)] (by decide) rfl ?_
        refine aw_iincx (i := 2) dX2_kept_33 36 rfl 2 rfl 1 rfl (fun x6 => [(2, .int x6), (1, .int x5), (0, .ref (q_ad G 9 o1))]) (by decide) (fun _ => rfl) (fun x6 => ?_)
        refine aw_goto dX2_kept_36 4 rfl ?_
        exact aw_conv [2, 1, 0] rfl (ih x5 x6 u3)
      · intro j1 hj1
        refine aw_if_eq dX2_kept_23 26 rfl 30 rfl (fun h3 => ?_) (fun h3 => ?_)
        · refine aw_iconst (x := 1) dX2_kept_30 31 rfl rfl ?_
          exact aw_conv [0, 2] rfl (hj1 1 u2)
        · refine aw_iconst (x := 0) dX2_kept_26 27 rfl rfl ?_
          refine aw_goto dX2_kept_27 31 rfl ?_
          exact aw_conv [0, 2] rfl (hj1 0 u2)
set_option maxRecDepth 100000 in
set_option maxHeartbeats 4000000 in
theorem k_X2_kept (l : Launch) (G : qG) (o1 : Nat) (ho1 : o1 < 8) (u0 : qM) : qCt l G m_X2_kept q_cI [.ref (q_ad G 9 o1)] u0 (f_X2_kept o1 u0) := by
  refine q_entry pk_X2_kept (Nat.le_of_ble_eq_true rfl) ?_
  show qAW l G m_X2_kept (q_mq G q_cI) 0 [(0, .ref (q_ad G 9 o1))] [] u0 (f_X2_kept o1 u0)
  unfold f_X2_kept
  refine aw_iconst (x := 0) dX2_kept_0 1 rfl rfl ?_
  refine aw_istore_n dX2_kept_1 2 rfl rfl [(1, .int 0), (0, .ref (q_ad G 9 o1))] (by decide) rfl ?_
  refine aw_iconst (x := 0) dX2_kept_2 3 rfl rfl ?_
  refine aw_istore_n dX2_kept_3 4 rfl rfl [(2, .int 0), (1, .int 0), (0, .ref (q_ad G 9 o1))] (by decide) rfl ?_
  refine aw_conv [2, 1, 0] rfl (TL_X2_kept_4 l G o1 ho1 _ ?_ _ 0 0 u0)
  · intro x7 u4
    refine aw_iload_n (i := 1) dX2_kept_39 40 rfl rfl 0 rfl ?_
    exact aw_iret dX2_kept_40 rfl
theorem dX2_digested_0 : decode cX2_digested 0 = .ok (.aload_n 0, 1) := by decide +kernel
theorem dX2_digested_1 : decode cX2_digested 1 = .ok (.getfield 19, 3) := by decide +kernel
theorem dX2_digested_4 : decode cX2_digested 4 = .ok (.bipush (-9), 2) := by decide +kernel
theorem dX2_digested_6 : decode cX2_digested 6 = .ok (.if_icmp .ne 11, 3) := by decide +kernel
theorem dX2_digested_9 : decode cX2_digested 9 = .ok (.ldc2_w 36, 3) := by decide +kernel
theorem dX2_digested_12 : decode cX2_digested 12 = .ok (.lload_n 1, 1) := by decide +kernel
theorem dX2_digested_13 : decode cX2_digested 13 = .ok (.lmul, 1) := by decide +kernel
theorem dX2_digested_14 : decode cX2_digested 14 = .ok (.lconst 1, 1) := by decide +kernel
theorem dX2_digested_15 : decode cX2_digested 15 = .ok (.lsub, 1) := by decide +kernel
theorem dX2_digested_16 : decode cX2_digested 16 = .ok (.lreturn, 1) := by decide +kernel
theorem dX2_digested_17 : decode cX2_digested 17 = .ok (.ldc2_w 36, 3) := by decide +kernel
theorem dX2_digested_20 : decode cX2_digested 20 = .ok (.ldc2_w 36, 3) := by decide +kernel
theorem dX2_digested_23 : decode cX2_digested 23 = .ok (.ldc2_w 36, 3) := by decide +kernel
theorem dX2_digested_26 : decode cX2_digested 26 = .ok (.lload_n 1, 1) := by decide +kernel
theorem dX2_digested_27 : decode cX2_digested 27 = .ok (.lmul, 1) := by decide +kernel
theorem dX2_digested_28 : decode cX2_digested 28 = .ok (.aload_n 0, 1) := by decide +kernel
theorem dX2_digested_29 : decode cX2_digested 29 = .ok (.getfield 19, 3) := by decide +kernel
theorem dX2_digested_32 : decode cX2_digested 32 = .ok (.i2l, 1) := by decide +kernel
theorem dX2_digested_33 : decode cX2_digested 33 = .ok (.ladd, 1) := by decide +kernel
theorem dX2_digested_34 : decode cX2_digested 34 = .ok (.lmul, 1) := by decide +kernel
theorem dX2_digested_35 : decode cX2_digested 35 = .ok (.aload_n 0, 1) := by decide +kernel
theorem dX2_digested_36 : decode cX2_digested 36 = .ok (.getfield 23, 3) := by decide +kernel
theorem dX2_digested_39 : decode cX2_digested 39 = .ok (.i2l, 1) := by decide +kernel
theorem dX2_digested_40 : decode cX2_digested 40 = .ok (.ladd, 1) := by decide +kernel
theorem dX2_digested_41 : decode cX2_digested 41 = .ok (.lmul, 1) := by decide +kernel
theorem dX2_digested_42 : decode cX2_digested 42 = .ok (.aload_n 0, 1) := by decide +kernel
theorem dX2_digested_43 : decode cX2_digested 43 = .ok (.getfield 29, 3) := by decide +kernel
theorem dX2_digested_46 : decode cX2_digested 46 = .ok (.i2l, 1) := by decide +kernel
theorem dX2_digested_47 : decode cX2_digested 47 = .ok (.ladd, 1) := by decide +kernel
theorem dX2_digested_48 : decode cX2_digested 48 = .ok (.lstore_n 3, 1) := by decide +kernel
theorem dX2_digested_49 : decode cX2_digested 49 = .ok (.iconst 0, 1) := by decide +kernel
theorem dX2_digested_50 : decode cX2_digested 50 = .ok (.istore 5, 2) := by decide +kernel
theorem dX2_digested_52 : decode cX2_digested 52 = .ok (.iload 5, 2) := by decide +kernel
theorem dX2_digested_54 : decode cX2_digested 54 = .ok (.aload_n 0, 1) := by decide +kernel
theorem dX2_digested_55 : decode cX2_digested 55 = .ok (.getfield 29, 3) := by decide +kernel
theorem dX2_digested_58 : decode cX2_digested 58 = .ok (.if_icmp .ge 47, 3) := by decide +kernel
theorem dX2_digested_61 : decode cX2_digested 61 = .ok (.aload_n 0, 1) := by decide +kernel
theorem dX2_digested_62 : decode cX2_digested 62 = .ok (.iload 5, 2) := by decide +kernel
theorem dX2_digested_64 : decode cX2_digested 64 = .ok (.invokevirtual 32, 3) := by decide +kernel
theorem dX2_digested_67 : decode cX2_digested 67 = .ok (.istore 6, 2) := by decide +kernel
theorem dX2_digested_69 : decode cX2_digested 69 = .ok (.ldc2_w 36, 3) := by decide +kernel
theorem dX2_digested_72 : decode cX2_digested 72 = .ok (.lload_n 3, 1) := by decide +kernel
theorem dX2_digested_73 : decode cX2_digested 73 = .ok (.lmul, 1) := by decide +kernel
theorem dX2_digested_74 : decode cX2_digested 74 = .ok (.aload_n 0, 1) := by decide +kernel
theorem dX2_digested_75 : decode cX2_digested 75 = .ok (.getfield 15, 3) := by decide +kernel
theorem dX2_digested_78 : decode cX2_digested 78 = .ok (.iload 6, 2) := by decide +kernel
theorem dX2_digested_80 : decode cX2_digested 80 = .ok (.baload, 1) := by decide +kernel
theorem dX2_digested_81 : decode cX2_digested 81 = .ok (.ifCond .eq 8, 3) := by decide +kernel
theorem dX2_digested_84 : decode cX2_digested 84 = .ok (.bipush (-9), 2) := by decide +kernel
theorem dX2_digested_86 : decode cX2_digested 86 = .ok (.goto 10, 3) := by decide +kernel
theorem dX2_digested_89 : decode cX2_digested 89 = .ok (.aload_n 0, 1) := by decide +kernel
theorem dX2_digested_90 : decode cX2_digested 90 = .ok (.getfield 9, 3) := by decide +kernel
theorem dX2_digested_93 : decode cX2_digested 93 = .ok (.iload 6, 2) := by decide +kernel
theorem dX2_digested_95 : decode cX2_digested 95 = .ok (.iaload, 1) := by decide +kernel
theorem dX2_digested_96 : decode cX2_digested 96 = .ok (.i2l, 1) := by decide +kernel
theorem dX2_digested_97 : decode cX2_digested 97 = .ok (.ladd, 1) := by decide +kernel
theorem dX2_digested_98 : decode cX2_digested 98 = .ok (.lstore_n 3, 1) := by decide +kernel
theorem dX2_digested_99 : decode cX2_digested 99 = .ok (.iinc 5 1, 3) := by decide +kernel
theorem dX2_digested_102 : decode cX2_digested 102 = .ok (.goto (-50), 3) := by decide +kernel
theorem dX2_digested_105 : decode cX2_digested 105 = .ok (.lload_n 3, 1) := by decide +kernel
theorem dX2_digested_106 : decode cX2_digested 106 = .ok (.lreturn, 1) := by decide +kernel
noncomputable def L_X2_digested_52 (o1 : Nat) : Nat → Int64 → Int32 → qM → (Int64 → qM → Option (Int64 × qM)) → Option (Int64 × qM)
  | 0, _, _, _, _ => none
  | n + 1, w3, x1, u1, e1 => if (u1.1 9 o1 5) ≤ x1 then e1 w3 u1 else q_bd (f_X2_fromOldest o1 x1 u1) (fun (x2 : Int32) (u2 : qM) => q_ck (q_in x2 48) (q_jn (fun (x3 : Int32) (u3 : qM) => q_lt ((31 * w3) + (Int32.toInt64 x3)) (fun (w4 : Int64) => q_lt (x1 + 1) (fun (x4 : Int32) => L_X2_digested_52 o1 n w4 x4 u3 e1))) (fun j1 => if (u2.1 53 o1 (Int32.toNatClampNeg x2)) = 0 then q_ck (q_in x2 48) (j1 (u2.1 52 o1 (Int32.toNatClampNeg x2)) u2) else j1 (-9) u2)))
noncomputable def f_X2_digested (o1 : Nat) (w1 : Int64) (u0 : qM) : Option (Int64 × qM) :=
  if (u0.1 9 o1 2) = (-9) then some ((31 * w1) - 1, u0) else q_lt ((31 * ((31 * ((31 * w1) + (Int32.toInt64 (u0.1 9 o1 2)))) + (Int32.toInt64 (u0.1 9 o1 3)))) + (Int32.toInt64 (u0.1 9 o1 5))) (fun (w2 : Int64) => L_X2_digested_52 o1 q_fu w2 0 u0 (fun w5 u4 => some (w5, u4)))
set_option maxRecDepth 100000 in
set_option maxHeartbeats 4000000 in
theorem TL_X2_digested_52 (l : Launch) (G : qG) (o1 : Nat) (q1 : o1 < 8) (e1 : Int64 → qM → Option (Int64 × qM)) (he1 : ∀ (y1 : Int64) (v : qM), qAW l G m_X2_digested (q_mq G q_cL) 105 [(3, .long y1)] [] v (e1 y1 v)) : ∀ (n : Nat) (w3 : Int64) (x1 : Int32) (u1 : qM), qAW l G m_X2_digested (q_mq G q_cL) 52 [(0, .ref (q_ad G 9 o1)), (3, .long w3), (5, .int x1)] [] u1 (L_X2_digested_52 o1 n w3 x1 u1 e1) := by
  intro n
  induction n with
  | zero => intros; exact aw_none
  | succ n ih =>
    intro w3 x1 u1
    unfold L_X2_digested_52
    refine aw_iload (i := 5) dX2_digested_52 54 rfl 2 rfl ?_
    refine aw_aload_n (i := 0) dX2_digested_54 55 rfl rfl 0 rfl ?_
    refine gf_X2_5 dX2_digested_55 58 rfl wd_70 (ok_9 q1) ?_
    refine aw_icmp_ge dX2_digested_58 61 rfl 105 rfl (fun h2 => ?_) (fun h2 => ?_)
    · exact aw_conv [1] rfl (he1 w3 u1)
    · refine aw_aload_n (i := 0) dX2_digested_61 62 rfl rfl 0 rfl ?_
      refine aw_iload (i := 5) dX2_digested_62 64 rfl 2 rfl ?_
      refine aw_callV (M2 := m_X2_fromOldest) (cv := q_cI) dX2_digested_64 67 rfl (k_X2_fromOldest l G o1 x1 q1 u1) wd_71 wv_X2_fromOldest pk_X2_fromOldest rfl rfl ⟨by decide, by decide⟩ ⟨Nat.zero_le _, Nat.zero_le _⟩ at_9 (ok_9 q1) rfl rfl rfl (Nat.le_of_ble_eq_true rfl) (fun x2 u2 => ?_)
      show qAW l G m_X2_digested (q_mq G q_cL) 67 [(0, .ref (q_ad G 9 o1)), (3, .long w3), (5, .int x1)] [.int x2] u2 _
      refine aw_istore dX2_digested_67 69 rfl [(6, .int x2), (0, .ref (q_ad G 9 o1)), (3, .long w3), (5, .int x1)] (by decide) rfl ?_
      refine aw_ldc2 (x := 31) dX2_digested_69 72 rfl wd_74 ?_
      refine aw_lload_n (i := 3) dX2_digested_72 73 rfl rfl 2 rfl ?_
      refine aw_lmul dX2_digested_73 74 rfl ?_
      refine aw_aload_n (i := 0) dX2_digested_74 75 rfl rfl 1 rfl ?_
      refine gf_X2_1 dX2_digested_75 78 rfl wd_73 (ok_9 q1) ?_
      refine aw_iload (i := 6) dX2_digested_78 80 rfl 0 rfl ?_
      refine aw_zald dX2_digested_80 81 rfl at_53 (al_53 _) (ok_53 q1) (fun h3 => ?_)
      refine aw_jn (fun k => ∀ (x3 : Int32) (u3 : qM), qAW l G m_X2_digested (q_mq G q_cL) 96 [(0, .ref (q_ad G 9 o1)), (5, .int x1)] [.int x3, .long (31 * w3)] u3 (k x3 u3)) ?_ ?_
      · intro x3 u3
        refine aw_i2l dX2_digested_96 97 rfl ?_
        refine aw_ladd dX2_digested_97 98 rfl ?_
        refine aw_ltl (fun w4 => ?_)
        refine aw_lstore_n dX2_digested_98 99 rfl rfl [(3, .long w4), (0, .ref (q_ad G 9 o1)), (5, .int x1)] (by decide) rfl ?_
        refine aw_iincx (i := 5) dX2_digested_99 102 rfl 2 rfl 1 rfl (fun x4 => [(5, .int x4), (3, .long w4), (0, .ref (q_ad G 9 o1))]) (by decide) (fun _ => rfl) (fun x4 => ?_)
        refine aw_goto dX2_digested_102 52 rfl ?_
        exact aw_conv [2, 1, 0] rfl (ih w4 x4 u3)
      · intro j1 hj1
        refine aw_if_eq dX2_digested_81 84 rfl 89 rfl (fun h4 => ?_) (fun h4 => ?_)
        · refine aw_aload_n (i := 0) dX2_digested_89 90 rfl rfl 1 rfl ?_
          refine gf_X2_0 dX2_digested_90 93 rfl wd_72 (ok_9 q1) ?_
          refine aw_iload (i := 6) dX2_digested_93 95 rfl 0 rfl ?_
          refine aw_iald dX2_digested_95 96 rfl at_52 (al_52 _) (ok_52 q1) (fun h5 => ?_)
          exact aw_conv [1, 3] rfl (hj1 (u2.1 52 o1 (Int32.toNatClampNeg x2)) u2)
        · refine aw_bipush (x := (-9)) dX2_digested_84 86 rfl rfl ?_
          refine aw_goto dX2_digested_86 96 rfl ?_
          exact aw_conv [1, 3] rfl (hj1 (-9) u2)
set_option maxRecDepth 100000 in
set_option maxHeartbeats 4000000 in
theorem k_X2_digested (l : Launch) (G : qG) (o1 : Nat) (w1 : Int64) (ho1 : o1 < 8) (u0 : qM) : qCt l G m_X2_digested q_cL [.ref (q_ad G 9 o1), .long w1] u0 (f_X2_digested o1 w1 u0) := by
  refine q_entry pk_X2_digested (Nat.le_of_ble_eq_true rfl) ?_
  show qAW l G m_X2_digested (q_mq G q_cL) 0 [(0, .ref (q_ad G 9 o1)), (1, .long w1)] [] u0 (f_X2_digested o1 w1 u0)
  unfold f_X2_digested
  refine aw_aload_n (i := 0) dX2_digested_0 1 rfl rfl 0 rfl ?_
  refine gf_X2_2 dX2_digested_1 4 rfl wd_67 (ok_9 ho1) ?_
  refine aw_bipush (x := (-9)) dX2_digested_4 6 rfl rfl ?_
  refine aw_icmp_ne dX2_digested_6 9 rfl 17 rfl (fun h1 => ?_) (fun h1 => ?_)
  · refine aw_ldc2 (x := 31) dX2_digested_17 20 rfl wd_74 ?_
    refine aw_ldc2 (x := 31) dX2_digested_20 23 rfl wd_74 ?_
    refine aw_ldc2 (x := 31) dX2_digested_23 26 rfl wd_74 ?_
    refine aw_lload_n (i := 1) dX2_digested_26 27 rfl rfl 1 rfl ?_
    refine aw_lmul dX2_digested_27 28 rfl ?_
    refine aw_aload_n (i := 0) dX2_digested_28 29 rfl rfl 0 rfl ?_
    refine gf_X2_2 dX2_digested_29 32 rfl wd_67 (ok_9 ho1) ?_
    refine aw_i2l dX2_digested_32 33 rfl ?_
    refine aw_ladd dX2_digested_33 34 rfl ?_
    refine aw_lmul dX2_digested_34 35 rfl ?_
    refine aw_aload_n (i := 0) dX2_digested_35 36 rfl rfl 0 rfl ?_
    refine gf_X2_3 dX2_digested_36 39 rfl wd_68 (ok_9 ho1) ?_
    refine aw_i2l dX2_digested_39 40 rfl ?_
    refine aw_ladd dX2_digested_40 41 rfl ?_
    refine aw_lmul dX2_digested_41 42 rfl ?_
    refine aw_aload_n (i := 0) dX2_digested_42 43 rfl rfl 0 rfl ?_
    refine gf_X2_5 dX2_digested_43 46 rfl wd_70 (ok_9 ho1) ?_
    refine aw_i2l dX2_digested_46 47 rfl ?_
    refine aw_ladd dX2_digested_47 48 rfl ?_
    refine aw_ltl (fun w2 => ?_)
    refine aw_lstore_n dX2_digested_48 49 rfl rfl [(3, .long w2), (0, .ref (q_ad G 9 o1)), (1, .long w1)] (by decide) rfl ?_
    refine aw_iconst (x := 0) dX2_digested_49 50 rfl rfl ?_
    refine aw_istore dX2_digested_50 52 rfl [(5, .int 0), (3, .long w2), (0, .ref (q_ad G 9 o1)), (1, .long w1)] (by decide) rfl ?_
    refine aw_conv [2, 1, 0] rfl (TL_X2_digested_52 l G o1 ho1 _ ?_ _ w2 0 u0)
    · intro w5 u4
      refine aw_lload_n (i := 3) dX2_digested_105 106 rfl rfl 0 rfl ?_
      exact aw_lret dX2_digested_106 rfl
  · refine aw_ldc2 (x := 31) dX2_digested_9 12 rfl wd_74 ?_
    refine aw_lload_n (i := 1) dX2_digested_12 13 rfl rfl 1 rfl ?_
    refine aw_lmul dX2_digested_13 14 rfl ?_
    refine aw_lconst (x := 1) dX2_digested_14 15 rfl rfl ?_
    refine aw_lsub dX2_digested_15 16 rfl ?_
    exact aw_lret dX2_digested_16 rfl
theorem dX6_open_0 : decode cX6_open 0 = .ok (.aload_n 0, 1) := by decide +kernel
theorem dX6_open_1 : decode cX6_open 1 = .ok (.aload_n 1, 1) := by decide +kernel
theorem dX6_open_2 : decode cX6_open 2 = .ok (.putfield 9, 3) := by decide +kernel
theorem dX6_open_5 : decode cX6_open 5 = .ok (.aload_n 0, 1) := by decide +kernel
theorem dX6_open_6 : decode cX6_open 6 = .ok (.iload_n 2, 1) := by decide +kernel
theorem dX6_open_7 : decode cX6_open 7 = .ok (.putfield 19, 3) := by decide +kernel
theorem dX6_open_10 : decode cX6_open 10 = .ok (.aload_n 0, 1) := by decide +kernel
theorem dX6_open_11 : decode cX6_open 11 = .ok (.iconst 0, 1) := by decide +kernel
theorem dX6_open_12 : decode cX6_open 12 = .ok (.putfield 22, 3) := by decide +kernel
theorem dX6_open_15 : decode cX6_open 15 = .ok (.aload_n 0, 1) := by decide +kernel
theorem dX6_open_16 : decode cX6_open 16 = .ok (.iconst 0, 1) := by decide +kernel
theorem dX6_open_17 : decode cX6_open 17 = .ok (.putfield 25, 3) := by decide +kernel
theorem dX6_open_20 : decode cX6_open 20 = .ok (.aload_n 0, 1) := by decide +kernel
theorem dX6_open_21 : decode cX6_open 21 = .ok (.bipush (-9), 2) := by decide +kernel
theorem dX6_open_23 : decode cX6_open 23 = .ok (.putfield 15, 3) := by decide +kernel
theorem dX6_open_26 : decode cX6_open 26 = .ok (.return_, 1) := by decide +kernel
noncomputable def f_X6_open (k1 i1 : Nat) (x1 : Int32) (u0 : qM) : Option (Unit × qM) :=
  q_lt (q_sp u0 (k1, i1)) (fun (u1 : qM) => q_lt (q_si u1 7 0 1 x1) (fun (u2 : qM) => q_lt (q_si u2 7 0 2 0) (fun (u3 : qM) => q_lt (q_si u3 7 0 5 0) (fun (u4 : qM) => q_lt (q_si u4 7 0 6 (-9)) (fun (u5 : qM) => some ((), u5))))))
set_option maxRecDepth 100000 in
set_option maxHeartbeats 4000000 in
theorem k_X6_open (l : Launch) (G : qG) (k1 i1 : Nat) (x1 : Int32) (ak1 : q_at k1 = 0) (ok1 : q_ok k1 i1 = true) (u0 : qM) : qCt l G m_X6_open q_cU [.ref (q_ad G 7 0), .ref (q_ad G k1 i1), .int x1] u0 (f_X6_open k1 i1 x1 u0) := by
  refine q_entry pk_X6_open (Nat.le_of_ble_eq_true rfl) ?_
  show qAW l G m_X6_open (q_mq G q_cU) 0 [(0, .ref (q_ad G 7 0)), (1, .ref (q_ad G k1 i1)), (2, .int x1)] [] u0 (f_X6_open k1 i1 x1 u0)
  unfold f_X6_open
  refine aw_aload_n (i := 0) dX6_open_0 1 rfl rfl 0 rfl ?_
  refine aw_aload_n (i := 1) dX6_open_1 2 rfl rfl 1 rfl ?_
  refine pf_X6_0 dX6_open_2 5 rfl wd_75 (ok_7 (by decide)) ?_
  refine aw_ltm (fun u1 => ?_)
  refine aw_aload_n (i := 0) dX6_open_5 6 rfl rfl 0 rfl ?_
  refine aw_iload_n (i := 2) dX6_open_6 7 rfl rfl 2 rfl ?_
  refine pf_X6_1 dX6_open_7 10 rfl wd_76 (ok_7 (by decide)) ?_
  refine aw_ltm (fun u2 => ?_)
  refine aw_aload_n (i := 0) dX6_open_10 11 rfl rfl 0 rfl ?_
  refine aw_iconst (x := 0) dX6_open_11 12 rfl rfl ?_
  refine pf_X6_2 dX6_open_12 15 rfl wd_77 (ok_7 (by decide)) ?_
  refine aw_ltm (fun u3 => ?_)
  refine aw_aload_n (i := 0) dX6_open_15 16 rfl rfl 0 rfl ?_
  refine aw_iconst (x := 0) dX6_open_16 17 rfl rfl ?_
  refine pf_X6_5 dX6_open_17 20 rfl wd_78 (ok_7 (by decide)) ?_
  refine aw_ltm (fun u4 => ?_)
  refine aw_aload_n (i := 0) dX6_open_20 21 rfl rfl 0 rfl ?_
  refine aw_bipush (x := (-9)) dX6_open_21 23 rfl rfl ?_
  refine pf_X6_6 dX6_open_23 26 rfl wd_79 (ok_7 (by decide)) ?_
  refine aw_ltm (fun u5 => ?_)
  exact aw_vret dX6_open_26 rfl
theorem dX6_digitAhead_0 : decode cX6_digitAhead 0 = .ok (.aload_n 0, 1) := by decide +kernel
theorem dX6_digitAhead_1 : decode cX6_digitAhead 1 = .ok (.getfield 22, 3) := by decide +kernel
theorem dX6_digitAhead_4 : decode cX6_digitAhead 4 = .ok (.aload_n 0, 1) := by decide +kernel
theorem dX6_digitAhead_5 : decode cX6_digitAhead 5 = .ok (.getfield 19, 3) := by decide +kernel
theorem dX6_digitAhead_8 : decode cX6_digitAhead 8 = .ok (.if_icmp .ge 35, 3) := by decide +kernel
theorem dX6_digitAhead_11 : decode cX6_digitAhead 11 = .ok (.aload_n 0, 1) := by decide +kernel
theorem dX6_digitAhead_12 : decode cX6_digitAhead 12 = .ok (.getfield 9, 3) := by decide +kernel
theorem dX6_digitAhead_15 : decode cX6_digitAhead 15 = .ok (.aload_n 0, 1) := by decide +kernel
theorem dX6_digitAhead_16 : decode cX6_digitAhead 16 = .ok (.getfield 22, 3) := by decide +kernel
theorem dX6_digitAhead_19 : decode cX6_digitAhead 19 = .ok (.iaload, 1) := by decide +kernel
theorem dX6_digitAhead_20 : decode cX6_digitAhead 20 = .ok (.bipush 48, 2) := by decide +kernel
theorem dX6_digitAhead_22 : decode cX6_digitAhead 22 = .ok (.if_icmp .lt 21, 3) := by decide +kernel
theorem dX6_digitAhead_25 : decode cX6_digitAhead 25 = .ok (.aload_n 0, 1) := by decide +kernel
theorem dX6_digitAhead_26 : decode cX6_digitAhead 26 = .ok (.getfield 9, 3) := by decide +kernel
theorem dX6_digitAhead_29 : decode cX6_digitAhead 29 = .ok (.aload_n 0, 1) := by decide +kernel
theorem dX6_digitAhead_30 : decode cX6_digitAhead 30 = .ok (.getfield 22, 3) := by decide +kernel
theorem dX6_digitAhead_33 : decode cX6_digitAhead 33 = .ok (.iaload, 1) := by decide +kernel
theorem dX6_digitAhead_34 : decode cX6_digitAhead 34 = .ok (.bipush 57, 2) := by decide +kernel
theorem dX6_digitAhead_36 : decode cX6_digitAhead 36 = .ok (.if_icmp .gt 7, 3) := by decide +kernel
theorem dX6_digitAhead_39 : decode cX6_digitAhead 39 = .ok (.iconst 1, 1) := by decide +kernel
theorem dX6_digitAhead_40 : decode cX6_digitAhead 40 = .ok (.goto 4, 3) := by decide +kernel
theorem dX6_digitAhead_43 : decode cX6_digitAhead 43 = .ok (.iconst 0, 1) := by decide +kernel
theorem dX6_digitAhead_44 : decode cX6_digitAhead 44 = .ok (.ireturn, 1) := by decide +kernel
noncomputable def f_X6_digitAhead  (u0 : qM) : Option (Int32 × qM) :=
  q_jn (fun (x1 : Int32) (u1 : qM) => q_ck (q_b x1) (some (x1, u1))) (fun j1 => q_jn (fun  (u2 : qM) => j1 0 u2) (fun j2 => if (u0.1 7 0 1) ≤ (u0.1 7 0 2) then j2 u0 else q_ck (q_ia u0.2.2) (q_ck (q_in (u0.1 7 0 2) (q_al u0.2.2.1 u0.2.2.2)) (if (u0.1 (u0.2.2.1) (u0.2.2.2) (Int32.toNatClampNeg (u0.1 7 0 2))) < 48 then j2 u0 else q_ck (q_ia u0.2.2) (q_ck (q_in (u0.1 7 0 2) (q_al u0.2.2.1 u0.2.2.2)) (if 57 < (u0.1 (u0.2.2.1) (u0.2.2.2) (Int32.toNatClampNeg (u0.1 7 0 2))) then j2 u0 else j1 1 u0))))))
set_option maxRecDepth 100000 in
set_option maxHeartbeats 4000000 in
theorem k_X6_digitAhead (l : Launch) (G : qG)   (u0 : qM) : qCt l G m_X6_digitAhead q_cI [.ref (q_ad G 7 0)] u0 (f_X6_digitAhead  u0) := by
  refine q_entry pk_X6_digitAhead (Nat.le_of_ble_eq_true rfl) ?_
  show qAW l G m_X6_digitAhead (q_mq G q_cI) 0 [(0, .ref (q_ad G 7 0))] [] u0 (f_X6_digitAhead  u0)
  unfold f_X6_digitAhead
  refine aw_aload_n (i := 0) dX6_digitAhead_0 1 rfl rfl 0 rfl ?_
  refine gf_X6_2 dX6_digitAhead_1 4 rfl wd_77 (ok_7 (by decide)) ?_
  refine aw_aload_n (i := 0) dX6_digitAhead_4 5 rfl rfl 0 rfl ?_
  refine gf_X6_1 dX6_digitAhead_5 8 rfl wd_76 (ok_7 (by decide)) ?_
  refine aw_jn (fun k => ∀ (x1 : Int32) (u1 : qM), qAW l G m_X6_digitAhead (q_mq G q_cI) 44 [] [.int x1] u1 (k x1 u1)) ?_ ?_
  · intro x1 u1
    refine aw_ck (fun h2 => ?_)
    exact aw_zret dX6_digitAhead_44 rfl h2
  · intro j1 hj1
    refine aw_jn (fun k => ∀  (u2 : qM), qAW l G m_X6_digitAhead (q_mq G q_cI) 43 [] [] u2 (k u2)) ?_ ?_
    · intro u2
      refine aw_iconst (x := 0) dX6_digitAhead_43 44 rfl rfl ?_
      exact hj1 0 u2
    · intro j2 hj2
      refine aw_icmp_ge dX6_digitAhead_8 11 rfl 43 rfl (fun h1 => ?_) (fun h1 => ?_)
      · exact aw_conv [] rfl (hj2 u0)
      · refine aw_aload_n (i := 0) dX6_digitAhead_11 12 rfl rfl 0 rfl ?_
        refine gf_X6_0 dX6_digitAhead_12 15 rfl wd_75 (ok_7 (by decide)) ?_
        refine aw_ck (fun h3 => ?_)
        refine aw_aload_n (i := 0) dX6_digitAhead_15 16 rfl rfl 0 rfl ?_
        refine gf_X6_2 dX6_digitAhead_16 19 rfl wd_77 (ok_7 (by decide)) ?_
        refine aw_iald dX6_digitAhead_19 20 rfl (q_ia_at h3) rfl (q_ia_ok h3) (fun h4 => ?_)
        refine aw_bipush (x := 48) dX6_digitAhead_20 22 rfl rfl ?_
        refine aw_icmp_lt dX6_digitAhead_22 25 rfl 43 rfl (fun h5 => ?_) (fun h5 => ?_)
        · exact aw_conv [] rfl (hj2 u0)
        · refine aw_aload_n (i := 0) dX6_digitAhead_25 26 rfl rfl 0 rfl ?_
          refine gf_X6_0 dX6_digitAhead_26 29 rfl wd_75 (ok_7 (by decide)) ?_
          refine aw_ck (fun h6 => ?_)
          refine aw_aload_n (i := 0) dX6_digitAhead_29 30 rfl rfl 0 rfl ?_
          refine gf_X6_2 dX6_digitAhead_30 33 rfl wd_77 (ok_7 (by decide)) ?_
          refine aw_iald dX6_digitAhead_33 34 rfl (q_ia_at h6) rfl (q_ia_ok h6) (fun h7 => ?_)
          refine aw_bipush (x := 57) dX6_digitAhead_34 36 rfl rfl ?_
          refine aw_icmp_gt dX6_digitAhead_36 39 rfl 43 rfl (fun h8 => ?_) (fun h8 => ?_)
          · exact aw_conv [] rfl (hj2 u0)
          · refine aw_iconst (x := 1) dX6_digitAhead_39 40 rfl rfl ?_
            refine aw_goto dX6_digitAhead_40 44 rfl ?_
            exact aw_conv [] rfl (hj1 1 u0)
theorem dX6_failed_0 : decode cX6_failed 0 = .ok (.aload_n 0, 1) := by decide +kernel
theorem dX6_failed_1 : decode cX6_failed 1 = .ok (.iload_n 1, 1) := by decide +kernel
theorem dX6_failed_2 : decode cX6_failed 2 = .ok (.putfield 15, 3) := by decide +kernel
theorem dX6_failed_5 : decode cX6_failed 5 = .ok (.iconst 0, 1) := by decide +kernel
theorem dX6_failed_6 : decode cX6_failed 6 = .ok (.ireturn, 1) := by decide +kernel
noncomputable def f_X6_failed (x1 : Int32) (u0 : qM) : Option (Int32 × qM) :=
  q_lt (q_si u0 7 0 6 x1) (fun (u1 : qM) => some (0, u1))
set_option maxRecDepth 100000 in
set_option maxHeartbeats 4000000 in
theorem k_X6_failed (l : Launch) (G : qG) (x1 : Int32)  (u0 : qM) : qCt l G m_X6_failed q_cI [.ref (q_ad G 7 0), .int x1] u0 (f_X6_failed x1 u0) := by
  refine q_entry pk_X6_failed (Nat.le_of_ble_eq_true rfl) ?_
  show qAW l G m_X6_failed (q_mq G q_cI) 0 [(0, .ref (q_ad G 7 0)), (1, .int x1)] [] u0 (f_X6_failed x1 u0)
  unfold f_X6_failed
  refine aw_aload_n (i := 0) dX6_failed_0 1 rfl rfl 0 rfl ?_
  refine aw_iload_n (i := 1) dX6_failed_1 2 rfl rfl 1 rfl ?_
  refine pf_X6_6 dX6_failed_2 5 rfl wd_79 (ok_7 (by decide)) ?_
  refine aw_ltm (fun u1 => ?_)
  refine aw_iconst (x := 0) dX6_failed_5 6 rfl rfl ?_
  exact aw_zret dX6_failed_6 rfl (by decide)
theorem dX6_greatest_0 : decode cX6_greatest 0 = .ok (.aload_n 0, 1) := by decide +kernel
theorem dX6_greatest_1 : decode cX6_greatest 1 = .ok (.getfield 28, 3) := by decide +kernel
theorem dX6_greatest_4 : decode cX6_greatest 4 = .ok (.tableswitch 105 71 87 #[90, 105, 105, 105, 105, 105, 105, 105, 105, 98, 105, 101, 87, 94, 105, 84, 84], 84) := by decide +kernel
theorem dX6_greatest_88 : decode cX6_greatest 88 = .ok (.bipush 50, 2) := by decide +kernel
theorem dX6_greatest_90 : decode cX6_greatest 90 = .ok (.ireturn, 1) := by decide +kernel
theorem dX6_greatest_91 : decode cX6_greatest 91 = .ok (.bipush 24, 2) := by decide +kernel
theorem dX6_greatest_93 : decode cX6_greatest 93 = .ok (.ireturn, 1) := by decide +kernel
theorem dX6_greatest_94 : decode cX6_greatest 94 = .ok (.sipush 9999, 3) := by decide +kernel
theorem dX6_greatest_97 : decode cX6_greatest 97 = .ok (.ireturn, 1) := by decide +kernel
theorem dX6_greatest_98 : decode cX6_greatest 98 = .ok (.sipush 500, 3) := by decide +kernel
theorem dX6_greatest_101 : decode cX6_greatest 101 = .ok (.ireturn, 1) := by decide +kernel
theorem dX6_greatest_102 : decode cX6_greatest 102 = .ok (.bipush 8, 2) := by decide +kernel
theorem dX6_greatest_104 : decode cX6_greatest 104 = .ok (.ireturn, 1) := by decide +kernel
theorem dX6_greatest_105 : decode cX6_greatest 105 = .ok (.sipush 1000, 3) := by decide +kernel
theorem dX6_greatest_108 : decode cX6_greatest 108 = .ok (.ireturn, 1) := by decide +kernel
theorem dX6_greatest_109 : decode cX6_greatest 109 = .ok (.bipush (-9), 2) := by decide +kernel
theorem dX6_greatest_111 : decode cX6_greatest 111 = .ok (.ireturn, 1) := by decide +kernel
noncomputable def f_X6_greatest  (u0 : qM) : Option (Int32 × qM) :=
  q_lt (u0.1 7 0 3) (fun (x1 : Int32) => if x1 = 71 then some (9999, u0) else if x1 = 80 then some (8, u0) else if x1 = 82 then some (1000, u0) else if x1 = 83 then some (24, u0) else if x1 = 84 then some (500, u0) else if x1 = 86 then some (50, u0) else if x1 = 87 then some (50, u0) else some ((-9), u0))
set_option maxRecDepth 100000 in
set_option maxHeartbeats 4000000 in
theorem k_X6_greatest (l : Launch) (G : qG)   (u0 : qM) : qCt l G m_X6_greatest q_cI [.ref (q_ad G 7 0)] u0 (f_X6_greatest  u0) := by
  refine q_entry pk_X6_greatest (Nat.le_of_ble_eq_true rfl) ?_
  show qAW l G m_X6_greatest (q_mq G q_cI) 0 [(0, .ref (q_ad G 7 0))] [] u0 (f_X6_greatest  u0)
  unfold f_X6_greatest
  refine aw_aload_n (i := 0) dX6_greatest_0 1 rfl rfl 0 rfl ?_
  refine gf_X6_3 dX6_greatest_1 4 rfl wd_80 (ok_7 (by decide)) ?_
  refine aw_lti (fun x1 => ?_)
  refine aw_swIn (y := 71) dX6_greatest_4 94 (by decide) (by decide) rfl rfl (fun h1 => ?_) (fun h1 => ?_)
  · refine aw_sipush (x := 9999) dX6_greatest_94 97 rfl rfl ?_
    exact aw_iret dX6_greatest_97 rfl
  · refine aw_swIn (y := 80) dX6_greatest_4 102 (by decide) (by decide) rfl rfl (fun h2 => ?_) (fun h2 => ?_)
    · refine aw_bipush (x := 8) dX6_greatest_102 104 rfl rfl ?_
      exact aw_iret dX6_greatest_104 rfl
    · refine aw_swIn (y := 82) dX6_greatest_4 105 (by decide) (by decide) rfl rfl (fun h3 => ?_) (fun h3 => ?_)
      · refine aw_sipush (x := 1000) dX6_greatest_105 108 rfl rfl ?_
        exact aw_iret dX6_greatest_108 rfl
      · refine aw_swIn (y := 83) dX6_greatest_4 91 (by decide) (by decide) rfl rfl (fun h4 => ?_) (fun h4 => ?_)
        · refine aw_bipush (x := 24) dX6_greatest_91 93 rfl rfl ?_
          exact aw_iret dX6_greatest_93 rfl
        · refine aw_swIn (y := 84) dX6_greatest_4 98 (by decide) (by decide) rfl rfl (fun h5 => ?_) (fun h5 => ?_)
          · refine aw_sipush (x := 500) dX6_greatest_98 101 rfl rfl ?_
            exact aw_iret dX6_greatest_101 rfl
          · refine aw_swIn (y := 86) dX6_greatest_4 88 (by decide) (by decide) rfl rfl (fun h6 => ?_) (fun h6 => ?_)
            · refine aw_bipush (x := 50) dX6_greatest_88 90 rfl rfl ?_
              exact aw_iret dX6_greatest_90 rfl
            · refine aw_swIn (y := 87) dX6_greatest_4 88 (by decide) (by decide) rfl rfl (fun h7 => ?_) (fun h7 => ?_)
              · refine aw_bipush (x := 50) dX6_greatest_88 90 rfl rfl ?_
                exact aw_iret dX6_greatest_90 rfl
              · refine aw_swOut dX6_greatest_4 109 rfl (q_swD [71, 80, 82, 83, 84, 86, 87] (by decide +kernel) (by decide) (by simp only [List.mem_cons, List.not_mem_nil, or_false]; rintro c (rfl | rfl | rfl | rfl | rfl | rfl | rfl) <;> assumption)) ?_
                refine aw_bipush (x := (-9)) dX6_greatest_109 111 rfl rfl ?_
                exact aw_iret dX6_greatest_111 rfl
theorem dX6_least_0 : decode cX6_least 0 = .ok (.aload_n 0, 1) := by decide +kernel
theorem dX6_least_1 : decode cX6_least 1 = .ok (.getfield 28, 3) := by decide +kernel
theorem dX6_least_4 : decode cX6_least 4 = .ok (.tableswitch 57 80 87 #[55, 57, 57, 57, 51, 57, 48, 48], 48) := by decide +kernel
theorem dX6_least_52 : decode cX6_least 52 = .ok (.bipush (-50), 2) := by decide +kernel
theorem dX6_least_54 : decode cX6_least 54 = .ok (.ireturn, 1) := by decide +kernel
theorem dX6_least_55 : decode cX6_least 55 = .ok (.sipush (-500), 3) := by decide +kernel
theorem dX6_least_58 : decode cX6_least 58 = .ok (.ireturn, 1) := by decide +kernel
theorem dX6_least_59 : decode cX6_least 59 = .ok (.iconst 1, 1) := by decide +kernel
theorem dX6_least_60 : decode cX6_least 60 = .ok (.ireturn, 1) := by decide +kernel
theorem dX6_least_61 : decode cX6_least 61 = .ok (.iconst 0, 1) := by decide +kernel
theorem dX6_least_62 : decode cX6_least 62 = .ok (.ireturn, 1) := by decide +kernel
noncomputable def f_X6_least  (u0 : qM) : Option (Int32 × qM) :=
  q_lt (u0.1 7 0 3) (fun (x1 : Int32) => if x1 = 80 then some (1, u0) else if x1 = 84 then some ((-500), u0) else if x1 = 86 then some ((-50), u0) else if x1 = 87 then some ((-50), u0) else some (0, u0))
set_option maxRecDepth 100000 in
set_option maxHeartbeats 4000000 in
theorem k_X6_least (l : Launch) (G : qG)   (u0 : qM) : qCt l G m_X6_least q_cI [.ref (q_ad G 7 0)] u0 (f_X6_least  u0) := by
  refine q_entry pk_X6_least (Nat.le_of_ble_eq_true rfl) ?_
  show qAW l G m_X6_least (q_mq G q_cI) 0 [(0, .ref (q_ad G 7 0))] [] u0 (f_X6_least  u0)
  unfold f_X6_least
  refine aw_aload_n (i := 0) dX6_least_0 1 rfl rfl 0 rfl ?_
  refine gf_X6_3 dX6_least_1 4 rfl wd_80 (ok_7 (by decide)) ?_
  refine aw_lti (fun x1 => ?_)
  refine aw_swIn (y := 80) dX6_least_4 59 (by decide) (by decide) rfl rfl (fun h1 => ?_) (fun h1 => ?_)
  · refine aw_iconst (x := 1) dX6_least_59 60 rfl rfl ?_
    exact aw_iret dX6_least_60 rfl
  · refine aw_swIn (y := 84) dX6_least_4 55 (by decide) (by decide) rfl rfl (fun h2 => ?_) (fun h2 => ?_)
    · refine aw_sipush (x := (-500)) dX6_least_55 58 rfl rfl ?_
      exact aw_iret dX6_least_58 rfl
    · refine aw_swIn (y := 86) dX6_least_4 52 (by decide) (by decide) rfl rfl (fun h3 => ?_) (fun h3 => ?_)
      · refine aw_bipush (x := (-50)) dX6_least_52 54 rfl rfl ?_
        exact aw_iret dX6_least_54 rfl
      · refine aw_swIn (y := 87) dX6_least_4 52 (by decide) (by decide) rfl rfl (fun h4 => ?_) (fun h4 => ?_)
        · refine aw_bipush (x := (-50)) dX6_least_52 54 rfl rfl ?_
          exact aw_iret dX6_least_54 rfl
        · refine aw_swOut dX6_least_4 61 rfl (q_swD [80, 84, 86, 87] (by decide +kernel) (by decide) (by simp only [List.mem_cons, List.not_mem_nil, or_false]; rintro c (rfl | rfl | rfl | rfl) <;> assumption)) ?_
          refine aw_iconst (x := 0) dX6_least_61 62 rfl rfl ?_
          exact aw_iret dX6_least_62 rfl
theorem dX6_stepsOfItem_0 : decode cX6_stepsOfItem 0 = .ok (.aload_n 0, 1) := by decide +kernel
theorem dX6_stepsOfItem_1 : decode cX6_stepsOfItem 1 = .ok (.getfield 28, 3) := by decide +kernel
theorem dX6_stepsOfItem_4 : decode cX6_stepsOfItem 4 = .ok (.bipush 83, 2) := by decide +kernel
theorem dX6_stepsOfItem_6 : decode cX6_stepsOfItem 6 = .ok (.if_icmp .ne 10, 3) := by decide +kernel
theorem dX6_stepsOfItem_9 : decode cX6_stepsOfItem 9 = .ok (.aload_n 0, 1) := by decide +kernel
theorem dX6_stepsOfItem_10 : decode cX6_stepsOfItem 10 = .ok (.getfield 43, 3) := by decide +kernel
theorem dX6_stepsOfItem_13 : decode cX6_stepsOfItem 13 = .ok (.goto 4, 3) := by decide +kernel
theorem dX6_stepsOfItem_16 : decode cX6_stepsOfItem 16 = .ok (.iconst 0, 1) := by decide +kernel
theorem dX6_stepsOfItem_17 : decode cX6_stepsOfItem 17 = .ok (.ireturn, 1) := by decide +kernel
noncomputable def f_X6_stepsOfItem  (u0 : qM) : Option (Int32 × qM) :=
  q_jn (fun (x1 : Int32) (u1 : qM) => some (x1, u1)) (fun j1 => if (u0.1 7 0 3) = 83 then j1 (u0.1 7 0 4) u0 else j1 0 u0)
set_option maxRecDepth 100000 in
set_option maxHeartbeats 4000000 in
theorem k_X6_stepsOfItem (l : Launch) (G : qG)   (u0 : qM) : qCt l G m_X6_stepsOfItem q_cI [.ref (q_ad G 7 0)] u0 (f_X6_stepsOfItem  u0) := by
  refine q_entry pk_X6_stepsOfItem (Nat.le_of_ble_eq_true rfl) ?_
  show qAW l G m_X6_stepsOfItem (q_mq G q_cI) 0 [(0, .ref (q_ad G 7 0))] [] u0 (f_X6_stepsOfItem  u0)
  unfold f_X6_stepsOfItem
  refine aw_aload_n (i := 0) dX6_stepsOfItem_0 1 rfl rfl 0 rfl ?_
  refine gf_X6_3 dX6_stepsOfItem_1 4 rfl wd_80 (ok_7 (by decide)) ?_
  refine aw_bipush (x := 83) dX6_stepsOfItem_4 6 rfl rfl ?_
  refine aw_jn (fun k => ∀ (x1 : Int32) (u1 : qM), qAW l G m_X6_stepsOfItem (q_mq G q_cI) 17 [] [.int x1] u1 (k x1 u1)) ?_ ?_
  · intro x1 u1
    exact aw_iret dX6_stepsOfItem_17 rfl
  · intro j1 hj1
    refine aw_icmp_ne dX6_stepsOfItem_6 9 rfl 16 rfl (fun h1 => ?_) (fun h1 => ?_)
    · refine aw_iconst (x := 0) dX6_stepsOfItem_16 17 rfl rfl ?_
      exact aw_conv [] rfl (hj1 0 u0)
    · refine aw_aload_n (i := 0) dX6_stepsOfItem_9 10 rfl rfl 0 rfl ?_
      refine gf_X6_4 dX6_stepsOfItem_10 13 rfl wd_81 (ok_7 (by decide)) ?_
      refine aw_goto dX6_stepsOfItem_13 17 rfl ?_
      exact aw_conv [] rfl (hj1 (u0.1 7 0 4) u0)
theorem dX6_next_0 : decode cX6_next 0 = .ok (.aload_n 0, 1) := by decide +kernel
theorem dX6_next_1 : decode cX6_next 1 = .ok (.getfield 22, 3) := by decide +kernel
theorem dX6_next_4 : decode cX6_next 4 = .ok (.aload_n 0, 1) := by decide +kernel
theorem dX6_next_5 : decode cX6_next 5 = .ok (.getfield 19, 3) := by decide +kernel
theorem dX6_next_8 : decode cX6_next 8 = .ok (.if_icmp .ge 30, 3) := by decide +kernel
theorem dX6_next_11 : decode cX6_next 11 = .ok (.aload_n 0, 1) := by decide +kernel
theorem dX6_next_12 : decode cX6_next 12 = .ok (.getfield 9, 3) := by decide +kernel
theorem dX6_next_15 : decode cX6_next 15 = .ok (.aload_n 0, 1) := by decide +kernel
theorem dX6_next_16 : decode cX6_next 16 = .ok (.getfield 22, 3) := by decide +kernel
theorem dX6_next_19 : decode cX6_next 19 = .ok (.iaload, 1) := by decide +kernel
theorem dX6_next_20 : decode cX6_next 20 = .ok (.bipush 32, 2) := by decide +kernel
theorem dX6_next_22 : decode cX6_next 22 = .ok (.if_icmp .ne 16, 3) := by decide +kernel
theorem dX6_next_25 : decode cX6_next 25 = .ok (.aload_n 0, 1) := by decide +kernel
theorem dX6_next_26 : decode cX6_next 26 = .ok (.dup, 1) := by decide +kernel
theorem dX6_next_27 : decode cX6_next 27 = .ok (.getfield 22, 3) := by decide +kernel
theorem dX6_next_30 : decode cX6_next 30 = .ok (.iconst 1, 1) := by decide +kernel
theorem dX6_next_31 : decode cX6_next 31 = .ok (.iadd, 1) := by decide +kernel
theorem dX6_next_32 : decode cX6_next 32 = .ok (.putfield 22, 3) := by decide +kernel
theorem dX6_next_35 : decode cX6_next 35 = .ok (.goto (-35), 3) := by decide +kernel
theorem dX6_next_38 : decode cX6_next 38 = .ok (.aload_n 0, 1) := by decide +kernel
theorem dX6_next_39 : decode cX6_next 39 = .ok (.getfield 22, 3) := by decide +kernel
theorem dX6_next_42 : decode cX6_next 42 = .ok (.aload_n 0, 1) := by decide +kernel
theorem dX6_next_43 : decode cX6_next 43 = .ok (.getfield 19, 3) := by decide +kernel
theorem dX6_next_46 : decode cX6_next 46 = .ok (.if_icmp .ge 12, 3) := by decide +kernel
theorem dX6_next_49 : decode cX6_next 49 = .ok (.aload_n 0, 1) := by decide +kernel
theorem dX6_next_50 : decode cX6_next 50 = .ok (.getfield 15, 3) := by decide +kernel
theorem dX6_next_53 : decode cX6_next 53 = .ok (.bipush (-9), 2) := by decide +kernel
theorem dX6_next_55 : decode cX6_next 55 = .ok (.if_icmp .eq 5, 3) := by decide +kernel
theorem dX6_next_58 : decode cX6_next 58 = .ok (.iconst 0, 1) := by decide +kernel
theorem dX6_next_59 : decode cX6_next 59 = .ok (.ireturn, 1) := by decide +kernel
theorem dX6_next_60 : decode cX6_next 60 = .ok (.aload_n 0, 1) := by decide +kernel
theorem dX6_next_61 : decode cX6_next 61 = .ok (.getfield 22, 3) := by decide +kernel
theorem dX6_next_64 : decode cX6_next 64 = .ok (.istore_n 1, 1) := by decide +kernel
theorem dX6_next_65 : decode cX6_next 65 = .ok (.aload_n 0, 1) := by decide +kernel
theorem dX6_next_66 : decode cX6_next 66 = .ok (.aload_n 0, 1) := by decide +kernel
theorem dX6_next_67 : decode cX6_next 67 = .ok (.getfield 9, 3) := by decide +kernel
theorem dX6_next_70 : decode cX6_next 70 = .ok (.aload_n 0, 1) := by decide +kernel
theorem dX6_next_71 : decode cX6_next 71 = .ok (.getfield 22, 3) := by decide +kernel
theorem dX6_next_74 : decode cX6_next 74 = .ok (.iaload, 1) := by decide +kernel
theorem dX6_next_75 : decode cX6_next 75 = .ok (.putfield 28, 3) := by decide +kernel
theorem dX6_next_78 : decode cX6_next 78 = .ok (.aload_n 0, 1) := by decide +kernel
theorem dX6_next_79 : decode cX6_next 79 = .ok (.invokevirtual 31, 3) := by decide +kernel
theorem dX6_next_82 : decode cX6_next 82 = .ok (.bipush (-9), 2) := by decide +kernel
theorem dX6_next_84 : decode cX6_next 84 = .ok (.if_icmp .ne 12, 3) := by decide +kernel
theorem dX6_next_87 : decode cX6_next 87 = .ok (.aload_n 0, 1) := by decide +kernel
theorem dX6_next_88 : decode cX6_next 88 = .ok (.aload_n 0, 1) := by decide +kernel
theorem dX6_next_89 : decode cX6_next 89 = .ok (.getfield 22, 3) := by decide +kernel
theorem dX6_next_92 : decode cX6_next 92 = .ok (.invokevirtual 35, 3) := by decide +kernel
theorem dX6_next_95 : decode cX6_next 95 = .ok (.ireturn, 1) := by decide +kernel
theorem dX6_next_96 : decode cX6_next 96 = .ok (.aload_n 0, 1) := by decide +kernel
theorem dX6_next_97 : decode cX6_next 97 = .ok (.dup, 1) := by decide +kernel
theorem dX6_next_98 : decode cX6_next 98 = .ok (.getfield 22, 3) := by decide +kernel
theorem dX6_next_101 : decode cX6_next 101 = .ok (.iconst 1, 1) := by decide +kernel
theorem dX6_next_102 : decode cX6_next 102 = .ok (.iadd, 1) := by decide +kernel
theorem dX6_next_103 : decode cX6_next 103 = .ok (.putfield 22, 3) := by decide +kernel
theorem dX6_next_106 : decode cX6_next 106 = .ok (.aload_n 0, 1) := by decide +kernel
theorem dX6_next_107 : decode cX6_next 107 = .ok (.getfield 22, 3) := by decide +kernel
theorem dX6_next_110 : decode cX6_next 110 = .ok (.aload_n 0, 1) := by decide +kernel
theorem dX6_next_111 : decode cX6_next 111 = .ok (.getfield 19, 3) := by decide +kernel
theorem dX6_next_114 : decode cX6_next 114 = .ok (.if_icmp .ge 21, 3) := by decide +kernel
theorem dX6_next_117 : decode cX6_next 117 = .ok (.aload_n 0, 1) := by decide +kernel
theorem dX6_next_118 : decode cX6_next 118 = .ok (.getfield 9, 3) := by decide +kernel
theorem dX6_next_121 : decode cX6_next 121 = .ok (.aload_n 0, 1) := by decide +kernel
theorem dX6_next_122 : decode cX6_next 122 = .ok (.getfield 22, 3) := by decide +kernel
theorem dX6_next_125 : decode cX6_next 125 = .ok (.iaload, 1) := by decide +kernel
theorem dX6_next_126 : decode cX6_next 126 = .ok (.bipush 45, 2) := by decide +kernel
theorem dX6_next_128 : decode cX6_next 128 = .ok (.if_icmp .ne 7, 3) := by decide +kernel
theorem dX6_next_131 : decode cX6_next 131 = .ok (.iconst 1, 1) := by decide +kernel
theorem dX6_next_132 : decode cX6_next 132 = .ok (.goto 4, 3) := by decide +kernel
theorem dX6_next_135 : decode cX6_next 135 = .ok (.iconst 0, 1) := by decide +kernel
theorem dX6_next_136 : decode cX6_next 136 = .ok (.istore_n 2, 1) := by decide +kernel
theorem dX6_next_137 : decode cX6_next 137 = .ok (.iload_n 2, 1) := by decide +kernel
theorem dX6_next_138 : decode cX6_next 138 = .ok (.ifCond .eq 13, 3) := by decide +kernel
theorem dX6_next_141 : decode cX6_next 141 = .ok (.aload_n 0, 1) := by decide +kernel
theorem dX6_next_142 : decode cX6_next 142 = .ok (.dup, 1) := by decide +kernel
theorem dX6_next_143 : decode cX6_next 143 = .ok (.getfield 22, 3) := by decide +kernel
theorem dX6_next_146 : decode cX6_next 146 = .ok (.iconst 1, 1) := by decide +kernel
theorem dX6_next_147 : decode cX6_next 147 = .ok (.iadd, 1) := by decide +kernel
theorem dX6_next_148 : decode cX6_next 148 = .ok (.putfield 22, 3) := by decide +kernel
theorem dX6_next_151 : decode cX6_next 151 = .ok (.aload_n 0, 1) := by decide +kernel
theorem dX6_next_152 : decode cX6_next 152 = .ok (.invokevirtual 39, 3) := by decide +kernel
theorem dX6_next_155 : decode cX6_next 155 = .ok (.ifCond .ne 12, 3) := by decide +kernel
theorem dX6_next_158 : decode cX6_next 158 = .ok (.aload_n 0, 1) := by decide +kernel
theorem dX6_next_159 : decode cX6_next 159 = .ok (.aload_n 0, 1) := by decide +kernel
theorem dX6_next_160 : decode cX6_next 160 = .ok (.getfield 22, 3) := by decide +kernel
theorem dX6_next_163 : decode cX6_next 163 = .ok (.invokevirtual 35, 3) := by decide +kernel
theorem dX6_next_166 : decode cX6_next 166 = .ok (.ireturn, 1) := by decide +kernel
theorem dX6_next_167 : decode cX6_next 167 = .ok (.iconst 0, 1) := by decide +kernel
theorem dX6_next_168 : decode cX6_next 168 = .ok (.istore_n 3, 1) := by decide +kernel
theorem dX6_next_169 : decode cX6_next 169 = .ok (.iconst 0, 1) := by decide +kernel
theorem dX6_next_170 : decode cX6_next 170 = .ok (.istore 4, 2) := by decide +kernel
theorem dX6_next_172 : decode cX6_next 172 = .ok (.iload 4, 2) := by decide +kernel
theorem dX6_next_174 : decode cX6_next 174 = .ok (.iconst 4, 1) := by decide +kernel
theorem dX6_next_175 : decode cX6_next 175 = .ok (.if_icmp .ge 44, 3) := by decide +kernel
theorem dX6_next_178 : decode cX6_next 178 = .ok (.aload_n 0, 1) := by decide +kernel
theorem dX6_next_179 : decode cX6_next 179 = .ok (.invokevirtual 39, 3) := by decide +kernel
theorem dX6_next_182 : decode cX6_next 182 = .ok (.ifCond .eq 37, 3) := by decide +kernel
theorem dX6_next_185 : decode cX6_next 185 = .ok (.bipush 10, 2) := by decide +kernel
theorem dX6_next_187 : decode cX6_next 187 = .ok (.iload_n 3, 1) := by decide +kernel
theorem dX6_next_188 : decode cX6_next 188 = .ok (.imul, 1) := by decide +kernel
theorem dX6_next_189 : decode cX6_next 189 = .ok (.aload_n 0, 1) := by decide +kernel
theorem dX6_next_190 : decode cX6_next 190 = .ok (.getfield 9, 3) := by decide +kernel
theorem dX6_next_193 : decode cX6_next 193 = .ok (.aload_n 0, 1) := by decide +kernel
theorem dX6_next_194 : decode cX6_next 194 = .ok (.getfield 22, 3) := by decide +kernel
theorem dX6_next_197 : decode cX6_next 197 = .ok (.iaload, 1) := by decide +kernel
theorem dX6_next_198 : decode cX6_next 198 = .ok (.iadd, 1) := by decide +kernel
theorem dX6_next_199 : decode cX6_next 199 = .ok (.bipush 48, 2) := by decide +kernel
theorem dX6_next_201 : decode cX6_next 201 = .ok (.isub, 1) := by decide +kernel
theorem dX6_next_202 : decode cX6_next 202 = .ok (.istore_n 3, 1) := by decide +kernel
theorem dX6_next_203 : decode cX6_next 203 = .ok (.aload_n 0, 1) := by decide +kernel
theorem dX6_next_204 : decode cX6_next 204 = .ok (.dup, 1) := by decide +kernel
theorem dX6_next_205 : decode cX6_next 205 = .ok (.getfield 22, 3) := by decide +kernel
theorem dX6_next_208 : decode cX6_next 208 = .ok (.iconst 1, 1) := by decide +kernel
theorem dX6_next_209 : decode cX6_next 209 = .ok (.iadd, 1) := by decide +kernel
theorem dX6_next_210 : decode cX6_next 210 = .ok (.putfield 22, 3) := by decide +kernel
theorem dX6_next_213 : decode cX6_next 213 = .ok (.iinc 4 1, 3) := by decide +kernel
theorem dX6_next_216 : decode cX6_next 216 = .ok (.goto (-44), 3) := by decide +kernel
theorem dX6_next_219 : decode cX6_next 219 = .ok (.aload_n 0, 1) := by decide +kernel
theorem dX6_next_220 : decode cX6_next 220 = .ok (.invokevirtual 39, 3) := by decide +kernel
theorem dX6_next_223 : decode cX6_next 223 = .ok (.ifCond .eq 12, 3) := by decide +kernel
theorem dX6_next_226 : decode cX6_next 226 = .ok (.aload_n 0, 1) := by decide +kernel
theorem dX6_next_227 : decode cX6_next 227 = .ok (.aload_n 0, 1) := by decide +kernel
theorem dX6_next_228 : decode cX6_next 228 = .ok (.getfield 22, 3) := by decide +kernel
theorem dX6_next_231 : decode cX6_next 231 = .ok (.invokevirtual 35, 3) := by decide +kernel
theorem dX6_next_234 : decode cX6_next 234 = .ok (.ireturn, 1) := by decide +kernel
theorem dX6_next_235 : decode cX6_next 235 = .ok (.aload_n 0, 1) := by decide +kernel
theorem dX6_next_236 : decode cX6_next 236 = .ok (.iload_n 2, 1) := by decide +kernel
theorem dX6_next_237 : decode cX6_next 237 = .ok (.ifCond .eq 8, 3) := by decide +kernel
theorem dX6_next_240 : decode cX6_next 240 = .ok (.iload_n 3, 1) := by decide +kernel
theorem dX6_next_241 : decode cX6_next 241 = .ok (.ineg, 1) := by decide +kernel
theorem dX6_next_242 : decode cX6_next 242 = .ok (.goto 4, 3) := by decide +kernel
theorem dX6_next_245 : decode cX6_next 245 = .ok (.iload_n 3, 1) := by decide +kernel
theorem dX6_next_246 : decode cX6_next 246 = .ok (.putfield 43, 3) := by decide +kernel
theorem dX6_next_249 : decode cX6_next 249 = .ok (.aload_n 0, 1) := by decide +kernel
theorem dX6_next_250 : decode cX6_next 250 = .ok (.getfield 43, 3) := by decide +kernel
theorem dX6_next_253 : decode cX6_next 253 = .ok (.aload_n 0, 1) := by decide +kernel
theorem dX6_next_254 : decode cX6_next 254 = .ok (.invokevirtual 46, 3) := by decide +kernel
theorem dX6_next_257 : decode cX6_next 257 = .ok (.if_icmp .lt 14, 3) := by decide +kernel
theorem dX6_next_260 : decode cX6_next 260 = .ok (.aload_n 0, 1) := by decide +kernel
theorem dX6_next_261 : decode cX6_next 261 = .ok (.getfield 43, 3) := by decide +kernel
theorem dX6_next_264 : decode cX6_next 264 = .ok (.aload_n 0, 1) := by decide +kernel
theorem dX6_next_265 : decode cX6_next 265 = .ok (.invokevirtual 31, 3) := by decide +kernel
theorem dX6_next_268 : decode cX6_next 268 = .ok (.if_icmp .le 9, 3) := by decide +kernel
theorem dX6_next_271 : decode cX6_next 271 = .ok (.aload_n 0, 1) := by decide +kernel
theorem dX6_next_272 : decode cX6_next 272 = .ok (.iload_n 1, 1) := by decide +kernel
theorem dX6_next_273 : decode cX6_next 273 = .ok (.invokevirtual 35, 3) := by decide +kernel
theorem dX6_next_276 : decode cX6_next 276 = .ok (.ireturn, 1) := by decide +kernel
theorem dX6_next_277 : decode cX6_next 277 = .ok (.aload_n 0, 1) := by decide +kernel
theorem dX6_next_278 : decode cX6_next 278 = .ok (.dup, 1) := by decide +kernel
theorem dX6_next_279 : decode cX6_next 279 = .ok (.getfield 25, 3) := by decide +kernel
theorem dX6_next_282 : decode cX6_next 282 = .ok (.aload_n 0, 1) := by decide +kernel
theorem dX6_next_283 : decode cX6_next 283 = .ok (.invokevirtual 49, 3) := by decide +kernel
theorem dX6_next_286 : decode cX6_next 286 = .ok (.iadd, 1) := by decide +kernel
theorem dX6_next_287 : decode cX6_next 287 = .ok (.putfield 25, 3) := by decide +kernel
theorem dX6_next_290 : decode cX6_next 290 = .ok (.aload_n 0, 1) := by decide +kernel
theorem dX6_next_291 : decode cX6_next 291 = .ok (.getfield 25, 3) := by decide +kernel
theorem dX6_next_294 : decode cX6_next 294 = .ok (.bipush 24, 2) := by decide +kernel
theorem dX6_next_296 : decode cX6_next 296 = .ok (.if_icmp .le 11, 3) := by decide +kernel
theorem dX6_next_299 : decode cX6_next 299 = .ok (.aload_n 0, 1) := by decide +kernel
theorem dX6_next_300 : decode cX6_next 300 = .ok (.iload_n 1, 1) := by decide +kernel
theorem dX6_next_301 : decode cX6_next 301 = .ok (.invokevirtual 35, 3) := by decide +kernel
theorem dX6_next_304 : decode cX6_next 304 = .ok (.ifCond .eq 7, 3) := by decide +kernel
theorem dX6_next_307 : decode cX6_next 307 = .ok (.iconst 1, 1) := by decide +kernel
theorem dX6_next_308 : decode cX6_next 308 = .ok (.goto 4, 3) := by decide +kernel
theorem dX6_next_311 : decode cX6_next 311 = .ok (.iconst 0, 1) := by decide +kernel
theorem dX6_next_312 : decode cX6_next 312 = .ok (.ireturn, 1) := by decide +kernel
noncomputable def L_X6_next_0  : Nat → qM → (qM → Option (Int32 × qM)) → Option (Int32 × qM)
  | 0, _, _ => none
  | n + 1, u1, e1 => if (u1.1 7 0 1) ≤ (u1.1 7 0 2) then e1 u1 else q_ck (q_ia u1.2.2) (q_ck (q_in (u1.1 7 0 2) (q_al u1.2.2.1 u1.2.2.2)) (if (u1.1 (u1.2.2.1) (u1.2.2.2) (Int32.toNatClampNeg (u1.1 7 0 2))) = 32 then q_lt (q_si u1 7 0 2 ((u1.1 7 0 2) + 1)) (fun (u2 : qM) => L_X6_next_0 n u2 e1) else e1 u1))
noncomputable def L_X6_next_172 (x1 : Int32) (x3 : Int32) : Nat → Int32 → Int32 → qM → (Int32 → qM → Option (Int32 × qM)) → Option (Int32 × qM)
  | 0, _, _, _, _ => none
  | n + 1, x5, x6, u11, e1 => if 4 ≤ x6 then e1 x5 u11 else q_bd (f_X6_digitAhead  u11) (fun (x7 : Int32) (u12 : qM) => if x7 = 0 then e1 x5 u12 else q_ck (q_ia u12.2.2) (q_ck (q_in (u12.1 7 0 2) (q_al u12.2.2.1 u12.2.2.2)) (q_lt (((10 * x5) + (u12.1 (u12.2.2.1) (u12.2.2.2) (Int32.toNatClampNeg (u12.1 7 0 2)))) - 48) (fun (x8 : Int32) => q_lt (q_si u12 7 0 2 ((u12.1 7 0 2) + 1)) (fun (u13 : qM) => q_lt (x6 + 1) (fun (x9 : Int32) => L_X6_next_172 x1 x3 n x8 x9 u13 e1))))))
noncomputable def f_X6_next  (u0 : qM) : Option (Int32 × qM) :=
  L_X6_next_0 q_fu u0 (fun u3 => q_jn (fun  (u4 : qM) => some (0, u4)) (fun j1 => if (u3.1 7 0 1) ≤ (u3.1 7 0 2) then j1 u3 else if (u3.1 7 0 6) = (-9) then q_lt (u3.1 7 0 2) (fun (x1 : Int32) => q_ck (q_ia u3.2.2) (q_ck (q_in (u3.1 7 0 2) (q_al u3.2.2.1 u3.2.2.2)) (q_lt (q_si u3 7 0 3 (u3.1 (u3.2.2.1) (u3.2.2.2) (Int32.toNatClampNeg (u3.1 7 0 2)))) (fun (u5 : qM) => q_bd (f_X6_greatest  u5) (fun (x2 : Int32) (u6 : qM) => if x2 = (-9) then q_bd (f_X6_failed (u6.1 7 0 2) u6) (fun (x21 : Int32) (u31 : qM) => q_ck (q_b x21) (some (x21, u31))) else q_lt (q_si u6 7 0 2 ((u6.1 7 0 2) + 1)) (fun (u7 : qM) => q_jn (fun (x3 : Int32) (u8 : qM) => q_jn (fun  (u9 : qM) => q_bd (f_X6_digitAhead  u9) (fun (x4 : Int32) (u10 : qM) => if x4 = 0 then q_bd (f_X6_failed (u10.1 7 0 2) u10) (fun (x20 : Int32) (u28 : qM) => q_ck (q_b x20) (some (x20, u28))) else L_X6_next_172 x1 x3 q_fu 0 0 u10 (fun x10 u14 => q_bd (f_X6_digitAhead  u14) (fun (x11 : Int32) (u15 : qM) => if x11 = 0 then q_jn (fun (x12 : Int32) (u16 : qM) => q_lt (q_si u16 7 0 4 x12) (fun (u17 : qM) => q_bd (f_X6_least  u17) (fun (x13 : Int32) (u18 : qM) => q_jn (fun  (u19 : qM) => q_bd (f_X6_failed x1 u19) (fun (x14 : Int32) (u20 : qM) => q_ck (q_b x14) (some (x14, u20)))) (fun j5 => if (u17.1 7 0 4) < x13 then j5 u18 else q_bd (f_X6_greatest  u18) (fun (x15 : Int32) (u21 : qM) => if (u18.1 7 0 4) ≤ x15 then q_bd (f_X6_stepsOfItem  u21) (fun (x16 : Int32) (u22 : qM) => q_lt (q_si u22 7 0 5 ((u21.1 7 0 5) + x16)) (fun (u23 : qM) => q_jn (fun (x17 : Int32) (u24 : qM) => q_ck (q_b x17) (some (x17, u24))) (fun j6 => q_jn (fun  (u25 : qM) => j6 1 u25) (fun j7 => if (u23.1 7 0 5) ≤ 24 then j7 u23 else q_bd (f_X6_failed x1 u23) (fun (x18 : Int32) (u26 : qM) => if x18 = 0 then j6 0 u26 else j7 u26))))) else j5 u21))))) (fun j4 => if x3 = 0 then j4 x10 u15 else j4 (-x10) u15) else q_bd (f_X6_failed (u15.1 7 0 2) u15) (fun (x19 : Int32) (u27 : qM) => q_ck (q_b x19) (some (x19, u27))))))) (fun j3 => if x3 = 0 then j3 u8 else q_lt (q_si u8 7 0 2 ((u8.1 7 0 2) + 1)) (fun (u29 : qM) => j3 u29))) (fun j2 => q_jn (fun  (u30 : qM) => j2 0 u30) (fun j8 => if (u7.1 7 0 1) ≤ (u7.1 7 0 2) then j8 u7 else q_ck (q_ia u7.2.2) (q_ck (q_in (u7.1 7 0 2) (q_al u7.2.2.1 u7.2.2.2)) (if (u7.1 (u7.2.2.1) (u7.2.2.2) (Int32.toNatClampNeg (u7.1 7 0 2))) = 45 then j2 1 u7 else j8 u7)))))))))) else j1 u3))
set_option maxRecDepth 100000 in
set_option maxHeartbeats 4000000 in
theorem TL_X6_next_0 (l : Launch) (G : qG)   (e1 : qM → Option (Int32 × qM)) (he1 : ∀  (v : qM), qAW l G m_X6_next (q_mq G q_cI) 38 [(0, .ref (q_ad G 7 0))] [] v (e1 v)) : ∀ (n : Nat)  (u1 : qM), qAW l G m_X6_next (q_mq G q_cI) 0 [(0, .ref (q_ad G 7 0))] [] u1 (L_X6_next_0 n u1 e1) := by
  intro n
  induction n with
  | zero => intros; exact aw_none
  | succ n ih =>
    intro u1
    unfold L_X6_next_0
    refine aw_aload_n (i := 0) dX6_next_0 1 rfl rfl 0 rfl ?_
    refine gf_X6_2 dX6_next_1 4 rfl wd_77 (ok_7 (by decide)) ?_
    refine aw_aload_n (i := 0) dX6_next_4 5 rfl rfl 0 rfl ?_
    refine gf_X6_1 dX6_next_5 8 rfl wd_76 (ok_7 (by decide)) ?_
    refine aw_icmp_ge dX6_next_8 11 rfl 38 rfl (fun h1 => ?_) (fun h1 => ?_)
    · exact he1 u1
    · refine aw_aload_n (i := 0) dX6_next_11 12 rfl rfl 0 rfl ?_
      refine gf_X6_0 dX6_next_12 15 rfl wd_75 (ok_7 (by decide)) ?_
      refine aw_ck (fun h2 => ?_)
      refine aw_aload_n (i := 0) dX6_next_15 16 rfl rfl 0 rfl ?_
      refine gf_X6_2 dX6_next_16 19 rfl wd_77 (ok_7 (by decide)) ?_
      refine aw_iald dX6_next_19 20 rfl (q_ia_at h2) rfl (q_ia_ok h2) (fun h3 => ?_)
      refine aw_bipush (x := 32) dX6_next_20 22 rfl rfl ?_
      refine aw_icmp_ne dX6_next_22 25 rfl 38 rfl (fun h4 => ?_) (fun h4 => ?_)
      · exact he1 u1
      · refine aw_aload_n (i := 0) dX6_next_25 26 rfl rfl 0 rfl ?_
        refine aw_dup dX6_next_26 27 rfl rfl ?_
        refine gf_X6_2 dX6_next_27 30 rfl wd_77 (ok_7 (by decide)) ?_
        refine aw_iconst (x := 1) dX6_next_30 31 rfl rfl ?_
        refine aw_iadd dX6_next_31 32 rfl ?_
        refine pf_X6_2 dX6_next_32 35 rfl wd_77 (ok_7 (by decide)) ?_
        refine aw_ltm (fun u2 => ?_)
        refine aw_goto dX6_next_35 0 rfl ?_
        exact ih u2
set_option maxRecDepth 100000 in
set_option maxHeartbeats 4000000 in
theorem TL_X6_next_172 (l : Launch) (G : qG) (x1 : Int32) (x3 : Int32)  (e1 : Int32 → qM → Option (Int32 × qM)) (he1 : ∀ (y1 : Int32) (v : qM), qAW l G m_X6_next (q_mq G q_cI) 219 [(0, .ref (q_ad G 7 0)), (1, .int x1), (2, .int x3), (3, .int y1)] [] v (e1 y1 v)) : ∀ (n : Nat) (x5 : Int32) (x6 : Int32) (u11 : qM), qAW l G m_X6_next (q_mq G q_cI) 172 [(0, .ref (q_ad G 7 0)), (1, .int x1), (2, .int x3), (3, .int x5), (4, .int x6)] [] u11 (L_X6_next_172 x1 x3 n x5 x6 u11 e1) := by
  intro n
  induction n with
  | zero => intros; exact aw_none
  | succ n ih =>
    intro x5 x6 u11
    unfold L_X6_next_172
    refine aw_iload (i := 4) dX6_next_172 174 rfl 4 rfl ?_
    refine aw_iconst (x := 4) dX6_next_174 175 rfl rfl ?_
    refine aw_icmp_ge dX6_next_175 178 rfl 219 rfl (fun h13 => ?_) (fun h13 => ?_)
    · exact aw_conv [0, 1, 2, 3] rfl (he1 x5 u11)
    · refine aw_aload_n (i := 0) dX6_next_178 179 rfl rfl 0 rfl ?_
      refine aw_callV (M2 := m_X6_digitAhead) (cv := q_cI) dX6_next_179 182 rfl (k_X6_digitAhead l G   u11) wd_83 wv_X6_digitAhead pk_X6_digitAhead rfl rfl ⟨by decide, by decide⟩ ⟨Nat.zero_le _, Nat.zero_le _⟩ at_7 (ok_7 (by decide)) rfl rfl rfl (Nat.le_of_ble_eq_true rfl) (fun x7 u12 => ?_)
      show qAW l G m_X6_next (q_mq G q_cI) 182 [(0, .ref (q_ad G 7 0)), (1, .int x1), (2, .int x3), (3, .int x5), (4, .int x6)] [.int x7] u12 _
      refine aw_if_eq dX6_next_182 185 rfl 219 rfl (fun h14 => ?_) (fun h14 => ?_)
      · exact aw_conv [0, 1, 2, 3] rfl (he1 x5 u12)
      · refine aw_bipush (x := 10) dX6_next_185 187 rfl rfl ?_
        refine aw_iload_n (i := 3) dX6_next_187 188 rfl rfl 3 rfl ?_
        refine aw_imul dX6_next_188 189 rfl ?_
        refine aw_aload_n (i := 0) dX6_next_189 190 rfl rfl 0 rfl ?_
        refine gf_X6_0 dX6_next_190 193 rfl wd_75 (ok_7 (by decide)) ?_
        refine aw_ck (fun h15 => ?_)
        refine aw_aload_n (i := 0) dX6_next_193 194 rfl rfl 0 rfl ?_
        refine gf_X6_2 dX6_next_194 197 rfl wd_77 (ok_7 (by decide)) ?_
        refine aw_iald dX6_next_197 198 rfl (q_ia_at h15) rfl (q_ia_ok h15) (fun h16 => ?_)
        refine aw_iadd dX6_next_198 199 rfl ?_
        refine aw_bipush (x := 48) dX6_next_199 201 rfl rfl ?_
        refine aw_isub dX6_next_201 202 rfl ?_
        refine aw_lti (fun x8 => ?_)
        refine aw_istore_n dX6_next_202 203 rfl rfl [(3, .int x8), (0, .ref (q_ad G 7 0)), (1, .int x1), (2, .int x3), (4, .int x6)] (by decide) rfl ?_
        refine aw_aload_n (i := 0) dX6_next_203 204 rfl rfl 1 rfl ?_
        refine aw_dup dX6_next_204 205 rfl rfl ?_
        refine gf_X6_2 dX6_next_205 208 rfl wd_77 (ok_7 (by decide)) ?_
        refine aw_iconst (x := 1) dX6_next_208 209 rfl rfl ?_
        refine aw_iadd dX6_next_209 210 rfl ?_
        refine pf_X6_2 dX6_next_210 213 rfl wd_77 (ok_7 (by decide)) ?_
        refine aw_ltm (fun u13 => ?_)
        refine aw_iincx (i := 4) dX6_next_213 216 rfl 4 rfl 1 rfl (fun x9 => [(4, .int x9), (3, .int x8), (0, .ref (q_ad G 7 0)), (1, .int x1), (2, .int x3)]) (by decide) (fun _ => rfl) (fun x9 => ?_)
        refine aw_goto dX6_next_216 172 rfl ?_
        exact aw_conv [2, 3, 4, 1, 0] rfl (ih x8 x9 u13)
set_option maxRecDepth 100000 in
set_option maxHeartbeats 4000000 in
theorem k_X6_next (l : Launch) (G : qG)   (u0 : qM) : qCt l G m_X6_next q_cI [.ref (q_ad G 7 0)] u0 (f_X6_next  u0) := by
  refine q_entry pk_X6_next (Nat.le_of_ble_eq_true rfl) ?_
  show qAW l G m_X6_next (q_mq G q_cI) 0 [(0, .ref (q_ad G 7 0))] [] u0 (f_X6_next  u0)
  unfold f_X6_next
  refine TL_X6_next_0 l G   _ ?_ _ u0
  · intro u3
    refine aw_aload_n (i := 0) dX6_next_38 39 rfl rfl 0 rfl ?_
    refine gf_X6_2 dX6_next_39 42 rfl wd_77 (ok_7 (by decide)) ?_
    refine aw_aload_n (i := 0) dX6_next_42 43 rfl rfl 0 rfl ?_
    refine gf_X6_1 dX6_next_43 46 rfl wd_76 (ok_7 (by decide)) ?_
    refine aw_jn (fun k => ∀  (u4 : qM), qAW l G m_X6_next (q_mq G q_cI) 58 [] [] u4 (k u4)) ?_ ?_
    · intro u4
      refine aw_iconst (x := 0) dX6_next_58 59 rfl rfl ?_
      exact aw_zret dX6_next_59 rfl (by decide)
    · intro j1 hj1
      refine aw_icmp_ge dX6_next_46 49 rfl 58 rfl (fun h5 => ?_) (fun h5 => ?_)
      · exact aw_conv [] rfl (hj1 u3)
      · refine aw_aload_n (i := 0) dX6_next_49 50 rfl rfl 0 rfl ?_
        refine gf_X6_6 dX6_next_50 53 rfl wd_79 (ok_7 (by decide)) ?_
        refine aw_bipush (x := (-9)) dX6_next_53 55 rfl rfl ?_
        refine aw_icmp_eq dX6_next_55 58 rfl 60 rfl (fun h6 => ?_) (fun h6 => ?_)
        · refine aw_aload_n (i := 0) dX6_next_60 61 rfl rfl 0 rfl ?_
          refine gf_X6_2 dX6_next_61 64 rfl wd_77 (ok_7 (by decide)) ?_
          refine aw_lti (fun x1 => ?_)
          refine aw_istore_n dX6_next_64 65 rfl rfl [(1, .int x1), (0, .ref (q_ad G 7 0))] (by decide) rfl ?_
          refine aw_aload_n (i := 0) dX6_next_65 66 rfl rfl 1 rfl ?_
          refine aw_aload_n (i := 0) dX6_next_66 67 rfl rfl 1 rfl ?_
          refine gf_X6_0 dX6_next_67 70 rfl wd_75 (ok_7 (by decide)) ?_
          refine aw_ck (fun h7 => ?_)
          refine aw_aload_n (i := 0) dX6_next_70 71 rfl rfl 1 rfl ?_
          refine gf_X6_2 dX6_next_71 74 rfl wd_77 (ok_7 (by decide)) ?_
          refine aw_iald dX6_next_74 75 rfl (q_ia_at h7) rfl (q_ia_ok h7) (fun h8 => ?_)
          refine pf_X6_3 dX6_next_75 78 rfl wd_80 (ok_7 (by decide)) ?_
          refine aw_ltm (fun u5 => ?_)
          refine aw_aload_n (i := 0) dX6_next_78 79 rfl rfl 1 rfl ?_
          refine aw_callV (M2 := m_X6_greatest) (cv := q_cI) dX6_next_79 82 rfl (k_X6_greatest l G   u5) wd_82 wv_X6_greatest pk_X6_greatest rfl rfl ⟨by decide, by decide⟩ ⟨Nat.zero_le _, Nat.zero_le _⟩ at_7 (ok_7 (by decide)) rfl rfl rfl (Nat.le_of_ble_eq_true rfl) (fun x2 u6 => ?_)
          show qAW l G m_X6_next (q_mq G q_cI) 82 [(1, .int x1), (0, .ref (q_ad G 7 0))] [.int x2] u6 _
          refine aw_bipush (x := (-9)) dX6_next_82 84 rfl rfl ?_
          refine aw_icmp_ne dX6_next_84 87 rfl 96 rfl (fun h9 => ?_) (fun h9 => ?_)
          · refine aw_aload_n (i := 0) dX6_next_96 97 rfl rfl 1 rfl ?_
            refine aw_dup dX6_next_97 98 rfl rfl ?_
            refine gf_X6_2 dX6_next_98 101 rfl wd_77 (ok_7 (by decide)) ?_
            refine aw_iconst (x := 1) dX6_next_101 102 rfl rfl ?_
            refine aw_iadd dX6_next_102 103 rfl ?_
            refine pf_X6_2 dX6_next_103 106 rfl wd_77 (ok_7 (by decide)) ?_
            refine aw_ltm (fun u7 => ?_)
            refine aw_aload_n (i := 0) dX6_next_106 107 rfl rfl 1 rfl ?_
            refine gf_X6_2 dX6_next_107 110 rfl wd_77 (ok_7 (by decide)) ?_
            refine aw_aload_n (i := 0) dX6_next_110 111 rfl rfl 1 rfl ?_
            refine gf_X6_1 dX6_next_111 114 rfl wd_76 (ok_7 (by decide)) ?_
            refine aw_jn (fun k => ∀ (x3 : Int32) (u8 : qM), qAW l G m_X6_next (q_mq G q_cI) 136 [(0, .ref (q_ad G 7 0)), (1, .int x1)] [.int x3] u8 (k x3 u8)) ?_ ?_
            · intro x3 u8
              refine aw_istore_n dX6_next_136 137 rfl rfl [(2, .int x3), (0, .ref (q_ad G 7 0)), (1, .int x1)] (by decide) rfl ?_
              refine aw_iload_n (i := 2) dX6_next_137 138 rfl rfl 0 rfl ?_
              refine aw_jn (fun k => ∀  (u9 : qM), qAW l G m_X6_next (q_mq G q_cI) 151 [(0, .ref (q_ad G 7 0)), (1, .int x1), (2, .int x3)] [] u9 (k u9)) ?_ ?_
              · intro u9
                refine aw_aload_n (i := 0) dX6_next_151 152 rfl rfl 0 rfl ?_
                refine aw_callV (M2 := m_X6_digitAhead) (cv := q_cI) dX6_next_152 155 rfl (k_X6_digitAhead l G   u9) wd_83 wv_X6_digitAhead pk_X6_digitAhead rfl rfl ⟨by decide, by decide⟩ ⟨Nat.zero_le _, Nat.zero_le _⟩ at_7 (ok_7 (by decide)) rfl rfl rfl (Nat.le_of_ble_eq_true rfl) (fun x4 u10 => ?_)
                show qAW l G m_X6_next (q_mq G q_cI) 155 [(0, .ref (q_ad G 7 0)), (1, .int x1), (2, .int x3)] [.int x4] u10 _
                refine aw_if_ne dX6_next_155 158 rfl 167 rfl (fun h12 => ?_) (fun h12 => ?_)
                · refine aw_iconst (x := 0) dX6_next_167 168 rfl rfl ?_
                  refine aw_istore_n dX6_next_168 169 rfl rfl [(3, .int 0), (0, .ref (q_ad G 7 0)), (1, .int x1), (2, .int x3)] (by decide) rfl ?_
                  refine aw_iconst (x := 0) dX6_next_169 170 rfl rfl ?_
                  refine aw_istore dX6_next_170 172 rfl [(4, .int 0), (3, .int 0), (0, .ref (q_ad G 7 0)), (1, .int x1), (2, .int x3)] (by decide) rfl ?_
                  refine aw_conv [2, 3, 4, 1, 0] rfl (TL_X6_next_172 l G x1 x3  _ ?_ _ 0 0 u10)
                  · intro x10 u14
                    refine aw_aload_n (i := 0) dX6_next_219 220 rfl rfl 0 rfl ?_
                    refine aw_callV (M2 := m_X6_digitAhead) (cv := q_cI) dX6_next_220 223 rfl (k_X6_digitAhead l G   u14) wd_83 wv_X6_digitAhead pk_X6_digitAhead rfl rfl ⟨by decide, by decide⟩ ⟨Nat.zero_le _, Nat.zero_le _⟩ at_7 (ok_7 (by decide)) rfl rfl rfl (Nat.le_of_ble_eq_true rfl) (fun x11 u15 => ?_)
                    show qAW l G m_X6_next (q_mq G q_cI) 223 [(0, .ref (q_ad G 7 0)), (1, .int x1), (2, .int x3), (3, .int x10)] [.int x11] u15 _
                    refine aw_if_eq dX6_next_223 226 rfl 235 rfl (fun h17 => ?_) (fun h17 => ?_)
                    · refine aw_aload_n (i := 0) dX6_next_235 236 rfl rfl 0 rfl ?_
                      refine aw_iload_n (i := 2) dX6_next_236 237 rfl rfl 2 rfl ?_
                      refine aw_jn (fun k => ∀ (x12 : Int32) (u16 : qM), qAW l G m_X6_next (q_mq G q_cI) 246 [(0, .ref (q_ad G 7 0)), (1, .int x1)] [.int x12, .ref (q_ad G 7 0)] u16 (k x12 u16)) ?_ ?_
                      · intro x12 u16
                        refine pf_X6_4 dX6_next_246 249 rfl wd_81 (ok_7 (by decide)) ?_
                        refine aw_ltm (fun u17 => ?_)
                        refine aw_aload_n (i := 0) dX6_next_249 250 rfl rfl 0 rfl ?_
                        refine gf_X6_4 dX6_next_250 253 rfl wd_81 (ok_7 (by decide)) ?_
                        refine aw_aload_n (i := 0) dX6_next_253 254 rfl rfl 0 rfl ?_
                        refine aw_callV (M2 := m_X6_least) (cv := q_cI) dX6_next_254 257 rfl (k_X6_least l G   u17) wd_84 wv_X6_least pk_X6_least rfl rfl ⟨by decide, by decide⟩ ⟨Nat.zero_le _, Nat.zero_le _⟩ at_7 (ok_7 (by decide)) rfl rfl rfl (Nat.le_of_ble_eq_true rfl) (fun x13 u18 => ?_)
                        show qAW l G m_X6_next (q_mq G q_cI) 257 [(0, .ref (q_ad G 7 0)), (1, .int x1)] [.int x13, .int (u17.1 7 0 4)] u18 _
                        refine aw_jn (fun k => ∀  (u19 : qM), qAW l G m_X6_next (q_mq G q_cI) 271 [(0, .ref (q_ad G 7 0)), (1, .int x1)] [] u19 (k u19)) ?_ ?_
                        · intro u19
                          refine aw_aload_n (i := 0) dX6_next_271 272 rfl rfl 0 rfl ?_
                          refine aw_iload_n (i := 1) dX6_next_272 273 rfl rfl 1 rfl ?_
                          refine aw_callV (M2 := m_X6_failed) (cv := q_cI) dX6_next_273 276 rfl (k_X6_failed l G x1  u19) wd_85 wv_X6_failed pk_X6_failed rfl rfl ⟨by decide, by decide⟩ ⟨Nat.zero_le _, Nat.zero_le _⟩ at_7 (ok_7 (by decide)) rfl rfl rfl (Nat.le_of_ble_eq_true rfl) (fun x14 u20 => ?_)
                          show qAW l G m_X6_next (q_mq G q_cI) 276 [(0, .ref (q_ad G 7 0)), (1, .int x1)] [.int x14] u20 _
                          refine aw_ck (fun h20 => ?_)
                          exact aw_zret dX6_next_276 rfl h20
                        · intro j5 hj5
                          refine aw_icmp_lt dX6_next_257 260 rfl 271 rfl (fun h19 => ?_) (fun h19 => ?_)
                          · exact hj5 u18
                          · refine aw_aload_n (i := 0) dX6_next_260 261 rfl rfl 0 rfl ?_
                            refine gf_X6_4 dX6_next_261 264 rfl wd_81 (ok_7 (by decide)) ?_
                            refine aw_aload_n (i := 0) dX6_next_264 265 rfl rfl 0 rfl ?_
                            refine aw_callV (M2 := m_X6_greatest) (cv := q_cI) dX6_next_265 268 rfl (k_X6_greatest l G   u18) wd_82 wv_X6_greatest pk_X6_greatest rfl rfl ⟨by decide, by decide⟩ ⟨Nat.zero_le _, Nat.zero_le _⟩ at_7 (ok_7 (by decide)) rfl rfl rfl (Nat.le_of_ble_eq_true rfl) (fun x15 u21 => ?_)
                            show qAW l G m_X6_next (q_mq G q_cI) 268 [(0, .ref (q_ad G 7 0)), (1, .int x1)] [.int x15, .int (u18.1 7 0 4)] u21 _
                            refine aw_icmp_le dX6_next_268 271 rfl 277 rfl (fun h21 => ?_) (fun h21 => ?_)
                            · refine aw_aload_n (i := 0) dX6_next_277 278 rfl rfl 0 rfl ?_
                              refine aw_dup dX6_next_278 279 rfl rfl ?_
                              refine gf_X6_5 dX6_next_279 282 rfl wd_78 (ok_7 (by decide)) ?_
                              refine aw_aload_n (i := 0) dX6_next_282 283 rfl rfl 0 rfl ?_
                              refine aw_callV (M2 := m_X6_stepsOfItem) (cv := q_cI) dX6_next_283 286 rfl (k_X6_stepsOfItem l G   u21) wd_86 wv_X6_stepsOfItem pk_X6_stepsOfItem rfl rfl ⟨by decide, by decide⟩ ⟨Nat.zero_le _, Nat.zero_le _⟩ at_7 (ok_7 (by decide)) rfl rfl rfl (Nat.le_of_ble_eq_true rfl) (fun x16 u22 => ?_)
                              show qAW l G m_X6_next (q_mq G q_cI) 286 [(0, .ref (q_ad G 7 0)), (1, .int x1)] [.int x16, .int (u21.1 7 0 5), .ref (q_ad G 7 0)] u22 _
                              refine aw_iadd dX6_next_286 287 rfl ?_
                              refine pf_X6_5 dX6_next_287 290 rfl wd_78 (ok_7 (by decide)) ?_
                              refine aw_ltm (fun u23 => ?_)
                              refine aw_aload_n (i := 0) dX6_next_290 291 rfl rfl 0 rfl ?_
                              refine gf_X6_5 dX6_next_291 294 rfl wd_78 (ok_7 (by decide)) ?_
                              refine aw_bipush (x := 24) dX6_next_294 296 rfl rfl ?_
                              refine aw_jn (fun k => ∀ (x17 : Int32) (u24 : qM), qAW l G m_X6_next (q_mq G q_cI) 312 [] [.int x17] u24 (k x17 u24)) ?_ ?_
                              · intro x17 u24
                                refine aw_ck (fun h23 => ?_)
                                exact aw_zret dX6_next_312 rfl h23
                              · intro j6 hj6
                                refine aw_jn (fun k => ∀  (u25 : qM), qAW l G m_X6_next (q_mq G q_cI) 307 [] [] u25 (k u25)) ?_ ?_
                                · intro u25
                                  refine aw_iconst (x := 1) dX6_next_307 308 rfl rfl ?_
                                  refine aw_goto dX6_next_308 312 rfl ?_
                                  exact hj6 1 u25
                                · intro j7 hj7
                                  refine aw_icmp_le dX6_next_296 299 rfl 307 rfl (fun h22 => ?_) (fun h22 => ?_)
                                  · exact aw_conv [] rfl (hj7 u23)
                                  · refine aw_aload_n (i := 0) dX6_next_299 300 rfl rfl 0 rfl ?_
                                    refine aw_iload_n (i := 1) dX6_next_300 301 rfl rfl 1 rfl ?_
                                    refine aw_callV (M2 := m_X6_failed) (cv := q_cI) dX6_next_301 304 rfl (k_X6_failed l G x1  u23) wd_85 wv_X6_failed pk_X6_failed rfl rfl ⟨by decide, by decide⟩ ⟨Nat.zero_le _, Nat.zero_le _⟩ at_7 (ok_7 (by decide)) rfl rfl rfl (Nat.le_of_ble_eq_true rfl) (fun x18 u26 => ?_)
                                    show qAW l G m_X6_next (q_mq G q_cI) 304 [(0, .ref (q_ad G 7 0)), (1, .int x1)] [.int x18] u26 _
                                    refine aw_if_eq dX6_next_304 307 rfl 311 rfl (fun h24 => ?_) (fun h24 => ?_)
                                    · refine aw_iconst (x := 0) dX6_next_311 312 rfl rfl ?_
                                      exact aw_conv [] rfl (hj6 0 u26)
                                    · exact aw_conv [] rfl (hj7 u26)
                            · exact hj5 u21
                      · intro j4 hj4
                        refine aw_if_eq dX6_next_237 240 rfl 245 rfl (fun h18 => ?_) (fun h18 => ?_)
                        · refine aw_iload_n (i := 3) dX6_next_245 246 rfl rfl 3 rfl ?_
                          exact aw_conv [0, 1] rfl (hj4 x10 u15)
                        · refine aw_iload_n (i := 3) dX6_next_240 241 rfl rfl 3 rfl ?_
                          refine aw_ineg dX6_next_241 242 rfl ?_
                          refine aw_goto dX6_next_242 246 rfl ?_
                          exact aw_conv [0, 1] rfl (hj4 (-x10) u15)
                    · refine aw_aload_n (i := 0) dX6_next_226 227 rfl rfl 0 rfl ?_
                      refine aw_aload_n (i := 0) dX6_next_227 228 rfl rfl 0 rfl ?_
                      refine gf_X6_2 dX6_next_228 231 rfl wd_77 (ok_7 (by decide)) ?_
                      refine aw_callV (M2 := m_X6_failed) (cv := q_cI) dX6_next_231 234 rfl (k_X6_failed l G (u15.1 7 0 2)  u15) wd_85 wv_X6_failed pk_X6_failed rfl rfl ⟨by decide, by decide⟩ ⟨Nat.zero_le _, Nat.zero_le _⟩ at_7 (ok_7 (by decide)) rfl rfl rfl (Nat.le_of_ble_eq_true rfl) (fun x19 u27 => ?_)
                      show qAW l G m_X6_next (q_mq G q_cI) 234 [(0, .ref (q_ad G 7 0)), (1, .int x1), (2, .int x3), (3, .int x10)] [.int x19] u27 _
                      refine aw_ck (fun h25 => ?_)
                      exact aw_zret dX6_next_234 rfl h25
                · refine aw_aload_n (i := 0) dX6_next_158 159 rfl rfl 0 rfl ?_
                  refine aw_aload_n (i := 0) dX6_next_159 160 rfl rfl 0 rfl ?_
                  refine gf_X6_2 dX6_next_160 163 rfl wd_77 (ok_7 (by decide)) ?_
                  refine aw_callV (M2 := m_X6_failed) (cv := q_cI) dX6_next_163 166 rfl (k_X6_failed l G (u10.1 7 0 2)  u10) wd_85 wv_X6_failed pk_X6_failed rfl rfl ⟨by decide, by decide⟩ ⟨Nat.zero_le _, Nat.zero_le _⟩ at_7 (ok_7 (by decide)) rfl rfl rfl (Nat.le_of_ble_eq_true rfl) (fun x20 u28 => ?_)
                  show qAW l G m_X6_next (q_mq G q_cI) 166 [(0, .ref (q_ad G 7 0)), (1, .int x1), (2, .int x3)] [.int x20] u28 _
                  refine aw_ck (fun h26 => ?_)
                  exact aw_zret dX6_next_166 rfl h26
              · intro j3 hj3
                refine aw_if_eq dX6_next_138 141 rfl 151 rfl (fun h11 => ?_) (fun h11 => ?_)
                · exact aw_conv [1, 2, 0] rfl (hj3 u8)
                · refine aw_aload_n (i := 0) dX6_next_141 142 rfl rfl 1 rfl ?_
                  refine aw_dup dX6_next_142 143 rfl rfl ?_
                  refine gf_X6_2 dX6_next_143 146 rfl wd_77 (ok_7 (by decide)) ?_
                  refine aw_iconst (x := 1) dX6_next_146 147 rfl rfl ?_
                  refine aw_iadd dX6_next_147 148 rfl ?_
                  refine pf_X6_2 dX6_next_148 151 rfl wd_77 (ok_7 (by decide)) ?_
                  refine aw_ltm (fun u29 => ?_)
                  exact aw_conv [1, 2, 0] rfl (hj3 u29)
            · intro j2 hj2
              refine aw_jn (fun k => ∀  (u30 : qM), qAW l G m_X6_next (q_mq G q_cI) 135 [(0, .ref (q_ad G 7 0)), (1, .int x1)] [] u30 (k u30)) ?_ ?_
              · intro u30
                refine aw_iconst (x := 0) dX6_next_135 136 rfl rfl ?_
                exact hj2 0 u30
              · intro j8 hj8
                refine aw_icmp_ge dX6_next_114 117 rfl 135 rfl (fun h10 => ?_) (fun h10 => ?_)
                · exact aw_conv [1, 0] rfl (hj8 u7)
                · refine aw_aload_n (i := 0) dX6_next_117 118 rfl rfl 1 rfl ?_
                  refine gf_X6_0 dX6_next_118 121 rfl wd_75 (ok_7 (by decide)) ?_
                  refine aw_ck (fun h27 => ?_)
                  refine aw_aload_n (i := 0) dX6_next_121 122 rfl rfl 1 rfl ?_
                  refine gf_X6_2 dX6_next_122 125 rfl wd_77 (ok_7 (by decide)) ?_
                  refine aw_iald dX6_next_125 126 rfl (q_ia_at h27) rfl (q_ia_ok h27) (fun h28 => ?_)
                  refine aw_bipush (x := 45) dX6_next_126 128 rfl rfl ?_
                  refine aw_icmp_ne dX6_next_128 131 rfl 135 rfl (fun h29 => ?_) (fun h29 => ?_)
                  · exact aw_conv [1, 0] rfl (hj8 u7)
                  · refine aw_iconst (x := 1) dX6_next_131 132 rfl rfl ?_
                    refine aw_goto dX6_next_132 136 rfl ?_
                    exact aw_conv [1, 0] rfl (hj2 1 u7)
          · refine aw_aload_n (i := 0) dX6_next_87 88 rfl rfl 1 rfl ?_
            refine aw_aload_n (i := 0) dX6_next_88 89 rfl rfl 1 rfl ?_
            refine gf_X6_2 dX6_next_89 92 rfl wd_77 (ok_7 (by decide)) ?_
            refine aw_callV (M2 := m_X6_failed) (cv := q_cI) dX6_next_92 95 rfl (k_X6_failed l G (u6.1 7 0 2)  u6) wd_85 wv_X6_failed pk_X6_failed rfl rfl ⟨by decide, by decide⟩ ⟨Nat.zero_le _, Nat.zero_le _⟩ at_7 (ok_7 (by decide)) rfl rfl rfl (Nat.le_of_ble_eq_true rfl) (fun x21 u31 => ?_)
            show qAW l G m_X6_next (q_mq G q_cI) 95 [(1, .int x1), (0, .ref (q_ad G 7 0))] [.int x21] u31 _
            refine aw_ck (fun h30 => ?_)
            exact aw_zret dX6_next_95 rfl h30
        · exact aw_conv [] rfl (hj1 u3)
