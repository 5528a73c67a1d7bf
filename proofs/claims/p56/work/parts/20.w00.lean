theorem dX3_reset_0 : decode cX3_reset 0 = .ok (.aload_n 0, 1) := by decide +kernel
theorem dX3_reset_1 : decode cX3_reset 1 = .ok (.iconst 4, 1) := by decide +kernel
theorem dX3_reset_2 : decode cX3_reset 2 = .ok (.putfield 7, 3) := by decide +kernel
theorem dX3_reset_5 : decode cX3_reset 5 = .ok (.aload_n 0, 1) := by decide +kernel
theorem dX3_reset_6 : decode cX3_reset 6 = .ok (.bipush 10, 2) := by decide +kernel
theorem dX3_reset_8 : decode cX3_reset 8 = .ok (.putfield 13, 3) := by decide +kernel
theorem dX3_reset_11 : decode cX3_reset 11 = .ok (.aload_n 0, 1) := by decide +kernel
theorem dX3_reset_12 : decode cX3_reset 12 = .ok (.iconst 0, 1) := by decide +kernel
theorem dX3_reset_13 : decode cX3_reset 13 = .ok (.putfield 16, 3) := by decide +kernel
theorem dX3_reset_16 : decode cX3_reset 16 = .ok (.aload_n 0, 1) := by decide +kernel
theorem dX3_reset_17 : decode cX3_reset 17 = .ok (.iconst 0, 1) := by decide +kernel
theorem dX3_reset_18 : decode cX3_reset 18 = .ok (.putfield 19, 3) := by decide +kernel
theorem dX3_reset_21 : decode cX3_reset 21 = .ok (.return_, 1) := by decide +kernel
noncomputable def f_X3_reset (o1 : Nat) (u0 : qM) : Option (Unit × qM) :=
  q_lt (q_si u0 3 o1 0 4) (fun (u1 : qM) => q_lt (q_si u1 3 o1 1 10) (fun (u2 : qM) => q_lt (q_si u2 3 o1 2 0) (fun (u3 : qM) => q_lt (q_si u3 3 o1 3 0) (fun (u4 : qM) => some ((), u4)))))
set_option maxRecDepth 100000 in
set_option maxHeartbeats 4000000 in
theorem k_X3_reset (l : Launch) (G : qG) (o1 : Nat) (ho1 : o1 < 7) (u0 : qM) : qCt l G m_X3_reset q_cU [.ref (q_ad G 3 o1)] u0 (f_X3_reset o1 u0) := by
  refine q_entry pk_X3_reset (Nat.le_of_ble_eq_true rfl) ?_
  show qAW l G m_X3_reset (q_mq G q_cU) 0 [(0, .ref (q_ad G 3 o1))] [] u0 (f_X3_reset o1 u0)
  unfold f_X3_reset
  refine aw_aload_n (i := 0) dX3_reset_0 1 rfl rfl 0 rfl ?_
  refine aw_iconst (x := 4) dX3_reset_1 2 rfl rfl ?_
  refine pf_X3_0 dX3_reset_2 5 rfl wd_0 (ok_3 ho1) ?_
  refine aw_ltm (fun u1 => ?_)
  refine aw_aload_n (i := 0) dX3_reset_5 6 rfl rfl 0 rfl ?_
  refine aw_bipush (x := 10) dX3_reset_6 8 rfl rfl ?_
  refine pf_X3_1 dX3_reset_8 11 rfl wd_1 (ok_3 ho1) ?_
  refine aw_ltm (fun u2 => ?_)
  refine aw_aload_n (i := 0) dX3_reset_11 12 rfl rfl 0 rfl ?_
  refine aw_iconst (x := 0) dX3_reset_12 13 rfl rfl ?_
  refine pf_X3_2 dX3_reset_13 16 rfl wd_2 (ok_3 ho1) ?_
  refine aw_ltm (fun u3 => ?_)
  refine aw_aload_n (i := 0) dX3_reset_16 17 rfl rfl 0 rfl ?_
  refine aw_iconst (x := 0) dX3_reset_17 18 rfl rfl ?_
  refine pf_X3_3 dX3_reset_18 21 rfl wd_3 (ok_3 ho1) ?_
  refine aw_ltm (fun u4 => ?_)
  exact aw_vret dX3_reset_21 rfl
theorem dX0_reset_0 : decode cX0_reset 0 = .ok (.aload_n 0, 1) := by decide +kernel
theorem dX0_reset_1 : decode cX0_reset 1 = .ok (.iconst 1, 1) := by decide +kernel
theorem dX0_reset_2 : decode cX0_reset 2 = .ok (.putfield 62, 3) := by decide +kernel
theorem dX0_reset_5 : decode cX0_reset 5 = .ok (.aload_n 0, 1) := by decide +kernel
theorem dX0_reset_6 : decode cX0_reset 6 = .ok (.iload_n 1, 1) := by decide +kernel
theorem dX0_reset_7 : decode cX0_reset 7 = .ok (.putfield 66, 3) := by decide +kernel
theorem dX0_reset_10 : decode cX0_reset 10 = .ok (.aload_n 0, 1) := by decide +kernel
theorem dX0_reset_11 : decode cX0_reset 11 = .ok (.iload_n 2, 1) := by decide +kernel
theorem dX0_reset_12 : decode cX0_reset 12 = .ok (.putfield 52, 3) := by decide +kernel
theorem dX0_reset_15 : decode cX0_reset 15 = .ok (.aload_n 0, 1) := by decide +kernel
theorem dX0_reset_16 : decode cX0_reset 16 = .ok (.iload_n 3, 1) := by decide +kernel
theorem dX0_reset_17 : decode cX0_reset 17 = .ok (.putfield 56, 3) := by decide +kernel
theorem dX0_reset_20 : decode cX0_reset 20 = .ok (.aload_n 0, 1) := by decide +kernel
theorem dX0_reset_21 : decode cX0_reset 21 = .ok (.iconst 0, 1) := by decide +kernel
theorem dX0_reset_22 : decode cX0_reset 22 = .ok (.putfield 69, 3) := by decide +kernel
theorem dX0_reset_25 : decode cX0_reset 25 = .ok (.aload_n 0, 1) := by decide +kernel
theorem dX0_reset_26 : decode cX0_reset 26 = .ok (.iconst 0, 1) := by decide +kernel
theorem dX0_reset_27 : decode cX0_reset 27 = .ok (.putfield 72, 3) := by decide +kernel
theorem dX0_reset_30 : decode cX0_reset 30 = .ok (.aload_n 0, 1) := by decide +kernel
theorem dX0_reset_31 : decode cX0_reset 31 = .ok (.iconst 0, 1) := by decide +kernel
theorem dX0_reset_32 : decode cX0_reset 32 = .ok (.putfield 75, 3) := by decide +kernel
theorem dX0_reset_35 : decode cX0_reset 35 = .ok (.aload_n 0, 1) := by decide +kernel
theorem dX0_reset_36 : decode cX0_reset 36 = .ok (.bipush (-9), 2) := by decide +kernel
theorem dX0_reset_38 : decode cX0_reset 38 = .ok (.putfield 59, 3) := by decide +kernel
theorem dX0_reset_41 : decode cX0_reset 41 = .ok (.aload_n 0, 1) := by decide +kernel
theorem dX0_reset_42 : decode cX0_reset 42 = .ok (.iconst 0, 1) := by decide +kernel
theorem dX0_reset_43 : decode cX0_reset 43 = .ok (.putfield 78, 3) := by decide +kernel
theorem dX0_reset_46 : decode cX0_reset 46 = .ok (.aload_n 0, 1) := by decide +kernel
theorem dX0_reset_47 : decode cX0_reset 47 = .ok (.iconst 0, 1) := by decide +kernel
theorem dX0_reset_48 : decode cX0_reset 48 = .ok (.putfield 81, 3) := by decide +kernel
theorem dX0_reset_51 : decode cX0_reset 51 = .ok (.aload_n 0, 1) := by decide +kernel
theorem dX0_reset_52 : decode cX0_reset 52 = .ok (.getfield 38, 3) := by decide +kernel
theorem dX0_reset_55 : decode cX0_reset 55 = .ok (.iconst 0, 1) := by decide +kernel
theorem dX0_reset_56 : decode cX0_reset 56 = .ok (.putfield 84, 3) := by decide +kernel
theorem dX0_reset_59 : decode cX0_reset 59 = .ok (.aload_n 0, 1) := by decide +kernel
theorem dX0_reset_60 : decode cX0_reset 60 = .ok (.getfield 31, 3) := by decide +kernel
theorem dX0_reset_63 : decode cX0_reset 63 = .ok (.invokevirtual 87, 3) := by decide +kernel
theorem dX0_reset_66 : decode cX0_reset 66 = .ok (.aload_n 0, 1) := by decide +kernel
theorem dX0_reset_67 : decode cX0_reset 67 = .ok (.getfield 45, 3) := by decide +kernel
theorem dX0_reset_70 : decode cX0_reset 70 = .ok (.bipush (-9), 2) := by decide +kernel
theorem dX0_reset_72 : decode cX0_reset 72 = .ok (.putfield 90, 3) := by decide +kernel
theorem dX0_reset_75 : decode cX0_reset 75 = .ok (.iconst 0, 1) := by decide +kernel
theorem dX0_reset_76 : decode cX0_reset 76 = .ok (.istore 4, 2) := by decide +kernel
theorem dX0_reset_78 : decode cX0_reset 78 = .ok (.iload 4, 2) := by decide +kernel
theorem dX0_reset_80 : decode cX0_reset 80 = .ok (.bipush 48, 2) := by decide +kernel
theorem dX0_reset_82 : decode cX0_reset 82 = .ok (.if_icmp .ge 25, 3) := by decide +kernel
theorem dX0_reset_85 : decode cX0_reset 85 = .ok (.aload_n 0, 1) := by decide +kernel
theorem dX0_reset_86 : decode cX0_reset 86 = .ok (.getfield 9, 3) := by decide +kernel
theorem dX0_reset_89 : decode cX0_reset 89 = .ok (.iload 4, 2) := by decide +kernel
theorem dX0_reset_91 : decode cX0_reset 91 = .ok (.iconst 0, 1) := by decide +kernel
theorem dX0_reset_92 : decode cX0_reset 92 = .ok (.iastore, 1) := by decide +kernel
theorem dX0_reset_93 : decode cX0_reset 93 = .ok (.aload_n 0, 1) := by decide +kernel
theorem dX0_reset_94 : decode cX0_reset 94 = .ok (.getfield 15, 3) := by decide +kernel
theorem dX0_reset_97 : decode cX0_reset 97 = .ok (.iload 4, 2) := by decide +kernel
theorem dX0_reset_99 : decode cX0_reset 99 = .ok (.iconst 0, 1) := by decide +kernel
theorem dX0_reset_100 : decode cX0_reset 100 = .ok (.iastore, 1) := by decide +kernel
theorem dX0_reset_101 : decode cX0_reset 101 = .ok (.iinc 4 1, 3) := by decide +kernel
theorem dX0_reset_104 : decode cX0_reset 104 = .ok (.goto (-26), 3) := by decide +kernel
theorem dX0_reset_107 : decode cX0_reset 107 = .ok (.iconst 0, 1) := by decide +kernel
theorem dX0_reset_108 : decode cX0_reset 108 = .ok (.istore 4, 2) := by decide +kernel
theorem dX0_reset_110 : decode cX0_reset 110 = .ok (.iload 4, 2) := by decide +kernel
theorem dX0_reset_112 : decode cX0_reset 112 = .ok (.sipush 144, 3) := by decide +kernel
theorem dX0_reset_115 : decode cX0_reset 115 = .ok (.if_icmp .ge 17, 3) := by decide +kernel
theorem dX0_reset_118 : decode cX0_reset 118 = .ok (.aload_n 0, 1) := by decide +kernel
theorem dX0_reset_119 : decode cX0_reset 119 = .ok (.getfield 18, 3) := by decide +kernel
theorem dX0_reset_122 : decode cX0_reset 122 = .ok (.iload 4, 2) := by decide +kernel
theorem dX0_reset_124 : decode cX0_reset 124 = .ok (.iconst 0, 1) := by decide +kernel
theorem dX0_reset_125 : decode cX0_reset 125 = .ok (.iastore, 1) := by decide +kernel
theorem dX0_reset_126 : decode cX0_reset 126 = .ok (.iinc 4 1, 3) := by decide +kernel
theorem dX0_reset_129 : decode cX0_reset 129 = .ok (.goto (-19), 3) := by decide +kernel
theorem dX0_reset_132 : decode cX0_reset 132 = .ok (.iconst 0, 1) := by decide +kernel
theorem dX0_reset_133 : decode cX0_reset 133 = .ok (.istore 4, 2) := by decide +kernel
theorem dX0_reset_135 : decode cX0_reset 135 = .ok (.iload 4, 2) := by decide +kernel
theorem dX0_reset_137 : decode cX0_reset 137 = .ok (.bipush 96, 2) := by decide +kernel
theorem dX0_reset_139 : decode cX0_reset 139 = .ok (.if_icmp .ge 25, 3) := by decide +kernel
theorem dX0_reset_142 : decode cX0_reset 142 = .ok (.aload_n 0, 1) := by decide +kernel
theorem dX0_reset_143 : decode cX0_reset 143 = .ok (.getfield 21, 3) := by decide +kernel
theorem dX0_reset_146 : decode cX0_reset 146 = .ok (.iload 4, 2) := by decide +kernel
theorem dX0_reset_148 : decode cX0_reset 148 = .ok (.iconst 0, 1) := by decide +kernel
theorem dX0_reset_149 : decode cX0_reset 149 = .ok (.iastore, 1) := by decide +kernel
theorem dX0_reset_150 : decode cX0_reset 150 = .ok (.aload_n 0, 1) := by decide +kernel
theorem dX0_reset_151 : decode cX0_reset 151 = .ok (.getfield 24, 3) := by decide +kernel
theorem dX0_reset_154 : decode cX0_reset 154 = .ok (.iload 4, 2) := by decide +kernel
theorem dX0_reset_156 : decode cX0_reset 156 = .ok (.iconst 0, 1) := by decide +kernel
theorem dX0_reset_157 : decode cX0_reset 157 = .ok (.bastore, 1) := by decide +kernel
theorem dX0_reset_158 : decode cX0_reset 158 = .ok (.iinc 4 1, 3) := by decide +kernel
theorem dX0_reset_161 : decode cX0_reset 161 = .ok (.goto (-26), 3) := by decide +kernel
theorem dX0_reset_164 : decode cX0_reset 164 = .ok (.return_, 1) := by decide +kernel
noncomputable def L_X0_reset_78 (o1 : Nat) : Nat → Int32 → qM → (qM → Option (Unit × qM)) → Option (Unit × qM)
  | 0, _, _, _ => none
  | n + 1, x4, u14, e1 => if 48 ≤ x4 then e1 u14 else q_ck (q_in x4 48) (q_lt (q_si u14 37 o1 (Int32.toNatClampNeg x4) 0) (fun (u15 : qM) => q_ck (q_in x4 48) (q_lt (q_si u15 38 o1 (Int32.toNatClampNeg x4) 0) (fun (u16 : qM) => q_lt (x4 + 1) (fun (x5 : Int32) => L_X0_reset_78 o1 n x5 u16 e1)))))
noncomputable def L_X0_reset_110 (o1 : Nat) : Nat → Int32 → qM → (qM → Option (Unit × qM)) → Option (Unit × qM)
  | 0, _, _, _ => none
  | n + 1, x6, u18, e1 => if 144 ≤ x6 then e1 u18 else q_ck (q_in x6 144) (q_lt (q_si u18 39 o1 (Int32.toNatClampNeg x6) 0) (fun (u19 : qM) => q_lt (x6 + 1) (fun (x7 : Int32) => L_X0_reset_110 o1 n x7 u19 e1)))
noncomputable def L_X0_reset_135 (o1 : Nat) : Nat → Int32 → qM → (qM → Option (Unit × qM)) → Option (Unit × qM)
  | 0, _, _, _ => none
  | n + 1, x8, u21, e1 => if 96 ≤ x8 then e1 u21 else q_ck (q_in x8 96) (q_lt (q_si u21 40 o1 (Int32.toNatClampNeg x8) 0) (fun (u22 : qM) => q_ck (q_in x8 96) (q_lt (q_si u22 41 o1 (Int32.toNatClampNeg x8) (vp_nar .boolean 0)) (fun (u23 : qM) => q_lt (x8 + 1) (fun (x9 : Int32) => L_X0_reset_135 o1 n x9 u23 e1)))))
noncomputable def f_X0_reset (o1 : Nat) (x1 : Int32) (x2 : Int32) (x3 : Int32) (u0 : qM) : Option (Unit × qM) :=
  q_lt (q_si u0 2 o1 10 1) (fun (u1 : qM) => q_lt (q_si u1 2 o1 11 x1) (fun (u2 : qM) => q_lt (q_si u2 2 o1 12 x2) (fun (u3 : qM) => q_lt (q_si u3 2 o1 13 x3) (fun (u4 : qM) => q_lt (q_si u4 2 o1 14 0) (fun (u5 : qM) => q_lt (q_si u5 2 o1 15 0) (fun (u6 : qM) => q_lt (q_si u6 2 o1 16 0) (fun (u7 : qM) => q_lt (q_si u7 2 o1 17 (-9)) (fun (u8 : qM) => q_lt (q_si u8 2 o1 18 0) (fun (u9 : qM) => q_lt (q_si u9 2 o1 9 0) (fun (u10 : qM) => q_lt (q_si u10 4 o1 2 0) (fun (u11 : qM) => q_bd (f_X3_reset o1 u11) (fun (_z : Unit) (u12 : qM) => q_lt (q_si u12 5 o1 2 (-9)) (fun (u13 : qM) => L_X0_reset_78 o1 q_fu 0 u13 (fun u17 => L_X0_reset_110 o1 q_fu 0 u17 (fun u20 => L_X0_reset_135 o1 q_fu 0 u20 (fun u24 => some ((), u24)))))))))))))))))
set_option maxRecDepth 100000 in
set_option maxHeartbeats 4000000 in
theorem TL_X0_reset_78 (l : Launch) (G : qG) (o1 : Nat) (q1 : o1 < 7) (e1 : qM → Option (Unit × qM)) (he1 : ∀  (v : qM), qAW l G m_X0_reset (q_mq G q_cU) 107 [(0, .ref (q_ad G 2 o1))] [] v (e1 v)) : ∀ (n : Nat) (x4 : Int32) (u14 : qM), qAW l G m_X0_reset (q_mq G q_cU) 78 [(0, .ref (q_ad G 2 o1)), (4, .int x4)] [] u14 (L_X0_reset_78 o1 n x4 u14 e1) := by
  intro n
  induction n with
  | zero => intros; exact aw_none
  | succ n ih =>
    intro x4 u14
    unfold L_X0_reset_78
    refine aw_iload (i := 4) dX0_reset_78 80 rfl 1 rfl ?_
    refine aw_bipush (x := 48) dX0_reset_80 82 rfl rfl ?_
    refine aw_icmp_ge dX0_reset_82 85 rfl 107 rfl (fun h1 => ?_) (fun h1 => ?_)
    · exact aw_conv [0] rfl (he1 u14)
    · refine aw_aload_n (i := 0) dX0_reset_85 86 rfl rfl 0 rfl ?_
      refine gf_X0_0 dX0_reset_86 89 rfl wd_18 (ok_2 q1) ?_
      refine aw_iload (i := 4) dX0_reset_89 91 rfl 1 rfl ?_
      refine aw_iconst (x := 0) dX0_reset_91 92 rfl rfl ?_
      refine aw_iast dX0_reset_92 93 rfl at_37 (al_37 _) (ok_37 q1) (fun h2 => ?_)
      refine aw_ltm (fun u15 => ?_)
      refine aw_aload_n (i := 0) dX0_reset_93 94 rfl rfl 0 rfl ?_
      refine gf_X0_1 dX0_reset_94 97 rfl wd_19 (ok_2 q1) ?_
      refine aw_iload (i := 4) dX0_reset_97 99 rfl 1 rfl ?_
      refine aw_iconst (x := 0) dX0_reset_99 100 rfl rfl ?_
      refine aw_iast dX0_reset_100 101 rfl at_38 (al_38 _) (ok_38 q1) (fun h3 => ?_)
      refine aw_ltm (fun u16 => ?_)
      refine aw_iincx (i := 4) dX0_reset_101 104 rfl 1 rfl 1 rfl (fun x5 => [(4, .int x5), (0, .ref (q_ad G 2 o1))]) (by decide) (fun _ => rfl) (fun x5 => ?_)
      refine aw_goto dX0_reset_104 78 rfl ?_
      exact aw_conv [1, 0] rfl (ih x5 u16)
set_option maxRecDepth 100000 in
set_option maxHeartbeats 4000000 in
theorem TL_X0_reset_110 (l : Launch) (G : qG) (o1 : Nat) (q2 : o1 < 7) (e1 : qM → Option (Unit × qM)) (he1 : ∀  (v : qM), qAW l G m_X0_reset (q_mq G q_cU) 132 [(0, .ref (q_ad G 2 o1))] [] v (e1 v)) : ∀ (n : Nat) (x6 : Int32) (u18 : qM), qAW l G m_X0_reset (q_mq G q_cU) 110 [(0, .ref (q_ad G 2 o1)), (4, .int x6)] [] u18 (L_X0_reset_110 o1 n x6 u18 e1) := by
  intro n
  induction n with
  | zero => intros; exact aw_none
  | succ n ih =>
    intro x6 u18
    unfold L_X0_reset_110
    refine aw_iload (i := 4) dX0_reset_110 112 rfl 1 rfl ?_
    refine aw_sipush (x := 144) dX0_reset_112 115 rfl rfl ?_
    refine aw_icmp_ge dX0_reset_115 118 rfl 132 rfl (fun h4 => ?_) (fun h4 => ?_)
    · exact aw_conv [0] rfl (he1 u18)
    · refine aw_aload_n (i := 0) dX0_reset_118 119 rfl rfl 0 rfl ?_
      refine gf_X0_2 dX0_reset_119 122 rfl wd_20 (ok_2 q2) ?_
      refine aw_iload (i := 4) dX0_reset_122 124 rfl 1 rfl ?_
      refine aw_iconst (x := 0) dX0_reset_124 125 rfl rfl ?_
      refine aw_iast dX0_reset_125 126 rfl at_39 (al_39 _) (ok_39 q2) (fun h5 => ?_)
      refine aw_ltm (fun u19 => ?_)
      refine aw_iincx (i := 4) dX0_reset_126 129 rfl 1 rfl 1 rfl (fun x7 => [(4, .int x7), (0, .ref (q_ad G 2 o1))]) (by decide) (fun _ => rfl) (fun x7 => ?_)
      refine aw_goto dX0_reset_129 110 rfl ?_
      exact aw_conv [1, 0] rfl (ih x7 u19)
set_option maxRecDepth 100000 in
set_option maxHeartbeats 4000000 in
theorem TL_X0_reset_135 (l : Launch) (G : qG) (o1 : Nat) (q3 : o1 < 7) (e1 : qM → Option (Unit × qM)) (he1 : ∀  (v : qM), qAW l G m_X0_reset (q_mq G q_cU) 164 [] [] v (e1 v)) : ∀ (n : Nat) (x8 : Int32) (u21 : qM), qAW l G m_X0_reset (q_mq G q_cU) 135 [(0, .ref (q_ad G 2 o1)), (4, .int x8)] [] u21 (L_X0_reset_135 o1 n x8 u21 e1) := by
  intro n
  induction n with
  | zero => intros; exact aw_none
  | succ n ih =>
    intro x8 u21
    unfold L_X0_reset_135
    refine aw_iload (i := 4) dX0_reset_135 137 rfl 1 rfl ?_
    refine aw_bipush (x := 96) dX0_reset_137 139 rfl rfl ?_
    refine aw_icmp_ge dX0_reset_139 142 rfl 164 rfl (fun h6 => ?_) (fun h6 => ?_)
    · exact aw_conv [] rfl (he1 u21)
    · refine aw_aload_n (i := 0) dX0_reset_142 143 rfl rfl 0 rfl ?_
      refine gf_X0_3 dX0_reset_143 146 rfl wd_21 (ok_2 q3) ?_
      refine aw_iload (i := 4) dX0_reset_146 148 rfl 1 rfl ?_
      refine aw_iconst (x := 0) dX0_reset_148 149 rfl rfl ?_
      refine aw_iast dX0_reset_149 150 rfl at_40 (al_40 _) (ok_40 q3) (fun h7 => ?_)
      refine aw_ltm (fun u22 => ?_)
      refine aw_aload_n (i := 0) dX0_reset_150 151 rfl rfl 0 rfl ?_
      refine gf_X0_4 dX0_reset_151 154 rfl wd_22 (ok_2 q3) ?_
      refine aw_iload (i := 4) dX0_reset_154 156 rfl 1 rfl ?_
      refine aw_iconst (x := 0) dX0_reset_156 157 rfl rfl ?_
      refine aw_zast dX0_reset_157 158 rfl at_41 (al_41 _) (ok_41 q3) (fun h8 => ?_)
      refine aw_ltm (fun u23 => ?_)
      refine aw_iincx (i := 4) dX0_reset_158 161 rfl 1 rfl 1 rfl (fun x9 => [(4, .int x9), (0, .ref (q_ad G 2 o1))]) (by decide) (fun _ => rfl) (fun x9 => ?_)
      refine aw_goto dX0_reset_161 135 rfl ?_
      exact aw_conv [1, 0] rfl (ih x9 u23)
set_option maxRecDepth 100000 in
set_option maxHeartbeats 4000000 in
theorem k_X0_reset (l : Launch) (G : qG) (o1 : Nat) (x1 : Int32) (x2 : Int32) (x3 : Int32) (ho1 : o1 < 7) (u0 : qM) : qCt l G m_X0_reset q_cU [.ref (q_ad G 2 o1), .int x1, .int x2, .int x3] u0 (f_X0_reset o1 x1 x2 x3 u0) := by
  refine q_entry pk_X0_reset (Nat.le_of_ble_eq_true rfl) ?_
  show qAW l G m_X0_reset (q_mq G q_cU) 0 [(0, .ref (q_ad G 2 o1)), (1, .int x1), (2, .int x2), (3, .int x3)] [] u0 (f_X0_reset o1 x1 x2 x3 u0)
  unfold f_X0_reset
  refine aw_aload_n (i := 0) dX0_reset_0 1 rfl rfl 0 rfl ?_
  refine aw_iconst (x := 1) dX0_reset_1 2 rfl rfl ?_
  refine pf_X0_10 dX0_reset_2 5 rfl wd_4 (ok_2 ho1) (by decide) ?_
  refine aw_ltm (fun u1 => ?_)
  refine aw_aload_n (i := 0) dX0_reset_5 6 rfl rfl 0 rfl ?_
  refine aw_iload_n (i := 1) dX0_reset_6 7 rfl rfl 1 rfl ?_
  refine pf_X0_11 dX0_reset_7 10 rfl wd_5 (ok_2 ho1) ?_
  refine aw_ltm (fun u2 => ?_)
  refine aw_aload_n (i := 0) dX0_reset_10 11 rfl rfl 0 rfl ?_
  refine aw_iload_n (i := 2) dX0_reset_11 12 rfl rfl 2 rfl ?_
  refine pf_X0_12 dX0_reset_12 15 rfl wd_6 (ok_2 ho1) ?_
  refine aw_ltm (fun u3 => ?_)
  refine aw_aload_n (i := 0) dX0_reset_15 16 rfl rfl 0 rfl ?_
  refine aw_iload_n (i := 3) dX0_reset_16 17 rfl rfl 3 rfl ?_
  refine pf_X0_13 dX0_reset_17 20 rfl wd_7 (ok_2 ho1) ?_
  refine aw_ltm (fun u4 => ?_)
  refine aw_aload_n (i := 0) dX0_reset_20 21 rfl rfl 0 rfl ?_
  refine aw_iconst (x := 0) dX0_reset_21 22 rfl rfl ?_
  refine pf_X0_14 dX0_reset_22 25 rfl wd_8 (ok_2 ho1) ?_
  refine aw_ltm (fun u5 => ?_)
  refine aw_aload_n (i := 0) dX0_reset_25 26 rfl rfl 0 rfl ?_
  refine aw_iconst (x := 0) dX0_reset_26 27 rfl rfl ?_
  refine pf_X0_15 dX0_reset_27 30 rfl wd_9 (ok_2 ho1) ?_
  refine aw_ltm (fun u6 => ?_)
  refine aw_aload_n (i := 0) dX0_reset_30 31 rfl rfl 0 rfl ?_
  refine aw_iconst (x := 0) dX0_reset_31 32 rfl rfl ?_
  refine pf_X0_16 dX0_reset_32 35 rfl wd_10 (ok_2 ho1) ?_
  refine aw_ltm (fun u7 => ?_)
  refine aw_aload_n (i := 0) dX0_reset_35 36 rfl rfl 0 rfl ?_
  refine aw_bipush (x := (-9)) dX0_reset_36 38 rfl rfl ?_
  refine pf_X0_17 dX0_reset_38 41 rfl wd_11 (ok_2 ho1) ?_
  refine aw_ltm (fun u8 => ?_)
  refine aw_aload_n (i := 0) dX0_reset_41 42 rfl rfl 0 rfl ?_
  refine aw_iconst (x := 0) dX0_reset_42 43 rfl rfl ?_
  refine pf_X0_18 dX0_reset_43 46 rfl wd_12 (ok_2 ho1) ?_
  refine aw_ltm (fun u9 => ?_)
  refine aw_aload_n (i := 0) dX0_reset_46 47 rfl rfl 0 rfl ?_
  refine aw_iconst (x := 0) dX0_reset_47 48 rfl rfl ?_
  refine pf_X0_9 dX0_reset_48 51 rfl wd_13 (ok_2 ho1) ?_
  refine aw_ltm (fun u10 => ?_)
  refine aw_aload_n (i := 0) dX0_reset_51 52 rfl rfl 0 rfl ?_
  refine gf_X0_6 dX0_reset_52 55 rfl wd_14 (ok_2 ho1) ?_
  refine aw_iconst (x := 0) dX0_reset_55 56 rfl rfl ?_
  refine pfN_X5_2 dX0_reset_56 59 rfl "SeaCells" (ns_16) (ok_4 ho1) ?_
  refine aw_ltm (fun u11 => ?_)
  refine aw_aload_n (i := 0) dX0_reset_59 60 rfl rfl 0 rfl ?_
  refine gf_X0_5 dX0_reset_60 63 rfl wd_15 (ok_2 ho1) ?_
  refine aw_callV (M2 := m_X3_reset) (cv := q_cU) dX0_reset_63 66 rfl (k_X3_reset l G o1 ho1 u11) wd_16 wv_X3_reset pk_X3_reset rfl rfl ⟨by decide, by decide⟩ ⟨Nat.zero_le _, Nat.zero_le _⟩ at_3 (ok_3 ho1) rfl rfl rfl (Nat.le_of_ble_eq_true rfl) (fun _z u12 => ?_)
  show qAW l G m_X0_reset (q_mq G q_cU) 66 [(0, .ref (q_ad G 2 o1)), (1, .int x1), (2, .int x2), (3, .int x3)] [] u12 _
  refine aw_aload_n (i := 0) dX0_reset_66 67 rfl rfl 0 rfl ?_
  refine gf_X0_7 dX0_reset_67 70 rfl wd_17 (ok_2 ho1) ?_
  refine aw_bipush (x := (-9)) dX0_reset_70 72 rfl rfl ?_
  refine pfN_X4_2 dX0_reset_72 75 rfl "SeaCells" (ns_21) (ok_5 ho1) ?_
  refine aw_ltm (fun u13 => ?_)
  refine aw_iconst (x := 0) dX0_reset_75 76 rfl rfl ?_
  refine aw_istore dX0_reset_76 78 rfl [(4, .int 0), (0, .ref (q_ad G 2 o1)), (1, .int x1), (2, .int x2), (3, .int x3)] (by decide) rfl ?_
  refine aw_conv [1, 0] rfl (TL_X0_reset_78 l G o1 ho1 _ ?_ _ 0 u13)
  · intro u17
    refine aw_iconst (x := 0) dX0_reset_107 108 rfl rfl ?_
    refine aw_istore dX0_reset_108 110 rfl [(4, .int 0), (0, .ref (q_ad G 2 o1))] (by decide) rfl ?_
    refine aw_conv [1, 0] rfl (TL_X0_reset_110 l G o1 ho1 _ ?_ _ 0 u17)
    · intro u20
      refine aw_iconst (x := 0) dX0_reset_132 133 rfl rfl ?_
      refine aw_istore dX0_reset_133 135 rfl [(4, .int 0), (0, .ref (q_ad G 2 o1))] (by decide) rfl ?_
      refine aw_conv [1, 0] rfl (TL_X0_reset_135 l G o1 ho1 _ ?_ _ 0 u20)
      · intro u24
        exact aw_vret dX0_reset_164 rfl
theorem dX3_takeOver_0 : decode cX3_takeOver 0 = .ok (.aload_n 0, 1) := by decide +kernel
theorem dX3_takeOver_1 : decode cX3_takeOver 1 = .ok (.aload_n 1, 1) := by decide +kernel
theorem dX3_takeOver_2 : decode cX3_takeOver 2 = .ok (.getfield 7, 3) := by decide +kernel
theorem dX3_takeOver_5 : decode cX3_takeOver 5 = .ok (.putfield 7, 3) := by decide +kernel
theorem dX3_takeOver_8 : decode cX3_takeOver 8 = .ok (.aload_n 0, 1) := by decide +kernel
theorem dX3_takeOver_9 : decode cX3_takeOver 9 = .ok (.aload_n 1, 1) := by decide +kernel
theorem dX3_takeOver_10 : decode cX3_takeOver 10 = .ok (.getfield 13, 3) := by decide +kernel
theorem dX3_takeOver_13 : decode cX3_takeOver 13 = .ok (.putfield 13, 3) := by decide +kernel
theorem dX3_takeOver_16 : decode cX3_takeOver 16 = .ok (.aload_n 0, 1) := by decide +kernel
theorem dX3_takeOver_17 : decode cX3_takeOver 17 = .ok (.aload_n 1, 1) := by decide +kernel
theorem dX3_takeOver_18 : decode cX3_takeOver 18 = .ok (.getfield 16, 3) := by decide +kernel
theorem dX3_takeOver_21 : decode cX3_takeOver 21 = .ok (.putfield 16, 3) := by decide +kernel
theorem dX3_takeOver_24 : decode cX3_takeOver 24 = .ok (.aload_n 0, 1) := by decide +kernel
theorem dX3_takeOver_25 : decode cX3_takeOver 25 = .ok (.aload_n 1, 1) := by decide +kernel
theorem dX3_takeOver_26 : decode cX3_takeOver 26 = .ok (.getfield 19, 3) := by decide +kernel
theorem dX3_takeOver_29 : decode cX3_takeOver 29 = .ok (.putfield 19, 3) := by decide +kernel
theorem dX3_takeOver_32 : decode cX3_takeOver 32 = .ok (.return_, 1) := by decide +kernel
noncomputable def f_X3_takeOver (o1 : Nat) (o2 : Nat) (u0 : qM) : Option (Unit × qM) :=
  q_lt (q_si u0 3 o1 0 (u0.1 3 o2 0)) (fun (u1 : qM) => q_lt (q_si u1 3 o1 1 (u1.1 3 o2 1)) (fun (u2 : qM) => q_lt (q_si u2 3 o1 2 (u2.1 3 o2 2)) (fun (u3 : qM) => q_lt (q_si u3 3 o1 3 (u3.1 3 o2 3)) (fun (u4 : qM) => some ((), u4)))))
set_option maxRecDepth 100000 in
set_option maxHeartbeats 4000000 in
theorem k_X3_takeOver (l : Launch) (G : qG) (o1 : Nat) (o2 : Nat) (ho1 : o1 < 7) (ho2 : o2 < 7) (u0 : qM) : qCt l G m_X3_takeOver q_cU [.ref (q_ad G 3 o1), .ref (q_ad G 3 o2)] u0 (f_X3_takeOver o1 o2 u0) := by
  refine q_entry pk_X3_takeOver (Nat.le_of_ble_eq_true rfl) ?_
  show qAW l G m_X3_takeOver (q_mq G q_cU) 0 [(0, .ref (q_ad G 3 o1)), (1, .ref (q_ad G 3 o2))] [] u0 (f_X3_takeOver o1 o2 u0)
  unfold f_X3_takeOver
  refine aw_aload_n (i := 0) dX3_takeOver_0 1 rfl rfl 0 rfl ?_
  refine aw_aload_n (i := 1) dX3_takeOver_1 2 rfl rfl 1 rfl ?_
  refine gf_X3_0 dX3_takeOver_2 5 rfl wd_0 (ok_3 ho2) ?_
  refine pf_X3_0 dX3_takeOver_5 8 rfl wd_0 (ok_3 ho1) ?_
  refine aw_ltm (fun u1 => ?_)
  refine aw_aload_n (i := 0) dX3_takeOver_8 9 rfl rfl 0 rfl ?_
  refine aw_aload_n (i := 1) dX3_takeOver_9 10 rfl rfl 1 rfl ?_
  refine gf_X3_1 dX3_takeOver_10 13 rfl wd_1 (ok_3 ho2) ?_
  refine pf_X3_1 dX3_takeOver_13 16 rfl wd_1 (ok_3 ho1) ?_
  refine aw_ltm (fun u2 => ?_)
  refine aw_aload_n (i := 0) dX3_takeOver_16 17 rfl rfl 0 rfl ?_
  refine aw_aload_n (i := 1) dX3_takeOver_17 18 rfl rfl 1 rfl ?_
  refine gf_X3_2 dX3_takeOver_18 21 rfl wd_2 (ok_3 ho2) ?_
  refine pf_X3_2 dX3_takeOver_21 24 rfl wd_2 (ok_3 ho1) ?_
  refine aw_ltm (fun u3 => ?_)
  refine aw_aload_n (i := 0) dX3_takeOver_24 25 rfl rfl 0 rfl ?_
  refine aw_aload_n (i := 1) dX3_takeOver_25 26 rfl rfl 1 rfl ?_
  refine gf_X3_3 dX3_takeOver_26 29 rfl wd_3 (ok_3 ho2) ?_
  refine pf_X3_3 dX3_takeOver_29 32 rfl wd_3 (ok_3 ho1) ?_
  refine aw_ltm (fun u4 => ?_)
  exact aw_vret dX3_takeOver_32 rfl
theorem dX5_takeOver_0 : decode cX5_takeOver 0 = .ok (.aload_n 0, 1) := by decide +kernel
theorem dX5_takeOver_1 : decode cX5_takeOver 1 = .ok (.aload_n 1, 1) := by decide +kernel
theorem dX5_takeOver_2 : decode cX5_takeOver 2 = .ok (.getfield 18, 3) := by decide +kernel
theorem dX5_takeOver_5 : decode cX5_takeOver 5 = .ok (.putfield 18, 3) := by decide +kernel
theorem dX5_takeOver_8 : decode cX5_takeOver 8 = .ok (.iconst 0, 1) := by decide +kernel
theorem dX5_takeOver_9 : decode cX5_takeOver 9 = .ok (.istore_n 2, 1) := by decide +kernel
theorem dX5_takeOver_10 : decode cX5_takeOver 10 = .ok (.iload_n 2, 1) := by decide +kernel
theorem dX5_takeOver_11 : decode cX5_takeOver 11 = .ok (.iconst 4, 1) := by decide +kernel
theorem dX5_takeOver_12 : decode cX5_takeOver 12 = .ok (.if_icmp .ge 33, 3) := by decide +kernel
theorem dX5_takeOver_15 : decode cX5_takeOver 15 = .ok (.aload_n 0, 1) := by decide +kernel
theorem dX5_takeOver_16 : decode cX5_takeOver 16 = .ok (.getfield 9, 3) := by decide +kernel
theorem dX5_takeOver_19 : decode cX5_takeOver 19 = .ok (.iload_n 2, 1) := by decide +kernel
theorem dX5_takeOver_20 : decode cX5_takeOver 20 = .ok (.aload_n 1, 1) := by decide +kernel
theorem dX5_takeOver_21 : decode cX5_takeOver 21 = .ok (.getfield 9, 3) := by decide +kernel
theorem dX5_takeOver_24 : decode cX5_takeOver 24 = .ok (.iload_n 2, 1) := by decide +kernel
theorem dX5_takeOver_25 : decode cX5_takeOver 25 = .ok (.iaload, 1) := by decide +kernel
theorem dX5_takeOver_26 : decode cX5_takeOver 26 = .ok (.iastore, 1) := by decide +kernel
theorem dX5_takeOver_27 : decode cX5_takeOver 27 = .ok (.aload_n 0, 1) := by decide +kernel
theorem dX5_takeOver_28 : decode cX5_takeOver 28 = .ok (.getfield 15, 3) := by decide +kernel
theorem dX5_takeOver_31 : decode cX5_takeOver 31 = .ok (.iload_n 2, 1) := by decide +kernel
theorem dX5_takeOver_32 : decode cX5_takeOver 32 = .ok (.aload_n 1, 1) := by decide +kernel
theorem dX5_takeOver_33 : decode cX5_takeOver 33 = .ok (.getfield 15, 3) := by decide +kernel
theorem dX5_takeOver_36 : decode cX5_takeOver 36 = .ok (.iload_n 2, 1) := by decide +kernel
theorem dX5_takeOver_37 : decode cX5_takeOver 37 = .ok (.iaload, 1) := by decide +kernel
theorem dX5_takeOver_38 : decode cX5_takeOver 38 = .ok (.iastore, 1) := by decide +kernel
theorem dX5_takeOver_39 : decode cX5_takeOver 39 = .ok (.iinc 2 1, 3) := by decide +kernel
theorem dX5_takeOver_42 : decode cX5_takeOver 42 = .ok (.goto (-32), 3) := by decide +kernel
theorem dX5_takeOver_45 : decode cX5_takeOver 45 = .ok (.return_, 1) := by decide +kernel
noncomputable def L_X5_takeOver_10 (o1 : Nat) (o2 : Nat) : Nat → Int32 → qM → (qM → Option (Unit × qM)) → Option (Unit × qM)
  | 0, _, _, _ => none
  | n + 1, x1, u2, e1 => if 4 ≤ x1 then e1 u2 else q_ck (q_in x1 4) (q_ck (q_in x1 4) (q_lt (q_si u2 43 o1 (Int32.toNatClampNeg x1) (u2.1 43 o2 (Int32.toNatClampNeg x1))) (fun (u3 : qM) => q_ck (q_in x1 4) (q_ck (q_in x1 4) (q_lt (q_si u3 44 o1 (Int32.toNatClampNeg x1) (u3.1 44 o2 (Int32.toNatClampNeg x1))) (fun (u4 : qM) => q_lt (x1 + 1) (fun (x2 : Int32) => L_X5_takeOver_10 o1 o2 n x2 u4 e1)))))))
noncomputable def f_X5_takeOver (o1 : Nat) (o2 : Nat) (u0 : qM) : Option (Unit × qM) :=
  q_lt (q_si u0 4 o1 2 (u0.1 4 o2 2)) (fun (u1 : qM) => L_X5_takeOver_10 o1 o2 q_fu 0 u1 (fun u5 => some ((), u5)))
set_option maxRecDepth 100000 in
set_option maxHeartbeats 4000000 in
theorem TL_X5_takeOver_10 (l : Launch) (G : qG) (o1 : Nat) (o2 : Nat) (q1 : o1 < 7) (q2 : o2 < 7) (e1 : qM → Option (Unit × qM)) (he1 : ∀  (v : qM), qAW l G m_X5_takeOver (q_mq G q_cU) 45 [] [] v (e1 v)) : ∀ (n : Nat) (x1 : Int32) (u2 : qM), qAW l G m_X5_takeOver (q_mq G q_cU) 10 [(0, .ref (q_ad G 4 o1)), (1, .ref (q_ad G 4 o2)), (2, .int x1)] [] u2 (L_X5_takeOver_10 o1 o2 n x1 u2 e1) := by
  intro n
  induction n with
  | zero => intros; exact aw_none
  | succ n ih =>
    intro x1 u2
    unfold L_X5_takeOver_10
    refine aw_iload_n (i := 2) dX5_takeOver_10 11 rfl rfl 2 rfl ?_
    refine aw_iconst (x := 4) dX5_takeOver_11 12 rfl rfl ?_
    refine aw_icmp_ge dX5_takeOver_12 15 rfl 45 rfl (fun h1 => ?_) (fun h1 => ?_)
    · exact aw_conv [] rfl (he1 u2)
    · refine aw_aload_n (i := 0) dX5_takeOver_15 16 rfl rfl 0 rfl ?_
      refine gf_X5_0 dX5_takeOver_16 19 rfl wd_24 (ok_4 q1) ?_
      refine aw_iload_n (i := 2) dX5_takeOver_19 20 rfl rfl 2 rfl ?_
      refine aw_aload_n (i := 1) dX5_takeOver_20 21 rfl rfl 1 rfl ?_
      refine gf_X5_0 dX5_takeOver_21 24 rfl wd_24 (ok_4 q2) ?_
      refine aw_iload_n (i := 2) dX5_takeOver_24 25 rfl rfl 2 rfl ?_
      refine aw_iald dX5_takeOver_25 26 rfl at_43 (al_43 _) (ok_43 q2) (fun h2 => ?_)
      refine aw_iast dX5_takeOver_26 27 rfl at_43 (al_43 _) (ok_43 q1) (fun h3 => ?_)
      refine aw_ltm (fun u3 => ?_)
      refine aw_aload_n (i := 0) dX5_takeOver_27 28 rfl rfl 0 rfl ?_
      refine gf_X5_1 dX5_takeOver_28 31 rfl wd_25 (ok_4 q1) ?_
      refine aw_iload_n (i := 2) dX5_takeOver_31 32 rfl rfl 2 rfl ?_
      refine aw_aload_n (i := 1) dX5_takeOver_32 33 rfl rfl 1 rfl ?_
      refine gf_X5_1 dX5_takeOver_33 36 rfl wd_25 (ok_4 q2) ?_
      refine aw_iload_n (i := 2) dX5_takeOver_36 37 rfl rfl 2 rfl ?_
      refine aw_iald dX5_takeOver_37 38 rfl at_44 (al_44 _) (ok_44 q2) (fun h4 => ?_)
      refine aw_iast dX5_takeOver_38 39 rfl at_44 (al_44 _) (ok_44 q1) (fun h5 => ?_)
      refine aw_ltm (fun u4 => ?_)
      refine aw_iincx (i := 2) dX5_takeOver_39 42 rfl 2 rfl 1 rfl (fun x2 => [(2, .int x2), (0, .ref (q_ad G 4 o1)), (1, .ref (q_ad G 4 o2))]) (by decide) (fun _ => rfl) (fun x2 => ?_)
      refine aw_goto dX5_takeOver_42 10 rfl ?_
      exact aw_conv [1, 2, 0] rfl (ih x2 u4)
set_option maxRecDepth 100000 in
set_option maxHeartbeats 4000000 in
theorem k_X5_takeOver (l : Launch) (G : qG) (o1 : Nat) (o2 : Nat) (ho1 : o1 < 7) (ho2 : o2 < 7) (u0 : qM) : qCt l G m_X5_takeOver q_cU [.ref (q_ad G 4 o1), .ref (q_ad G 4 o2)] u0 (f_X5_takeOver o1 o2 u0) := by
  refine q_entry pk_X5_takeOver (Nat.le_of_ble_eq_true rfl) ?_
  show qAW l G m_X5_takeOver (q_mq G q_cU) 0 [(0, .ref (q_ad G 4 o1)), (1, .ref (q_ad G 4 o2))] [] u0 (f_X5_takeOver o1 o2 u0)
  unfold f_X5_takeOver
  refine aw_aload_n (i := 0) dX5_takeOver_0 1 rfl rfl 0 rfl ?_
  refine aw_aload_n (i := 1) dX5_takeOver_1 2 rfl rfl 1 rfl ?_
  refine gf_X5_2 dX5_takeOver_2 5 rfl wd_23 (ok_4 ho2) ?_
  refine pf_X5_2 dX5_takeOver_5 8 rfl wd_23 (ok_4 ho1) ?_
  refine aw_ltm (fun u1 => ?_)
  refine aw_iconst (x := 0) dX5_takeOver_8 9 rfl rfl ?_
  refine aw_istore_n dX5_takeOver_9 10 rfl rfl [(2, .int 0), (0, .ref (q_ad G 4 o1)), (1, .ref (q_ad G 4 o2))] (by decide) rfl ?_
  refine aw_conv [1, 2, 0] rfl (TL_X5_takeOver_10 l G o1 o2 ho1 ho2 _ ?_ _ 0 u1)
  · intro u5
    exact aw_vret dX5_takeOver_45 rfl
theorem dX0_takeOver_0 : decode cX0_takeOver 0 = .ok (.aload_n 0, 1) := by decide +kernel
theorem dX0_takeOver_1 : decode cX0_takeOver 1 = .ok (.aload_n 1, 1) := by decide +kernel
theorem dX0_takeOver_2 : decode cX0_takeOver 2 = .ok (.getfield 62, 3) := by decide +kernel
theorem dX0_takeOver_5 : decode cX0_takeOver 5 = .ok (.putfield 62, 3) := by decide +kernel
theorem dX0_takeOver_8 : decode cX0_takeOver 8 = .ok (.aload_n 0, 1) := by decide +kernel
theorem dX0_takeOver_9 : decode cX0_takeOver 9 = .ok (.aload_n 1, 1) := by decide +kernel
theorem dX0_takeOver_10 : decode cX0_takeOver 10 = .ok (.getfield 66, 3) := by decide +kernel
theorem dX0_takeOver_13 : decode cX0_takeOver 13 = .ok (.putfield 66, 3) := by decide +kernel
theorem dX0_takeOver_16 : decode cX0_takeOver 16 = .ok (.aload_n 0, 1) := by decide +kernel
theorem dX0_takeOver_17 : decode cX0_takeOver 17 = .ok (.aload_n 1, 1) := by decide +kernel
theorem dX0_takeOver_18 : decode cX0_takeOver 18 = .ok (.getfield 52, 3) := by decide +kernel
theorem dX0_takeOver_21 : decode cX0_takeOver 21 = .ok (.putfield 52, 3) := by decide +kernel
theorem dX0_takeOver_24 : decode cX0_takeOver 24 = .ok (.aload_n 0, 1) := by decide +kernel
theorem dX0_takeOver_25 : decode cX0_takeOver 25 = .ok (.aload_n 1, 1) := by decide +kernel
theorem dX0_takeOver_26 : decode cX0_takeOver 26 = .ok (.getfield 56, 3) := by decide +kernel
theorem dX0_takeOver_29 : decode cX0_takeOver 29 = .ok (.putfield 56, 3) := by decide +kernel
theorem dX0_takeOver_32 : decode cX0_takeOver 32 = .ok (.aload_n 0, 1) := by decide +kernel
theorem dX0_takeOver_33 : decode cX0_takeOver 33 = .ok (.aload_n 1, 1) := by decide +kernel
theorem dX0_takeOver_34 : decode cX0_takeOver 34 = .ok (.getfield 69, 3) := by decide +kernel
theorem dX0_takeOver_37 : decode cX0_takeOver 37 = .ok (.putfield 69, 3) := by decide +kernel
theorem dX0_takeOver_40 : decode cX0_takeOver 40 = .ok (.aload_n 0, 1) := by decide +kernel
theorem dX0_takeOver_41 : decode cX0_takeOver 41 = .ok (.aload_n 1, 1) := by decide +kernel
theorem dX0_takeOver_42 : decode cX0_takeOver 42 = .ok (.getfield 72, 3) := by decide +kernel
theorem dX0_takeOver_45 : decode cX0_takeOver 45 = .ok (.putfield 72, 3) := by decide +kernel
theorem dX0_takeOver_48 : decode cX0_takeOver 48 = .ok (.aload_n 0, 1) := by decide +kernel
theorem dX0_takeOver_49 : decode cX0_takeOver 49 = .ok (.aload_n 1, 1) := by decide +kernel
theorem dX0_takeOver_50 : decode cX0_takeOver 50 = .ok (.getfield 75, 3) := by decide +kernel
theorem dX0_takeOver_53 : decode cX0_takeOver 53 = .ok (.putfield 75, 3) := by decide +kernel
theorem dX0_takeOver_56 : decode cX0_takeOver 56 = .ok (.aload_n 0, 1) := by decide +kernel
theorem dX0_takeOver_57 : decode cX0_takeOver 57 = .ok (.aload_n 1, 1) := by decide +kernel
theorem dX0_takeOver_58 : decode cX0_takeOver 58 = .ok (.getfield 59, 3) := by decide +kernel
theorem dX0_takeOver_61 : decode cX0_takeOver 61 = .ok (.putfield 59, 3) := by decide +kernel
theorem dX0_takeOver_64 : decode cX0_takeOver 64 = .ok (.aload_n 0, 1) := by decide +kernel
theorem dX0_takeOver_65 : decode cX0_takeOver 65 = .ok (.aload_n 1, 1) := by decide +kernel
theorem dX0_takeOver_66 : decode cX0_takeOver 66 = .ok (.getfield 78, 3) := by decide +kernel
theorem dX0_takeOver_69 : decode cX0_takeOver 69 = .ok (.putfield 78, 3) := by decide +kernel
theorem dX0_takeOver_72 : decode cX0_takeOver 72 = .ok (.aload_n 0, 1) := by decide +kernel
theorem dX0_takeOver_73 : decode cX0_takeOver 73 = .ok (.aload_n 1, 1) := by decide +kernel
theorem dX0_takeOver_74 : decode cX0_takeOver 74 = .ok (.getfield 81, 3) := by decide +kernel
theorem dX0_takeOver_77 : decode cX0_takeOver 77 = .ok (.putfield 81, 3) := by decide +kernel
theorem dX0_takeOver_80 : decode cX0_takeOver 80 = .ok (.aload_n 0, 1) := by decide +kernel
theorem dX0_takeOver_81 : decode cX0_takeOver 81 = .ok (.getfield 38, 3) := by decide +kernel
theorem dX0_takeOver_84 : decode cX0_takeOver 84 = .ok (.aload_n 1, 1) := by decide +kernel
theorem dX0_takeOver_85 : decode cX0_takeOver 85 = .ok (.getfield 38, 3) := by decide +kernel
theorem dX0_takeOver_88 : decode cX0_takeOver 88 = .ok (.invokevirtual 93, 3) := by decide +kernel
theorem dX0_takeOver_91 : decode cX0_takeOver 91 = .ok (.aload_n 0, 1) := by decide +kernel
theorem dX0_takeOver_92 : decode cX0_takeOver 92 = .ok (.getfield 31, 3) := by decide +kernel
theorem dX0_takeOver_95 : decode cX0_takeOver 95 = .ok (.aload_n 1, 1) := by decide +kernel
theorem dX0_takeOver_96 : decode cX0_takeOver 96 = .ok (.getfield 31, 3) := by decide +kernel
theorem dX0_takeOver_99 : decode cX0_takeOver 99 = .ok (.invokevirtual 97, 3) := by decide +kernel
theorem dX0_takeOver_102 : decode cX0_takeOver 102 = .ok (.aload_n 0, 1) := by decide +kernel
theorem dX0_takeOver_103 : decode cX0_takeOver 103 = .ok (.getfield 45, 3) := by decide +kernel
theorem dX0_takeOver_106 : decode cX0_takeOver 106 = .ok (.bipush (-9), 2) := by decide +kernel
theorem dX0_takeOver_108 : decode cX0_takeOver 108 = .ok (.putfield 90, 3) := by decide +kernel
theorem dX0_takeOver_111 : decode cX0_takeOver 111 = .ok (.aload_n 1, 1) := by decide +kernel
theorem dX0_takeOver_112 : decode cX0_takeOver 112 = .ok (.getfield 9, 3) := by decide +kernel
theorem dX0_takeOver_115 : decode cX0_takeOver 115 = .ok (.iconst 0, 1) := by decide +kernel
theorem dX0_takeOver_116 : decode cX0_takeOver 116 = .ok (.aload_n 0, 1) := by decide +kernel
theorem dX0_takeOver_117 : decode cX0_takeOver 117 = .ok (.getfield 9, 3) := by decide +kernel
theorem dX0_takeOver_120 : decode cX0_takeOver 120 = .ok (.iconst 0, 1) := by decide +kernel
theorem dX0_takeOver_121 : decode cX0_takeOver 121 = .ok (.bipush 48, 2) := by decide +kernel
theorem dX0_takeOver_123 : decode cX0_takeOver 123 = .ok (.invokestatic 100, 3) := by decide +kernel
theorem dX0_takeOver_126 : decode cX0_takeOver 126 = .ok (.aload_n 1, 1) := by decide +kernel
theorem dX0_takeOver_127 : decode cX0_takeOver 127 = .ok (.getfield 15, 3) := by decide +kernel
theorem dX0_takeOver_130 : decode cX0_takeOver 130 = .ok (.iconst 0, 1) := by decide +kernel
theorem dX0_takeOver_131 : decode cX0_takeOver 131 = .ok (.aload_n 0, 1) := by decide +kernel
theorem dX0_takeOver_132 : decode cX0_takeOver 132 = .ok (.getfield 15, 3) := by decide +kernel
theorem dX0_takeOver_135 : decode cX0_takeOver 135 = .ok (.iconst 0, 1) := by decide +kernel
theorem dX0_takeOver_136 : decode cX0_takeOver 136 = .ok (.bipush 48, 2) := by decide +kernel
theorem dX0_takeOver_138 : decode cX0_takeOver 138 = .ok (.invokestatic 100, 3) := by decide +kernel
theorem dX0_takeOver_141 : decode cX0_takeOver 141 = .ok (.aload_n 1, 1) := by decide +kernel
theorem dX0_takeOver_142 : decode cX0_takeOver 142 = .ok (.getfield 18, 3) := by decide +kernel
theorem dX0_takeOver_145 : decode cX0_takeOver 145 = .ok (.iconst 0, 1) := by decide +kernel
theorem dX0_takeOver_146 : decode cX0_takeOver 146 = .ok (.aload_n 0, 1) := by decide +kernel
theorem dX0_takeOver_147 : decode cX0_takeOver 147 = .ok (.getfield 18, 3) := by decide +kernel
theorem dX0_takeOver_150 : decode cX0_takeOver 150 = .ok (.iconst 0, 1) := by decide +kernel
theorem dX0_takeOver_151 : decode cX0_takeOver 151 = .ok (.sipush 144, 3) := by decide +kernel
theorem dX0_takeOver_154 : decode cX0_takeOver 154 = .ok (.invokestatic 100, 3) := by decide +kernel
theorem dX0_takeOver_157 : decode cX0_takeOver 157 = .ok (.aload_n 1, 1) := by decide +kernel
theorem dX0_takeOver_158 : decode cX0_takeOver 158 = .ok (.getfield 21, 3) := by decide +kernel
theorem dX0_takeOver_161 : decode cX0_takeOver 161 = .ok (.iconst 0, 1) := by decide +kernel
theorem dX0_takeOver_162 : decode cX0_takeOver 162 = .ok (.aload_n 0, 1) := by decide +kernel
theorem dX0_takeOver_163 : decode cX0_takeOver 163 = .ok (.getfield 21, 3) := by decide +kernel
theorem dX0_takeOver_166 : decode cX0_takeOver 166 = .ok (.iconst 0, 1) := by decide +kernel
theorem dX0_takeOver_167 : decode cX0_takeOver 167 = .ok (.bipush 96, 2) := by decide +kernel
theorem dX0_takeOver_169 : decode cX0_takeOver 169 = .ok (.invokestatic 100, 3) := by decide +kernel
theorem dX0_takeOver_172 : decode cX0_takeOver 172 = .ok (.aload_n 1, 1) := by decide +kernel
theorem dX0_takeOver_173 : decode cX0_takeOver 173 = .ok (.getfield 49, 3) := by decide +kernel
theorem dX0_takeOver_176 : decode cX0_takeOver 176 = .ok (.iconst 0, 1) := by decide +kernel
theorem dX0_takeOver_177 : decode cX0_takeOver 177 = .ok (.aload_n 0, 1) := by decide +kernel
theorem dX0_takeOver_178 : decode cX0_takeOver 178 = .ok (.getfield 49, 3) := by decide +kernel
theorem dX0_takeOver_181 : decode cX0_takeOver 181 = .ok (.iconst 0, 1) := by decide +kernel
theorem dX0_takeOver_182 : decode cX0_takeOver 182 = .ok (.iconst 4, 1) := by decide +kernel
theorem dX0_takeOver_183 : decode cX0_takeOver 183 = .ok (.invokestatic 100, 3) := by decide +kernel
theorem dX0_takeOver_186 : decode cX0_takeOver 186 = .ok (.iconst 0, 1) := by decide +kernel
theorem dX0_takeOver_187 : decode cX0_takeOver 187 = .ok (.istore_n 2, 1) := by decide +kernel
theorem dX0_takeOver_188 : decode cX0_takeOver 188 = .ok (.iload_n 2, 1) := by decide +kernel
theorem dX0_takeOver_189 : decode cX0_takeOver 189 = .ok (.bipush 96, 2) := by decide +kernel
theorem dX0_takeOver_191 : decode cX0_takeOver 191 = .ok (.if_icmp .ge 21, 3) := by decide +kernel
theorem dX0_takeOver_194 : decode cX0_takeOver 194 = .ok (.aload_n 0, 1) := by decide +kernel
theorem dX0_takeOver_195 : decode cX0_takeOver 195 = .ok (.getfield 24, 3) := by decide +kernel
theorem dX0_takeOver_198 : decode cX0_takeOver 198 = .ok (.iload_n 2, 1) := by decide +kernel
theorem dX0_takeOver_199 : decode cX0_takeOver 199 = .ok (.aload_n 1, 1) := by decide +kernel
theorem dX0_takeOver_200 : decode cX0_takeOver 200 = .ok (.getfield 24, 3) := by decide +kernel
theorem dX0_takeOver_203 : decode cX0_takeOver 203 = .ok (.iload_n 2, 1) := by decide +kernel
theorem dX0_takeOver_204 : decode cX0_takeOver 204 = .ok (.baload, 1) := by decide +kernel
theorem dX0_takeOver_205 : decode cX0_takeOver 205 = .ok (.bastore, 1) := by decide +kernel
theorem dX0_takeOver_206 : decode cX0_takeOver 206 = .ok (.iinc 2 1, 3) := by decide +kernel
theorem dX0_takeOver_209 : decode cX0_takeOver 209 = .ok (.goto (-21), 3) := by decide +kernel
theorem dX0_takeOver_212 : decode cX0_takeOver 212 = .ok (.return_, 1) := by decide +kernel
noncomputable def L_X0_takeOver_188 (o1 : Nat) (o2 : Nat) : Nat → Int32 → qM → (qM → Option (Unit × qM)) → Option (Unit × qM)
  | 0, _, _, _ => none
  | n + 1, x1, u19, e1 => if 96 ≤ x1 then e1 u19 else q_ck (q_in x1 96) (q_ck (q_in x1 96) (q_lt (q_si u19 41 o1 (Int32.toNatClampNeg x1) (vp_nar .boolean (u19.1 41 o2 (Int32.toNatClampNeg x1)))) (fun (u20 : qM) => q_lt (x1 + 1) (fun (x2 : Int32) => L_X0_takeOver_188 o1 o2 n x2 u20 e1))))
noncomputable def f_X0_takeOver (o1 : Nat) (o2 : Nat) (u0 : qM) : Option (Unit × qM) :=
  q_ck (q_b (u0.1 2 o2 10)) (q_lt (q_si u0 2 o1 10 (u0.1 2 o2 10)) (fun (u1 : qM) => q_lt (q_si u1 2 o1 11 (u1.1 2 o2 11)) (fun (u2 : qM) => q_lt (q_si u2 2 o1 12 (u2.1 2 o2 12)) (fun (u3 : qM) => q_lt (q_si u3 2 o1 13 (u3.1 2 o2 13)) (fun (u4 : qM) => q_lt (q_si u4 2 o1 14 (u4.1 2 o2 14)) (fun (u5 : qM) => q_lt (q_si u5 2 o1 15 (u5.1 2 o2 15)) (fun (u6 : qM) => q_lt (q_si u6 2 o1 16 (u6.1 2 o2 16)) (fun (u7 : qM) => q_lt (q_si u7 2 o1 17 (u7.1 2 o2 17)) (fun (u8 : qM) => q_lt (q_si u8 2 o1 18 (u8.1 2 o2 18)) (fun (u9 : qM) => q_lt (q_si u9 2 o1 9 (u9.1 2 o2 9)) (fun (u10 : qM) => q_bd (f_X5_takeOver o1 o2 u10) (fun (_z : Unit) (u11 : qM) => q_bd (f_X3_takeOver o1 o2 u11) (fun (_z : Unit) (u12 : qM) => q_lt (q_si u12 5 o1 2 (-9)) (fun (u13 : qM) => q_ck (q_cr 0 0 48 48 48) (q_lt (q_sc u13 37 o2 37 o1 (Int32.toNatClampNeg 0) (Int32.toNatClampNeg 0) (Int32.toNatClampNeg 48)) (fun (u14 : qM) => q_ck (q_cr 0 0 48 48 48) (q_lt (q_sc u14 38 o2 38 o1 (Int32.toNatClampNeg 0) (Int32.toNatClampNeg 0) (Int32.toNatClampNeg 48)) (fun (u15 : qM) => q_ck (q_cr 0 0 144 144 144) (q_lt (q_sc u15 39 o2 39 o1 (Int32.toNatClampNeg 0) (Int32.toNatClampNeg 0) (Int32.toNatClampNeg 144)) (fun (u16 : qM) => q_ck (q_cr 0 0 96 96 96) (q_lt (q_sc u16 40 o2 40 o1 (Int32.toNatClampNeg 0) (Int32.toNatClampNeg 0) (Int32.toNatClampNeg 96)) (fun (u17 : qM) => q_ck (q_cr 0 0 4 4 4) (q_lt (q_sc u17 42 o2 42 o1 (Int32.toNatClampNeg 0) (Int32.toNatClampNeg 0) (Int32.toNatClampNeg 4)) (fun (u18 : qM) => L_X0_takeOver_188 o1 o2 q_fu 0 u18 (fun u21 => some ((), u21))))))))))))))))))))))))))
set_option maxRecDepth 100000 in
set_option maxHeartbeats 4000000 in
theorem TL_X0_takeOver_188 (l : Launch) (G : qG) (o1 : Nat) (o2 : Nat) (q1 : o1 < 7) (q2 : o2 < 7) (e1 : qM → Option (Unit × qM)) (he1 : ∀  (v : qM), qAW l G m_X0_takeOver (q_mq G q_cU) 212 [] [] v (e1 v)) : ∀ (n : Nat) (x1 : Int32) (u19 : qM), qAW l G m_X0_takeOver (q_mq G q_cU) 188 [(0, .ref (q_ad G 2 o1)), (1, .ref (q_ad G 2 o2)), (2, .int x1)] [] u19 (L_X0_takeOver_188 o1 o2 n x1 u19 e1) := by
  intro n
  induction n with
  | zero => intros; exact aw_none
  | succ n ih =>
    intro x1 u19
    unfold L_X0_takeOver_188
    refine aw_iload_n (i := 2) dX0_takeOver_188 189 rfl rfl 2 rfl ?_
    refine aw_bipush (x := 96) dX0_takeOver_189 191 rfl rfl ?_
    refine aw_icmp_ge dX0_takeOver_191 194 rfl 212 rfl (fun h7 => ?_) (fun h7 => ?_)
    · exact aw_conv [] rfl (he1 u19)
    · refine aw_aload_n (i := 0) dX0_takeOver_194 195 rfl rfl 0 rfl ?_
      refine gf_X0_4 dX0_takeOver_195 198 rfl wd_22 (ok_2 q1) ?_
      refine aw_iload_n (i := 2) dX0_takeOver_198 199 rfl rfl 2 rfl ?_
      refine aw_aload_n (i := 1) dX0_takeOver_199 200 rfl rfl 1 rfl ?_
      refine gf_X0_4 dX0_takeOver_200 203 rfl wd_22 (ok_2 q2) ?_
      refine aw_iload_n (i := 2) dX0_takeOver_203 204 rfl rfl 2 rfl ?_
      refine aw_zald dX0_takeOver_204 205 rfl at_41 (al_41 _) (ok_41 q2) (fun h8 => ?_)
      refine aw_zast dX0_takeOver_205 206 rfl at_41 (al_41 _) (ok_41 q1) (fun h9 => ?_)
      refine aw_ltm (fun u20 => ?_)
      refine aw_iincx (i := 2) dX0_takeOver_206 209 rfl 2 rfl 1 rfl (fun x2 => [(2, .int x2), (0, .ref (q_ad G 2 o1)), (1, .ref (q_ad G 2 o2))]) (by decide) (fun _ => rfl) (fun x2 => ?_)
      refine aw_goto dX0_takeOver_209 188 rfl ?_
      exact aw_conv [1, 2, 0] rfl (ih x2 u20)
set_option maxRecDepth 100000 in
set_option maxHeartbeats 4000000 in
theorem k_X0_takeOver (l : Launch) (G : qG) (o1 : Nat) (o2 : Nat) (ho1 : o1 < 7) (ho2 : o2 < 7) (u0 : qM) : qCt l G m_X0_takeOver q_cU [.ref (q_ad G 2 o1), .ref (q_ad G 2 o2)] u0 (f_X0_takeOver o1 o2 u0) := by
  refine q_entry pk_X0_takeOver (Nat.le_of_ble_eq_true rfl) ?_
  show qAW l G m_X0_takeOver (q_mq G q_cU) 0 [(0, .ref (q_ad G 2 o1)), (1, .ref (q_ad G 2 o2))] [] u0 (f_X0_takeOver o1 o2 u0)
  unfold f_X0_takeOver
  refine aw_aload_n (i := 0) dX0_takeOver_0 1 rfl rfl 0 rfl ?_
  refine aw_aload_n (i := 1) dX0_takeOver_1 2 rfl rfl 1 rfl ?_
  refine gf_X0_10 dX0_takeOver_2 5 rfl wd_4 (ok_2 ho2) ?_
  refine aw_ck (fun h1 => ?_)
  refine pf_X0_10 dX0_takeOver_5 8 rfl wd_4 (ok_2 ho1) h1 ?_
  refine aw_ltm (fun u1 => ?_)
  refine aw_aload_n (i := 0) dX0_takeOver_8 9 rfl rfl 0 rfl ?_
  refine aw_aload_n (i := 1) dX0_takeOver_9 10 rfl rfl 1 rfl ?_
  refine gf_X0_11 dX0_takeOver_10 13 rfl wd_5 (ok_2 ho2) ?_
  refine pf_X0_11 dX0_takeOver_13 16 rfl wd_5 (ok_2 ho1) ?_
  refine aw_ltm (fun u2 => ?_)
  refine aw_aload_n (i := 0) dX0_takeOver_16 17 rfl rfl 0 rfl ?_
  refine aw_aload_n (i := 1) dX0_takeOver_17 18 rfl rfl 1 rfl ?_
  refine gf_X0_12 dX0_takeOver_18 21 rfl wd_6 (ok_2 ho2) ?_
  refine pf_X0_12 dX0_takeOver_21 24 rfl wd_6 (ok_2 ho1) ?_
  refine aw_ltm (fun u3 => ?_)
  refine aw_aload_n (i := 0) dX0_takeOver_24 25 rfl rfl 0 rfl ?_
  refine aw_aload_n (i := 1) dX0_takeOver_25 26 rfl rfl 1 rfl ?_
  refine gf_X0_13 dX0_takeOver_26 29 rfl wd_7 (ok_2 ho2) ?_
  refine pf_X0_13 dX0_takeOver_29 32 rfl wd_7 (ok_2 ho1) ?_
  refine aw_ltm (fun u4 => ?_)
  refine aw_aload_n (i := 0) dX0_takeOver_32 33 rfl rfl 0 rfl ?_
  refine aw_aload_n (i := 1) dX0_takeOver_33 34 rfl rfl 1 rfl ?_
  refine gf_X0_14 dX0_takeOver_34 37 rfl wd_8 (ok_2 ho2) ?_
  refine pf_X0_14 dX0_takeOver_37 40 rfl wd_8 (ok_2 ho1) ?_
  refine aw_ltm (fun u5 => ?_)
  refine aw_aload_n (i := 0) dX0_takeOver_40 41 rfl rfl 0 rfl ?_
  refine aw_aload_n (i := 1) dX0_takeOver_41 42 rfl rfl 1 rfl ?_
  refine gf_X0_15 dX0_takeOver_42 45 rfl wd_9 (ok_2 ho2) ?_
  refine pf_X0_15 dX0_takeOver_45 48 rfl wd_9 (ok_2 ho1) ?_
  refine aw_ltm (fun u6 => ?_)
  refine aw_aload_n (i := 0) dX0_takeOver_48 49 rfl rfl 0 rfl ?_
  refine aw_aload_n (i := 1) dX0_takeOver_49 50 rfl rfl 1 rfl ?_
  refine gf_X0_16 dX0_takeOver_50 53 rfl wd_10 (ok_2 ho2) ?_
  refine pf_X0_16 dX0_takeOver_53 56 rfl wd_10 (ok_2 ho1) ?_
  refine aw_ltm (fun u7 => ?_)
  refine aw_aload_n (i := 0) dX0_takeOver_56 57 rfl rfl 0 rfl ?_
  refine aw_aload_n (i := 1) dX0_takeOver_57 58 rfl rfl 1 rfl ?_
  refine gf_X0_17 dX0_takeOver_58 61 rfl wd_11 (ok_2 ho2) ?_
  refine pf_X0_17 dX0_takeOver_61 64 rfl wd_11 (ok_2 ho1) ?_
  refine aw_ltm (fun u8 => ?_)
  refine aw_aload_n (i := 0) dX0_takeOver_64 65 rfl rfl 0 rfl ?_
  refine aw_aload_n (i := 1) dX0_takeOver_65 66 rfl rfl 1 rfl ?_
  refine gf_X0_18 dX0_takeOver_66 69 rfl wd_12 (ok_2 ho2) ?_
  refine pf_X0_18 dX0_takeOver_69 72 rfl wd_12 (ok_2 ho1) ?_
  refine aw_ltm (fun u9 => ?_)
  refine aw_aload_n (i := 0) dX0_takeOver_72 73 rfl rfl 0 rfl ?_
  refine aw_aload_n (i := 1) dX0_takeOver_73 74 rfl rfl 1 rfl ?_
  refine gf_X0_9 dX0_takeOver_74 77 rfl wd_13 (ok_2 ho2) ?_
  refine pf_X0_9 dX0_takeOver_77 80 rfl wd_13 (ok_2 ho1) ?_
  refine aw_ltm (fun u10 => ?_)
  refine aw_aload_n (i := 0) dX0_takeOver_80 81 rfl rfl 0 rfl ?_
  refine gf_X0_6 dX0_takeOver_81 84 rfl wd_14 (ok_2 ho1) ?_
  refine aw_aload_n (i := 1) dX0_takeOver_84 85 rfl rfl 1 rfl ?_
  refine gf_X0_6 dX0_takeOver_85 88 rfl wd_14 (ok_2 ho2) ?_
  refine aw_callV (M2 := m_X5_takeOver) (cv := q_cU) dX0_takeOver_88 91 rfl (k_X5_takeOver l G o1 o2 ho1 ho2 u10) wd_26 wv_X5_takeOver pk_X5_takeOver rfl rfl ⟨by decide, by decide⟩ ⟨Nat.zero_le _, Nat.zero_le _⟩ at_4 (ok_4 ho1) rfl rfl rfl (Nat.le_of_ble_eq_true rfl) (fun _z u11 => ?_)
  show qAW l G m_X0_takeOver (q_mq G q_cU) 91 [(0, .ref (q_ad G 2 o1)), (1, .ref (q_ad G 2 o2))] [] u11 _
  refine aw_aload_n (i := 0) dX0_takeOver_91 92 rfl rfl 0 rfl ?_
  refine gf_X0_5 dX0_takeOver_92 95 rfl wd_15 (ok_2 ho1) ?_
  refine aw_aload_n (i := 1) dX0_takeOver_95 96 rfl rfl 1 rfl ?_
  refine gf_X0_5 dX0_takeOver_96 99 rfl wd_15 (ok_2 ho2) ?_
  refine aw_callV (M2 := m_X3_takeOver) (cv := q_cU) dX0_takeOver_99 102 rfl (k_X3_takeOver l G o1 o2 ho1 ho2 u11) wd_27 wv_X3_takeOver pk_X3_takeOver rfl rfl ⟨by decide, by decide⟩ ⟨Nat.zero_le _, Nat.zero_le _⟩ at_3 (ok_3 ho1) rfl rfl rfl (Nat.le_of_ble_eq_true rfl) (fun _z u12 => ?_)
  show qAW l G m_X0_takeOver (q_mq G q_cU) 102 [(0, .ref (q_ad G 2 o1)), (1, .ref (q_ad G 2 o2))] [] u12 _
  refine aw_aload_n (i := 0) dX0_takeOver_102 103 rfl rfl 0 rfl ?_
  refine gf_X0_7 dX0_takeOver_103 106 rfl wd_17 (ok_2 ho1) ?_
  refine aw_bipush (x := (-9)) dX0_takeOver_106 108 rfl rfl ?_
  refine pfN_X4_2 dX0_takeOver_108 111 rfl "SeaCells" (ns_21) (ok_5 ho1) ?_
  refine aw_ltm (fun u13 => ?_)
  refine aw_aload_n (i := 1) dX0_takeOver_111 112 rfl rfl 1 rfl ?_
  refine gf_X0_0 dX0_takeOver_112 115 rfl wd_18 (ok_2 ho2) ?_
  refine aw_iconst (x := 0) dX0_takeOver_115 116 rfl rfl ?_
  refine aw_aload_n (i := 0) dX0_takeOver_116 117 rfl rfl 0 rfl ?_
  refine gf_X0_0 dX0_takeOver_117 120 rfl wd_18 (ok_2 ho1) ?_
  refine aw_iconst (x := 0) dX0_takeOver_120 121 rfl rfl ?_
  refine aw_bipush (x := 48) dX0_takeOver_121 123 rfl rfl ?_
  refine aw_copy dX0_takeOver_123 126 rfl wd_28 wd_29 wd_30 wd_31 at_37 (al_37 _) (ok_37 ho2) at_37 (al_37 _) (ok_37 ho1) (Nat.le_of_ble_eq_true rfl) (Nat.le_of_ble_eq_true rfl) (fun h2 => ?_)
  refine aw_ltm (fun u14 => ?_)
  refine aw_aload_n (i := 1) dX0_takeOver_126 127 rfl rfl 1 rfl ?_
  refine gf_X0_1 dX0_takeOver_127 130 rfl wd_19 (ok_2 ho2) ?_
  refine aw_iconst (x := 0) dX0_takeOver_130 131 rfl rfl ?_
  refine aw_aload_n (i := 0) dX0_takeOver_131 132 rfl rfl 0 rfl ?_
  refine gf_X0_1 dX0_takeOver_132 135 rfl wd_19 (ok_2 ho1) ?_
  refine aw_iconst (x := 0) dX0_takeOver_135 136 rfl rfl ?_
  refine aw_bipush (x := 48) dX0_takeOver_136 138 rfl rfl ?_
  refine aw_copy dX0_takeOver_138 141 rfl wd_28 wd_29 wd_30 wd_31 at_38 (al_38 _) (ok_38 ho2) at_38 (al_38 _) (ok_38 ho1) (Nat.le_of_ble_eq_true rfl) (Nat.le_of_ble_eq_true rfl) (fun h3 => ?_)
  refine aw_ltm (fun u15 => ?_)
  refine aw_aload_n (i := 1) dX0_takeOver_141 142 rfl rfl 1 rfl ?_
  refine gf_X0_2 dX0_takeOver_142 145 rfl wd_20 (ok_2 ho2) ?_
  refine aw_iconst (x := 0) dX0_takeOver_145 146 rfl rfl ?_
  refine aw_aload_n (i := 0) dX0_takeOver_146 147 rfl rfl 0 rfl ?_
  refine gf_X0_2 dX0_takeOver_147 150 rfl wd_20 (ok_2 ho1) ?_
  refine aw_iconst (x := 0) dX0_takeOver_150 151 rfl rfl ?_
  refine aw_sipush (x := 144) dX0_takeOver_151 154 rfl rfl ?_
  refine aw_copy dX0_takeOver_154 157 rfl wd_28 wd_29 wd_30 wd_31 at_39 (al_39 _) (ok_39 ho2) at_39 (al_39 _) (ok_39 ho1) (Nat.le_of_ble_eq_true rfl) (Nat.le_of_ble_eq_true rfl) (fun h4 => ?_)
  refine aw_ltm (fun u16 => ?_)
  refine aw_aload_n (i := 1) dX0_takeOver_157 158 rfl rfl 1 rfl ?_
  refine gf_X0_3 dX0_takeOver_158 161 rfl wd_21 (ok_2 ho2) ?_
  refine aw_iconst (x := 0) dX0_takeOver_161 162 rfl rfl ?_
  refine aw_aload_n (i := 0) dX0_takeOver_162 163 rfl rfl 0 rfl ?_
  refine gf_X0_3 dX0_takeOver_163 166 rfl wd_21 (ok_2 ho1) ?_
  refine aw_iconst (x := 0) dX0_takeOver_166 167 rfl rfl ?_
  refine aw_bipush (x := 96) dX0_takeOver_167 169 rfl rfl ?_
  refine aw_copy dX0_takeOver_169 172 rfl wd_28 wd_29 wd_30 wd_31 at_40 (al_40 _) (ok_40 ho2) at_40 (al_40 _) (ok_40 ho1) (Nat.le_of_ble_eq_true rfl) (Nat.le_of_ble_eq_true rfl) (fun h5 => ?_)
  refine aw_ltm (fun u17 => ?_)
  refine aw_aload_n (i := 1) dX0_takeOver_172 173 rfl rfl 1 rfl ?_
  refine gf_X0_8 dX0_takeOver_173 176 rfl wd_32 (ok_2 ho2) ?_
  refine aw_iconst (x := 0) dX0_takeOver_176 177 rfl rfl ?_
  refine aw_aload_n (i := 0) dX0_takeOver_177 178 rfl rfl 0 rfl ?_
  refine gf_X0_8 dX0_takeOver_178 181 rfl wd_32 (ok_2 ho1) ?_
  refine aw_iconst (x := 0) dX0_takeOver_181 182 rfl rfl ?_
  refine aw_iconst (x := 4) dX0_takeOver_182 183 rfl rfl ?_
  refine aw_copy dX0_takeOver_183 186 rfl wd_28 wd_29 wd_30 wd_31 at_42 (al_42 _) (ok_42 ho2) at_42 (al_42 _) (ok_42 ho1) (Nat.le_of_ble_eq_true rfl) (Nat.le_of_ble_eq_true rfl) (fun h6 => ?_)
  refine aw_ltm (fun u18 => ?_)
  refine aw_iconst (x := 0) dX0_takeOver_186 187 rfl rfl ?_
  refine aw_istore_n dX0_takeOver_187 188 rfl rfl [(2, .int 0), (0, .ref (q_ad G 2 o1)), (1, .ref (q_ad G 2 o2))] (by decide) rfl ?_
  refine aw_conv [1, 2, 0] rfl (TL_X0_takeOver_188 l G o1 o2 ho1 ho2 _ ?_ _ 0 u18)
  · intro u21
    exact aw_vret dX0_takeOver_212 rfl
theorem dX0_cells_0 : decode cX0_cells 0 = .ok (.aload_n 0, 1) := by decide +kernel
theorem dX0_cells_1 : decode cX0_cells 1 = .ok (.getfield 52, 3) := by decide +kernel
theorem dX0_cells_4 : decode cX0_cells 4 = .ok (.aload_n 0, 1) := by decide +kernel
theorem dX0_cells_5 : decode cX0_cells 5 = .ok (.getfield 56, 3) := by decide +kernel
theorem dX0_cells_8 : decode cX0_cells 8 = .ok (.imul, 1) := by decide +kernel
theorem dX0_cells_9 : decode cX0_cells 9 = .ok (.ireturn, 1) := by decide +kernel
noncomputable def f_X0_cells (o1 : Nat) (u0 : qM) : Option (Int32 × qM) :=
  some ((u0.1 2 o1 12) * (u0.1 2 o1 13), u0)
set_option maxRecDepth 100000 in
set_option maxHeartbeats 4000000 in
theorem k_X0_cells (l : Launch) (G : qG) (o1 : Nat) (ho1 : o1 < 7) (u0 : qM) : qCt l G m_X0_cells q_cI [.ref (q_ad G 2 o1)] u0 (f_X0_cells o1 u0) := by
  refine q_entry pk_X0_cells (Nat.le_of_ble_eq_true rfl) ?_
  show qAW l G m_X0_cells (q_mq G q_cI) 0 [(0, .ref (q_ad G 2 o1))] [] u0 (f_X0_cells o1 u0)
  unfold f_X0_cells
  refine aw_aload_n (i := 0) dX0_cells_0 1 rfl rfl 0 rfl ?_
  refine gf_X0_12 dX0_cells_1 4 rfl wd_6 (ok_2 ho1) ?_
  refine aw_aload_n (i := 0) dX0_cells_4 5 rfl rfl 0 rfl ?_
  refine gf_X0_13 dX0_cells_5 8 rfl wd_7 (ok_2 ho1) ?_
  refine aw_imul dX0_cells_8 9 rfl ?_
  exact aw_iret dX0_cells_9 rfl
theorem dX0_hasCell_0 : decode cX0_hasCell 0 = .ok (.iload_n 1, 1) := by decide +kernel
theorem dX0_hasCell_1 : decode cX0_hasCell 1 = .ok (.ifCond .lt 20, 3) := by decide +kernel
theorem dX0_hasCell_4 : decode cX0_hasCell 4 = .ok (.iload_n 1, 1) := by decide +kernel
theorem dX0_hasCell_5 : decode cX0_hasCell 5 = .ok (.aload_n 0, 1) := by decide +kernel
theorem dX0_hasCell_6 : decode cX0_hasCell 6 = .ok (.getfield 52, 3) := by decide +kernel
theorem dX0_hasCell_9 : decode cX0_hasCell 9 = .ok (.aload_n 0, 1) := by decide +kernel
theorem dX0_hasCell_10 : decode cX0_hasCell 10 = .ok (.getfield 56, 3) := by decide +kernel
theorem dX0_hasCell_13 : decode cX0_hasCell 13 = .ok (.imul, 1) := by decide +kernel
theorem dX0_hasCell_14 : decode cX0_hasCell 14 = .ok (.if_icmp .ge 7, 3) := by decide +kernel
theorem dX0_hasCell_17 : decode cX0_hasCell 17 = .ok (.iconst 1, 1) := by decide +kernel
theorem dX0_hasCell_18 : decode cX0_hasCell 18 = .ok (.goto 4, 3) := by decide +kernel
theorem dX0_hasCell_21 : decode cX0_hasCell 21 = .ok (.iconst 0, 1) := by decide +kernel
theorem dX0_hasCell_22 : decode cX0_hasCell 22 = .ok (.ireturn, 1) := by decide +kernel
noncomputable def f_X0_hasCell (o1 : Nat) (x1 : Int32) (u0 : qM) : Option (Int32 × qM) :=
  q_jn (fun (x2 : Int32) (u1 : qM) => q_ck (q_b x2) (some (x2, u1))) (fun j1 => q_jn (fun  (u2 : qM) => j1 0 u2) (fun j2 => if x1 < 0 then j2 u0 else if ((u0.1 2 o1 12) * (u0.1 2 o1 13)) ≤ x1 then j2 u0 else j1 1 u0))
set_option maxRecDepth 100000 in
set_option maxHeartbeats 4000000 in
theorem k_X0_hasCell (l : Launch) (G : qG) (o1 : Nat) (x1 : Int32) (ho1 : o1 < 7) (u0 : qM) : qCt l G m_X0_hasCell q_cI [.ref (q_ad G 2 o1), .int x1] u0 (f_X0_hasCell o1 x1 u0) := by
  refine q_entry pk_X0_hasCell (Nat.le_of_ble_eq_true rfl) ?_
  show qAW l G m_X0_hasCell (q_mq G q_cI) 0 [(0, .ref (q_ad G 2 o1)), (1, .int x1)] [] u0 (f_X0_hasCell o1 x1 u0)
  unfold f_X0_hasCell
  refine aw_iload_n (i := 1) dX0_hasCell_0 1 rfl rfl 1 rfl ?_
  refine aw_jn (fun k => ∀ (x2 : Int32) (u1 : qM), qAW l G m_X0_hasCell (q_mq G q_cI) 22 [] [.int x2] u1 (k x2 u1)) ?_ ?_
  · intro x2 u1
    refine aw_ck (fun h2 => ?_)
    exact aw_zret dX0_hasCell_22 rfl h2
  · intro j1 hj1
    refine aw_jn (fun k => ∀  (u2 : qM), qAW l G m_X0_hasCell (q_mq G q_cI) 21 [] [] u2 (k u2)) ?_ ?_
    · intro u2
      refine aw_iconst (x := 0) dX0_hasCell_21 22 rfl rfl ?_
      exact hj1 0 u2
    · intro j2 hj2
      refine aw_if_lt dX0_hasCell_1 4 rfl 21 rfl (fun h1 => ?_) (fun h1 => ?_)
      · exact aw_conv [] rfl (hj2 u0)
      · refine aw_iload_n (i := 1) dX0_hasCell_4 5 rfl rfl 1 rfl ?_
        refine aw_aload_n (i := 0) dX0_hasCell_5 6 rfl rfl 0 rfl ?_
        refine gf_X0_12 dX0_hasCell_6 9 rfl wd_6 (ok_2 ho1) ?_
        refine aw_aload_n (i := 0) dX0_hasCell_9 10 rfl rfl 0 rfl ?_
        refine gf_X0_13 dX0_hasCell_10 13 rfl wd_7 (ok_2 ho1) ?_
        refine aw_imul dX0_hasCell_13 14 rfl ?_
        refine aw_icmp_ge dX0_hasCell_14 17 rfl 21 rfl (fun h3 => ?_) (fun h3 => ?_)
        · exact aw_conv [] rfl (hj2 u0)
        · refine aw_iconst (x := 1) dX0_hasCell_17 18 rfl rfl ?_
          refine aw_goto dX0_hasCell_18 22 rfl ?_
          exact aw_conv [] rfl (hj1 1 u0)
theorem dX0_hasSide_0 : decode cX0_hasSide 0 = .ok (.iload_n 1, 1) := by decide +kernel
theorem dX0_hasSide_1 : decode cX0_hasSide 1 = .ok (.ifCond .lt 18, 3) := by decide +kernel
theorem dX0_hasSide_4 : decode cX0_hasSide 4 = .ok (.iload_n 1, 1) := by decide +kernel
theorem dX0_hasSide_5 : decode cX0_hasSide 5 = .ok (.iconst 2, 1) := by decide +kernel
theorem dX0_hasSide_6 : decode cX0_hasSide 6 = .ok (.aload_n 0, 1) := by decide +kernel
theorem dX0_hasSide_7 : decode cX0_hasSide 7 = .ok (.getfield 52, 3) := by decide +kernel
theorem dX0_hasSide_10 : decode cX0_hasSide 10 = .ok (.imul, 1) := by decide +kernel
theorem dX0_hasSide_11 : decode cX0_hasSide 11 = .ok (.aload_n 0, 1) := by decide +kernel
theorem dX0_hasSide_12 : decode cX0_hasSide 12 = .ok (.getfield 56, 3) := by decide +kernel
theorem dX0_hasSide_15 : decode cX0_hasSide 15 = .ok (.imul, 1) := by decide +kernel
theorem dX0_hasSide_16 : decode cX0_hasSide 16 = .ok (.if_icmp .lt 5, 3) := by decide +kernel
theorem dX0_hasSide_19 : decode cX0_hasSide 19 = .ok (.iconst 0, 1) := by decide +kernel
theorem dX0_hasSide_20 : decode cX0_hasSide 20 = .ok (.ireturn, 1) := by decide +kernel
theorem dX0_hasSide_21 : decode cX0_hasSide 21 = .ok (.iload_n 1, 1) := by decide +kernel
theorem dX0_hasSide_22 : decode cX0_hasSide 22 = .ok (.iconst 2, 1) := by decide +kernel
theorem dX0_hasSide_23 : decode cX0_hasSide 23 = .ok (.idiv, 1) := by decide +kernel
theorem dX0_hasSide_24 : decode cX0_hasSide 24 = .ok (.istore_n 2, 1) := by decide +kernel
theorem dX0_hasSide_25 : decode cX0_hasSide 25 = .ok (.iload_n 1, 1) := by decide +kernel
theorem dX0_hasSide_26 : decode cX0_hasSide 26 = .ok (.iconst 2, 1) := by decide +kernel
theorem dX0_hasSide_27 : decode cX0_hasSide 27 = .ok (.irem, 1) := by decide +kernel
theorem dX0_hasSide_28 : decode cX0_hasSide 28 = .ok (.iconst 1, 1) := by decide +kernel
theorem dX0_hasSide_29 : decode cX0_hasSide 29 = .ok (.if_icmp .ne 29, 3) := by decide +kernel
theorem dX0_hasSide_32 : decode cX0_hasSide 32 = .ok (.iload_n 2, 1) := by decide +kernel
theorem dX0_hasSide_33 : decode cX0_hasSide 33 = .ok (.aload_n 0, 1) := by decide +kernel
theorem dX0_hasSide_34 : decode cX0_hasSide 34 = .ok (.getfield 52, 3) := by decide +kernel
theorem dX0_hasSide_37 : decode cX0_hasSide 37 = .ok (.iadd, 1) := by decide +kernel
theorem dX0_hasSide_38 : decode cX0_hasSide 38 = .ok (.aload_n 0, 1) := by decide +kernel
theorem dX0_hasSide_39 : decode cX0_hasSide 39 = .ok (.getfield 52, 3) := by decide +kernel
theorem dX0_hasSide_42 : decode cX0_hasSide 42 = .ok (.aload_n 0, 1) := by decide +kernel
theorem dX0_hasSide_43 : decode cX0_hasSide 43 = .ok (.getfield 56, 3) := by decide +kernel
theorem dX0_hasSide_46 : decode cX0_hasSide 46 = .ok (.imul, 1) := by decide +kernel
theorem dX0_hasSide_47 : decode cX0_hasSide 47 = .ok (.if_icmp .ge 7, 3) := by decide +kernel
theorem dX0_hasSide_50 : decode cX0_hasSide 50 = .ok (.iconst 1, 1) := by decide +kernel
theorem dX0_hasSide_51 : decode cX0_hasSide 51 = .ok (.goto 27, 3) := by decide +kernel
theorem dX0_hasSide_54 : decode cX0_hasSide 54 = .ok (.iconst 0, 1) := by decide +kernel
theorem dX0_hasSide_55 : decode cX0_hasSide 55 = .ok (.goto 23, 3) := by decide +kernel
theorem dX0_hasSide_58 : decode cX0_hasSide 58 = .ok (.iload_n 2, 1) := by decide +kernel
theorem dX0_hasSide_59 : decode cX0_hasSide 59 = .ok (.aload_n 0, 1) := by decide +kernel
theorem dX0_hasSide_60 : decode cX0_hasSide 60 = .ok (.getfield 52, 3) := by decide +kernel
theorem dX0_hasSide_63 : decode cX0_hasSide 63 = .ok (.irem, 1) := by decide +kernel
theorem dX0_hasSide_64 : decode cX0_hasSide 64 = .ok (.aload_n 0, 1) := by decide +kernel
theorem dX0_hasSide_65 : decode cX0_hasSide 65 = .ok (.getfield 52, 3) := by decide +kernel
theorem dX0_hasSide_68 : decode cX0_hasSide 68 = .ok (.iconst 1, 1) := by decide +kernel
theorem dX0_hasSide_69 : decode cX0_hasSide 69 = .ok (.isub, 1) := by decide +kernel
theorem dX0_hasSide_70 : decode cX0_hasSide 70 = .ok (.if_icmp .ge 7, 3) := by decide +kernel
theorem dX0_hasSide_73 : decode cX0_hasSide 73 = .ok (.iconst 1, 1) := by decide +kernel
theorem dX0_hasSide_74 : decode cX0_hasSide 74 = .ok (.goto 4, 3) := by decide +kernel
theorem dX0_hasSide_77 : decode cX0_hasSide 77 = .ok (.iconst 0, 1) := by decide +kernel
theorem dX0_hasSide_78 : decode cX0_hasSide 78 = .ok (.ireturn, 1) := by decide +kernel
noncomputable def f_X0_hasSide (o1 : Nat) (x1 : Int32) (u0 : qM) : Option (Int32 × qM) :=
  q_jn (fun  (u1 : qM) => some (0, u1)) (fun j1 => if x1 < 0 then j1 u0 else if x1 < ((2 * (u0.1 2 o1 12)) * (u0.1 2 o1 13)) then q_lt (x1 / 2) (fun (x2 : Int32) => q_jn (fun (x3 : Int32) (u2 : qM) => q_ck (q_b x3) (some (x3, u2))) (fun j2 => if (x1 - x1 / 2 * 2) = 1 then if ((u0.1 2 o1 12) * (u0.1 2 o1 13)) ≤ (x2 + (u0.1 2 o1 12)) then j2 0 u0 else j2 1 u0 else q_ck (q_nz (u0.1 2 o1 12)) (if ((u0.1 2 o1 12) - 1) ≤ (x2 - x2 / (u0.1 2 o1 12) * (u0.1 2 o1 12)) then j2 0 u0 else j2 1 u0))) else j1 u0)
set_option maxRecDepth 100000 in
set_option maxHeartbeats 4000000 in
theorem k_X0_hasSide (l : Launch) (G : qG) (o1 : Nat) (x1 : Int32) (ho1 : o1 < 7) (u0 : qM) : qCt l G m_X0_hasSide q_cI [.ref (q_ad G 2 o1), .int x1] u0 (f_X0_hasSide o1 x1 u0) := by
  refine q_entry pk_X0_hasSide (Nat.le_of_ble_eq_true rfl) ?_
  show qAW l G m_X0_hasSide (q_mq G q_cI) 0 [(0, .ref (q_ad G 2 o1)), (1, .int x1)] [] u0 (f_X0_hasSide o1 x1 u0)
  unfold f_X0_hasSide
  refine aw_iload_n (i := 1) dX0_hasSide_0 1 rfl rfl 1 rfl ?_
  refine aw_jn (fun k => ∀  (u1 : qM), qAW l G m_X0_hasSide (q_mq G q_cI) 19 [] [] u1 (k u1)) ?_ ?_
  · intro u1
    refine aw_iconst (x := 0) dX0_hasSide_19 20 rfl rfl ?_
    exact aw_zret dX0_hasSide_20 rfl (by decide)
  · intro j1 hj1
    refine aw_if_lt dX0_hasSide_1 4 rfl 19 rfl (fun h1 => ?_) (fun h1 => ?_)
    · exact aw_conv [] rfl (hj1 u0)
    · refine aw_iload_n (i := 1) dX0_hasSide_4 5 rfl rfl 1 rfl ?_
      refine aw_iconst (x := 2) dX0_hasSide_5 6 rfl rfl ?_
      refine aw_aload_n (i := 0) dX0_hasSide_6 7 rfl rfl 0 rfl ?_
      refine gf_X0_12 dX0_hasSide_7 10 rfl wd_6 (ok_2 ho1) ?_
      refine aw_imul dX0_hasSide_10 11 rfl ?_
      refine aw_aload_n (i := 0) dX0_hasSide_11 12 rfl rfl 0 rfl ?_
      refine gf_X0_13 dX0_hasSide_12 15 rfl wd_7 (ok_2 ho1) ?_
      refine aw_imul dX0_hasSide_15 16 rfl ?_
      refine aw_icmp_lt dX0_hasSide_16 19 rfl 21 rfl (fun h2 => ?_) (fun h2 => ?_)
      · refine aw_iload_n (i := 1) dX0_hasSide_21 22 rfl rfl 1 rfl ?_
        refine aw_iconst (x := 2) dX0_hasSide_22 23 rfl rfl ?_
        refine aw_idiv dX0_hasSide_23 24 rfl (by decide) ?_
        refine aw_lti (fun x2 => ?_)
        refine aw_istore_n dX0_hasSide_24 25 rfl rfl [(2, .int x2), (0, .ref (q_ad G 2 o1)), (1, .int x1)] (by decide) rfl ?_
        refine aw_iload_n (i := 1) dX0_hasSide_25 26 rfl rfl 2 rfl ?_
        refine aw_iconst (x := 2) dX0_hasSide_26 27 rfl rfl ?_
        refine aw_irem dX0_hasSide_27 28 rfl (by decide) ?_
        refine aw_iconst (x := 1) dX0_hasSide_28 29 rfl rfl ?_
        refine aw_jn (fun k => ∀ (x3 : Int32) (u2 : qM), qAW l G m_X0_hasSide (q_mq G q_cI) 78 [] [.int x3] u2 (k x3 u2)) ?_ ?_
        · intro x3 u2
          refine aw_ck (fun h4 => ?_)
          exact aw_zret dX0_hasSide_78 rfl h4
        · intro j2 hj2
          refine aw_icmp_ne dX0_hasSide_29 32 rfl 58 rfl (fun h3 => ?_) (fun h3 => ?_)
          · refine aw_iload_n (i := 2) dX0_hasSide_58 59 rfl rfl 0 rfl ?_
            refine aw_aload_n (i := 0) dX0_hasSide_59 60 rfl rfl 1 rfl ?_
            refine gf_X0_12 dX0_hasSide_60 63 rfl wd_6 (ok_2 ho1) ?_
            refine aw_ck (fun h5 => ?_)
            refine aw_irem dX0_hasSide_63 64 rfl (of_decide_eq_true h5) ?_
            refine aw_aload_n (i := 0) dX0_hasSide_64 65 rfl rfl 1 rfl ?_
            refine gf_X0_12 dX0_hasSide_65 68 rfl wd_6 (ok_2 ho1) ?_
            refine aw_iconst (x := 1) dX0_hasSide_68 69 rfl rfl ?_
            refine aw_isub dX0_hasSide_69 70 rfl ?_
            refine aw_icmp_ge dX0_hasSide_70 73 rfl 77 rfl (fun h6 => ?_) (fun h6 => ?_)
            · refine aw_iconst (x := 0) dX0_hasSide_77 78 rfl rfl ?_
              exact aw_conv [] rfl (hj2 0 u0)
            · refine aw_iconst (x := 1) dX0_hasSide_73 74 rfl rfl ?_
              refine aw_goto dX0_hasSide_74 78 rfl ?_
              exact aw_conv [] rfl (hj2 1 u0)
          · refine aw_iload_n (i := 2) dX0_hasSide_32 33 rfl rfl 0 rfl ?_
            refine aw_aload_n (i := 0) dX0_hasSide_33 34 rfl rfl 1 rfl ?_
            refine gf_X0_12 dX0_hasSide_34 37 rfl wd_6 (ok_2 ho1) ?_
            refine aw_iadd dX0_hasSide_37 38 rfl ?_
            refine aw_aload_n (i := 0) dX0_hasSide_38 39 rfl rfl 1 rfl ?_
            refine gf_X0_12 dX0_hasSide_39 42 rfl wd_6 (ok_2 ho1) ?_
            refine aw_aload_n (i := 0) dX0_hasSide_42 43 rfl rfl 1 rfl ?_
            refine gf_X0_13 dX0_hasSide_43 46 rfl wd_7 (ok_2 ho1) ?_
            refine aw_imul dX0_hasSide_46 47 rfl ?_
            refine aw_icmp_ge dX0_hasSide_47 50 rfl 54 rfl (fun h7 => ?_) (fun h7 => ?_)
            · refine aw_iconst (x := 0) dX0_hasSide_54 55 rfl rfl ?_
              refine aw_goto dX0_hasSide_55 78 rfl ?_
              exact aw_conv [] rfl (hj2 0 u0)
            · refine aw_iconst (x := 1) dX0_hasSide_50 51 rfl rfl ?_
              refine aw_goto dX0_hasSide_51 78 rfl ?_
              exact aw_conv [] rfl (hj2 1 u0)
      · exact aw_conv [] rfl (hj1 u0)
theorem dX0_farCell_0 : decode cX0_farCell 0 = .ok (.iload_n 1, 1) := by decide +kernel
theorem dX0_farCell_1 : decode cX0_farCell 1 = .ok (.iconst 2, 1) := by decide +kernel
theorem dX0_farCell_2 : decode cX0_farCell 2 = .ok (.irem, 1) := by decide +kernel
theorem dX0_farCell_3 : decode cX0_farCell 3 = .ok (.iconst 1, 1) := by decide +kernel
theorem dX0_farCell_4 : decode cX0_farCell 4 = .ok (.if_icmp .ne 14, 3) := by decide +kernel
theorem dX0_farCell_7 : decode cX0_farCell 7 = .ok (.iload_n 1, 1) := by decide +kernel
theorem dX0_farCell_8 : decode cX0_farCell 8 = .ok (.iconst 2, 1) := by decide +kernel
theorem dX0_farCell_9 : decode cX0_farCell 9 = .ok (.idiv, 1) := by decide +kernel
theorem dX0_farCell_10 : decode cX0_farCell 10 = .ok (.aload_n 0, 1) := by decide +kernel
theorem dX0_farCell_11 : decode cX0_farCell 11 = .ok (.getfield 52, 3) := by decide +kernel
theorem dX0_farCell_14 : decode cX0_farCell 14 = .ok (.iadd, 1) := by decide +kernel
theorem dX0_farCell_15 : decode cX0_farCell 15 = .ok (.goto 8, 3) := by decide +kernel
theorem dX0_farCell_18 : decode cX0_farCell 18 = .ok (.iload_n 1, 1) := by decide +kernel
theorem dX0_farCell_19 : decode cX0_farCell 19 = .ok (.iconst 2, 1) := by decide +kernel
theorem dX0_farCell_20 : decode cX0_farCell 20 = .ok (.idiv, 1) := by decide +kernel
theorem dX0_farCell_21 : decode cX0_farCell 21 = .ok (.iconst 1, 1) := by decide +kernel
theorem dX0_farCell_22 : decode cX0_farCell 22 = .ok (.iadd, 1) := by decide +kernel
theorem dX0_farCell_23 : decode cX0_farCell 23 = .ok (.ireturn, 1) := by decide +kernel
noncomputable def f_X0_farCell (o1 : Nat) (x1 : Int32) (u0 : qM) : Option (Int32 × qM) :=
  q_jn (fun (x2 : Int32) (u1 : qM) => some (x2, u1)) (fun j1 => if (x1 - x1 / 2 * 2) = 1 then j1 ((x1 / 2) + (u0.1 2 o1 12)) u0 else j1 ((x1 / 2) + 1) u0)
set_option maxRecDepth 100000 in
set_option maxHeartbeats 4000000 in
theorem k_X0_farCell (l : Launch) (G : qG) (o1 : Nat) (x1 : Int32) (ho1 : o1 < 7) (u0 : qM) : qCt l G m_X0_farCell q_cI [.ref (q_ad G 2 o1), .int x1] u0 (f_X0_farCell o1 x1 u0) := by
  refine q_entry pk_X0_farCell (Nat.le_of_ble_eq_true rfl) ?_
  show qAW l G m_X0_farCell (q_mq G q_cI) 0 [(0, .ref (q_ad G 2 o1)), (1, .int x1)] [] u0 (f_X0_farCell o1 x1 u0)
  unfold f_X0_farCell
  refine aw_iload_n (i := 1) dX0_farCell_0 1 rfl rfl 1 rfl ?_
  refine aw_iconst (x := 2) dX0_farCell_1 2 rfl rfl ?_
  refine aw_irem dX0_farCell_2 3 rfl (by decide) ?_
  refine aw_iconst (x := 1) dX0_farCell_3 4 rfl rfl ?_
  refine aw_jn (fun k => ∀ (x2 : Int32) (u1 : qM), qAW l G m_X0_farCell (q_mq G q_cI) 23 [] [.int x2] u1 (k x2 u1)) ?_ ?_
  · intro x2 u1
    exact aw_iret dX0_farCell_23 rfl
  · intro j1 hj1
    refine aw_icmp_ne dX0_farCell_4 7 rfl 18 rfl (fun h1 => ?_) (fun h1 => ?_)
    · refine aw_iload_n (i := 1) dX0_farCell_18 19 rfl rfl 1 rfl ?_
      refine aw_iconst (x := 2) dX0_farCell_19 20 rfl rfl ?_
      refine aw_idiv dX0_farCell_20 21 rfl (by decide) ?_
      refine aw_iconst (x := 1) dX0_farCell_21 22 rfl rfl ?_
      refine aw_iadd dX0_farCell_22 23 rfl ?_
      exact aw_conv [] rfl (hj1 ((x1 / 2) + 1) u0)
    · refine aw_iload_n (i := 1) dX0_farCell_7 8 rfl rfl 1 rfl ?_
      refine aw_iconst (x := 2) dX0_farCell_8 9 rfl rfl ?_
      refine aw_idiv dX0_farCell_9 10 rfl (by decide) ?_
      refine aw_aload_n (i := 0) dX0_farCell_10 11 rfl rfl 0 rfl ?_
      refine gf_X0_12 dX0_farCell_11 14 rfl wd_6 (ok_2 ho1) ?_
      refine aw_iadd dX0_farCell_14 15 rfl ?_
      refine aw_goto dX0_farCell_15 23 rfl ?_
      exact aw_conv [] rfl (hj1 ((x1 / 2) + (u0.1 2 o1 12)) u0)
theorem dX0_level_0 : decode cX0_level 0 = .ok (.aload_n 0, 1) := by decide +kernel
theorem dX0_level_1 : decode cX0_level 1 = .ok (.getfield 9, 3) := by decide +kernel
theorem dX0_level_4 : decode cX0_level 4 = .ok (.iload_n 1, 1) := by decide +kernel
theorem dX0_level_5 : decode cX0_level 5 = .ok (.iaload, 1) := by decide +kernel
theorem dX0_level_6 : decode cX0_level 6 = .ok (.aload_n 0, 1) := by decide +kernel
theorem dX0_level_7 : decode cX0_level 7 = .ok (.getfield 15, 3) := by decide +kernel
theorem dX0_level_10 : decode cX0_level 10 = .ok (.iload_n 1, 1) := by decide +kernel
theorem dX0_level_11 : decode cX0_level 11 = .ok (.iaload, 1) := by decide +kernel
theorem dX0_level_12 : decode cX0_level 12 = .ok (.iadd, 1) := by decide +kernel
theorem dX0_level_13 : decode cX0_level 13 = .ok (.ireturn, 1) := by decide +kernel
noncomputable def f_X0_level (o1 : Nat) (x1 : Int32) (u0 : qM) : Option (Int32 × qM) :=
  q_ck (q_in x1 48) (q_ck (q_in x1 48) (some ((u0.1 37 o1 (Int32.toNatClampNeg x1)) + (u0.1 38 o1 (Int32.toNatClampNeg x1)), u0)))
set_option maxRecDepth 100000 in
set_option maxHeartbeats 4000000 in
theorem k_X0_level (l : Launch) (G : qG) (o1 : Nat) (x1 : Int32) (ho1 : o1 < 7) (u0 : qM) : qCt l G m_X0_level q_cI [.ref (q_ad G 2 o1), .int x1] u0 (f_X0_level o1 x1 u0) := by
  refine q_entry pk_X0_level (Nat.le_of_ble_eq_true rfl) ?_
  show qAW l G m_X0_level (q_mq G q_cI) 0 [(0, .ref (q_ad G 2 o1)), (1, .int x1)] [] u0 (f_X0_level o1 x1 u0)
  unfold f_X0_level
  refine aw_aload_n (i := 0) dX0_level_0 1 rfl rfl 0 rfl ?_
  refine gf_X0_0 dX0_level_1 4 rfl wd_18 (ok_2 ho1) ?_
  refine aw_iload_n (i := 1) dX0_level_4 5 rfl rfl 1 rfl ?_
  refine aw_iald dX0_level_5 6 rfl at_37 (al_37 _) (ok_37 ho1) (fun h1 => ?_)
  refine aw_aload_n (i := 0) dX0_level_6 7 rfl rfl 0 rfl ?_
  refine gf_X0_1 dX0_level_7 10 rfl wd_19 (ok_2 ho1) ?_
  refine aw_iload_n (i := 1) dX0_level_10 11 rfl rfl 1 rfl ?_
  refine aw_iald dX0_level_11 12 rfl at_38 (al_38 _) (ok_38 ho1) (fun h2 => ?_)
  refine aw_iadd dX0_level_12 13 rfl ?_
  exact aw_iret dX0_level_13 rfl
theorem dX0_isTidal_0 : decode cX0_isTidal 0 = .ok (.aload_n 0, 1) := by decide +kernel
theorem dX0_isTidal_1 : decode cX0_isTidal 1 = .ok (.getfield 66, 3) := by decide +kernel
theorem dX0_isTidal_4 : decode cX0_isTidal 4 = .ok (.iconst 1, 1) := by decide +kernel
theorem dX0_isTidal_5 : decode cX0_isTidal 5 = .ok (.if_icmp .eq 11, 3) := by decide +kernel
theorem dX0_isTidal_8 : decode cX0_isTidal 8 = .ok (.aload_n 0, 1) := by decide +kernel
theorem dX0_isTidal_9 : decode cX0_isTidal 9 = .ok (.getfield 66, 3) := by decide +kernel
theorem dX0_isTidal_12 : decode cX0_isTidal 12 = .ok (.iconst 3, 1) := by decide +kernel
theorem dX0_isTidal_13 : decode cX0_isTidal 13 = .ok (.if_icmp .ne 7, 3) := by decide +kernel
theorem dX0_isTidal_16 : decode cX0_isTidal 16 = .ok (.iconst 1, 1) := by decide +kernel
theorem dX0_isTidal_17 : decode cX0_isTidal 17 = .ok (.goto 4, 3) := by decide +kernel
theorem dX0_isTidal_20 : decode cX0_isTidal 20 = .ok (.iconst 0, 1) := by decide +kernel
theorem dX0_isTidal_21 : decode cX0_isTidal 21 = .ok (.ireturn, 1) := by decide +kernel
noncomputable def f_X0_isTidal (o1 : Nat) (u0 : qM) : Option (Int32 × qM) :=
  q_jn (fun (x1 : Int32) (u1 : qM) => q_ck (q_b x1) (some (x1, u1))) (fun j1 => q_jn (fun  (u2 : qM) => j1 1 u2) (fun j2 => if (u0.1 2 o1 11) = 1 then j2 u0 else if (u0.1 2 o1 11) = 3 then j2 u0 else j1 0 u0))
set_option maxRecDepth 100000 in
set_option maxHeartbeats 4000000 in
theorem k_X0_isTidal (l : Launch) (G : qG) (o1 : Nat) (ho1 : o1 < 7) (u0 : qM) : qCt l G m_X0_isTidal q_cI [.ref (q_ad G 2 o1)] u0 (f_X0_isTidal o1 u0) := by
  refine q_entry pk_X0_isTidal (Nat.le_of_ble_eq_true rfl) ?_
  show qAW l G m_X0_isTidal (q_mq G q_cI) 0 [(0, .ref (q_ad G 2 o1))] [] u0 (f_X0_isTidal o1 u0)
  unfold f_X0_isTidal
  refine aw_aload_n (i := 0) dX0_isTidal_0 1 rfl rfl 0 rfl ?_
  refine gf_X0_11 dX0_isTidal_1 4 rfl wd_5 (ok_2 ho1) ?_
  refine aw_iconst (x := 1) dX0_isTidal_4 5 rfl rfl ?_
  refine aw_jn (fun k => ∀ (x1 : Int32) (u1 : qM), qAW l G m_X0_isTidal (q_mq G q_cI) 21 [] [.int x1] u1 (k x1 u1)) ?_ ?_
  · intro x1 u1
    refine aw_ck (fun h2 => ?_)
    exact aw_zret dX0_isTidal_21 rfl h2
  · intro j1 hj1
    refine aw_jn (fun k => ∀  (u2 : qM), qAW l G m_X0_isTidal (q_mq G q_cI) 16 [] [] u2 (k u2)) ?_ ?_
    · intro u2
      refine aw_iconst (x := 1) dX0_isTidal_16 17 rfl rfl ?_
      refine aw_goto dX0_isTidal_17 21 rfl ?_
      exact hj1 1 u2
    · intro j2 hj2
      refine aw_icmp_eq dX0_isTidal_5 8 rfl 16 rfl (fun h1 => ?_) (fun h1 => ?_)
      · exact aw_conv [] rfl (hj2 u0)
      · refine aw_aload_n (i := 0) dX0_isTidal_8 9 rfl rfl 0 rfl ?_
        refine gf_X0_11 dX0_isTidal_9 12 rfl wd_5 (ok_2 ho1) ?_
        refine aw_iconst (x := 3) dX0_isTidal_12 13 rfl rfl ?_
        refine aw_icmp_ne dX0_isTidal_13 16 rfl 20 rfl (fun h3 => ?_) (fun h3 => ?_)
        · refine aw_iconst (x := 0) dX0_isTidal_20 21 rfl rfl ?_
          exact aw_conv [] rfl (hj1 0 u0)
        · exact aw_conv [] rfl (hj2 u0)
theorem dX0_isOf_0 : decode cX0_isOf 0 = .ok (.aload_n 0, 1) := by decide +kernel
theorem dX0_isOf_1 : decode cX0_isOf 1 = .ok (.getfield 66, 3) := by decide +kernel
theorem dX0_isOf_4 : decode cX0_isOf 4 = .ok (.iload_n 1, 1) := by decide +kernel
theorem dX0_isOf_5 : decode cX0_isOf 5 = .ok (.if_icmp .eq 15, 3) := by decide +kernel
theorem dX0_isOf_8 : decode cX0_isOf 8 = .ok (.iload_n 1, 1) := by decide +kernel
theorem dX0_isOf_9 : decode cX0_isOf 9 = .ok (.iconst 1, 1) := by decide +kernel
theorem dX0_isOf_10 : decode cX0_isOf 10 = .ok (.if_icmp .ne 14, 3) := by decide +kernel
theorem dX0_isOf_13 : decode cX0_isOf 13 = .ok (.aload_n 0, 1) := by decide +kernel
theorem dX0_isOf_14 : decode cX0_isOf 14 = .ok (.invokevirtual 106, 3) := by decide +kernel
theorem dX0_isOf_17 : decode cX0_isOf 17 = .ok (.ifCond .eq 7, 3) := by decide +kernel
theorem dX0_isOf_20 : decode cX0_isOf 20 = .ok (.iconst 1, 1) := by decide +kernel
theorem dX0_isOf_21 : decode cX0_isOf 21 = .ok (.goto 4, 3) := by decide +kernel
theorem dX0_isOf_24 : decode cX0_isOf 24 = .ok (.iconst 0, 1) := by decide +kernel
theorem dX0_isOf_25 : decode cX0_isOf 25 = .ok (.ireturn, 1) := by decide +kernel
noncomputable def f_X0_isOf (o1 : Nat) (x1 : Int32) (u0 : qM) : Option (Int32 × qM) :=
  q_jn (fun (x2 : Int32) (u1 : qM) => q_ck (q_b x2) (some (x2, u1))) (fun j1 => q_jn (fun  (u2 : qM) => j1 1 u2) (fun j2 => if (u0.1 2 o1 11) = x1 then j2 u0 else q_jn (fun  (u3 : qM) => j1 0 u3) (fun j3 => if x1 = 1 then q_bd (f_X0_isTidal o1 u0) (fun (x3 : Int32) (u4 : qM) => if x3 = 0 then j3 u4 else j2 u4) else j3 u0)))
set_option maxRecDepth 100000 in
set_option maxHeartbeats 4000000 in
theorem k_X0_isOf (l : Launch) (G : qG) (o1 : Nat) (x1 : Int32) (ho1 : o1 < 7) (u0 : qM) : qCt l G m_X0_isOf q_cI [.ref (q_ad G 2 o1), .int x1] u0 (f_X0_isOf o1 x1 u0) := by
  refine q_entry pk_X0_isOf (Nat.le_of_ble_eq_true rfl) ?_
  show qAW l G m_X0_isOf (q_mq G q_cI) 0 [(0, .ref (q_ad G 2 o1)), (1, .int x1)] [] u0 (f_X0_isOf o1 x1 u0)
  unfold f_X0_isOf
  refine aw_aload_n (i := 0) dX0_isOf_0 1 rfl rfl 0 rfl ?_
  refine gf_X0_11 dX0_isOf_1 4 rfl wd_5 (ok_2 ho1) ?_
  refine aw_iload_n (i := 1) dX0_isOf_4 5 rfl rfl 1 rfl ?_
  refine aw_jn (fun k => ∀ (x2 : Int32) (u1 : qM), qAW l G m_X0_isOf (q_mq G q_cI) 25 [] [.int x2] u1 (k x2 u1)) ?_ ?_
  · intro x2 u1
    refine aw_ck (fun h2 => ?_)
    exact aw_zret dX0_isOf_25 rfl h2
  · intro j1 hj1
    refine aw_jn (fun k => ∀  (u2 : qM), qAW l G m_X0_isOf (q_mq G q_cI) 20 [] [] u2 (k u2)) ?_ ?_
    · intro u2
      refine aw_iconst (x := 1) dX0_isOf_20 21 rfl rfl ?_
      refine aw_goto dX0_isOf_21 25 rfl ?_
      exact hj1 1 u2
    · intro j2 hj2
      refine aw_icmp_eq dX0_isOf_5 8 rfl 20 rfl (fun h1 => ?_) (fun h1 => ?_)
      · exact aw_conv [] rfl (hj2 u0)
      · refine aw_iload_n (i := 1) dX0_isOf_8 9 rfl rfl 1 rfl ?_
        refine aw_iconst (x := 1) dX0_isOf_9 10 rfl rfl ?_
        refine aw_jn (fun k => ∀  (u3 : qM), qAW l G m_X0_isOf (q_mq G q_cI) 24 [] [] u3 (k u3)) ?_ ?_
        · intro u3
          refine aw_iconst (x := 0) dX0_isOf_24 25 rfl rfl ?_
          exact hj1 0 u3
        · intro j3 hj3
          refine aw_icmp_ne dX0_isOf_10 13 rfl 24 rfl (fun h3 => ?_) (fun h3 => ?_)
          · exact aw_conv [] rfl (hj3 u0)
          · refine aw_aload_n (i := 0) dX0_isOf_13 14 rfl rfl 0 rfl ?_
            refine aw_callV (M2 := m_X0_isTidal) (cv := q_cI) dX0_isOf_14 17 rfl (k_X0_isTidal l G o1 ho1 u0) wd_33 wv_X0_isTidal pk_X0_isTidal rfl rfl ⟨by decide, by decide⟩ ⟨Nat.zero_le _, Nat.zero_le _⟩ at_2 (ok_2 ho1) rfl rfl rfl (Nat.le_of_ble_eq_true rfl) (fun x3 u4 => ?_)
            show qAW l G m_X0_isOf (q_mq G q_cI) 17 [(0, .ref (q_ad G 2 o1)), (1, .int x1)] [.int x3] u4 _
            refine aw_if_eq dX0_isOf_17 20 rfl 24 rfl (fun h4 => ?_) (fun h4 => ?_)
            · exact aw_conv [] rfl (hj3 u4)
            · exact aw_conv [] rfl (hj2 u4)
theorem dX7_isNumber_0 : decode cX7_isNumber 0 = .ok (.iload_n 1, 1) := by decide +kernel
theorem dX7_isNumber_1 : decode cX7_isNumber 1 = .ok (.ifCond .lt 16, 3) := by decide +kernel
theorem dX7_isNumber_4 : decode cX7_isNumber 4 = .ok (.iload_n 1, 1) := by decide +kernel
theorem dX7_isNumber_5 : decode cX7_isNumber 5 = .ok (.aload_n 0, 1) := by decide +kernel
theorem dX7_isNumber_6 : decode cX7_isNumber 6 = .ok (.getfield 14, 3) := by decide +kernel
theorem dX7_isNumber_9 : decode cX7_isNumber 9 = .ok (.arraylength, 1) := by decide +kernel
theorem dX7_isNumber_10 : decode cX7_isNumber 10 = .ok (.if_icmp .ge 7, 3) := by decide +kernel
theorem dX7_isNumber_13 : decode cX7_isNumber 13 = .ok (.iconst 1, 1) := by decide +kernel
theorem dX7_isNumber_14 : decode cX7_isNumber 14 = .ok (.goto 4, 3) := by decide +kernel
theorem dX7_isNumber_17 : decode cX7_isNumber 17 = .ok (.iconst 0, 1) := by decide +kernel
theorem dX7_isNumber_18 : decode cX7_isNumber 18 = .ok (.ireturn, 1) := by decide +kernel
noncomputable def f_X7_isNumber (o1 : Nat) (x1 : Int32) (u0 : qM) : Option (Int32 × qM) :=
  q_jn (fun (x2 : Int32) (u1 : qM) => q_ck (q_b x2) (some (x2, u1))) (fun j1 => q_jn (fun  (u2 : qM) => j1 0 u2) (fun j2 => if x1 < 0 then j2 u0 else if (Int32.ofNat (q_slen o1)) ≤ x1 then j2 u0 else j1 1 u0))
set_option maxRecDepth 100000 in
set_option maxHeartbeats 4000000 in
theorem k_X7_isNumber (l : Launch) (G : qG) (o1 : Nat) (x1 : Int32) (ho1 : o1 < 3) (u0 : qM) : qCt l G m_X7_isNumber q_cI [.ref (q_ad G 1 o1), .int x1] u0 (f_X7_isNumber o1 x1 u0) := by
  refine q_entry pk_X7_isNumber (Nat.le_of_ble_eq_true rfl) ?_
  show qAW l G m_X7_isNumber (q_mq G q_cI) 0 [(0, .ref (q_ad G 1 o1)), (1, .int x1)] [] u0 (f_X7_isNumber o1 x1 u0)
  unfold f_X7_isNumber
  refine aw_iload_n (i := 1) dX7_isNumber_0 1 rfl rfl 1 rfl ?_
  refine aw_jn (fun k => ∀ (x2 : Int32) (u1 : qM), qAW l G m_X7_isNumber (q_mq G q_cI) 18 [] [.int x2] u1 (k x2 u1)) ?_ ?_
  · intro x2 u1
    refine aw_ck (fun h2 => ?_)
    exact aw_zret dX7_isNumber_18 rfl h2
  · intro j1 hj1
    refine aw_jn (fun k => ∀  (u2 : qM), qAW l G m_X7_isNumber (q_mq G q_cI) 17 [] [] u2 (k u2)) ?_ ?_
    · intro u2
      refine aw_iconst (x := 0) dX7_isNumber_17 18 rfl rfl ?_
      exact hj1 0 u2
    · intro j2 hj2
      refine aw_if_lt dX7_isNumber_1 4 rfl 17 rfl (fun h1 => ?_) (fun h1 => ?_)
      · exact aw_conv [] rfl (hj2 u0)
      · refine aw_iload_n (i := 1) dX7_isNumber_4 5 rfl rfl 1 rfl ?_
        refine aw_aload_n (i := 0) dX7_isNumber_5 6 rfl rfl 0 rfl ?_
        refine gf_X7_1 dX7_isNumber_6 9 rfl wd_34 (ok_1 ho1) ?_
        refine aw_alen dX7_isNumber_9 10 rfl at_33 rfl rfl (ok_33 ho1) ?_
        refine aw_icmp_ge dX7_isNumber_10 13 rfl 17 rfl (fun h3 => ?_) (fun h3 => ?_)
        · exact aw_conv [] rfl (hj2 u0)
        · refine aw_iconst (x := 1) dX7_isNumber_13 14 rfl rfl ?_
          refine aw_goto dX7_isNumber_14 18 rfl ?_
          exact aw_conv [] rfl (hj1 1 u0)
theorem dX0_hasTide_0 : decode cX0_hasTide 0 = .ok (.aload_n 0, 1) := by decide +kernel
theorem dX0_hasTide_1 : decode cX0_hasTide 1 = .ok (.invokevirtual 106, 3) := by decide +kernel
theorem dX0_hasTide_4 : decode cX0_hasTide 4 = .ok (.ifCond .eq 30, 3) := by decide +kernel
theorem dX0_hasTide_7 : decode cX0_hasTide 7 = .ok (.aload_n 1, 1) := by decide +kernel
theorem dX0_hasTide_8 : decode cX0_hasTide 8 = .ok (.aload_n 0, 1) := by decide +kernel
theorem dX0_hasTide_9 : decode cX0_hasTide 9 = .ok (.getfield 59, 3) := by decide +kernel
theorem dX0_hasTide_12 : decode cX0_hasTide 12 = .ok (.invokevirtual 110, 3) := by decide +kernel
theorem dX0_hasTide_15 : decode cX0_hasTide 15 = .ok (.ifCond .eq 19, 3) := by decide +kernel
theorem dX0_hasTide_18 : decode cX0_hasTide 18 = .ok (.aload_n 1, 1) := by decide +kernel
theorem dX0_hasTide_19 : decode cX0_hasTide 19 = .ok (.getfield 116, 3) := by decide +kernel
theorem dX0_hasTide_22 : decode cX0_hasTide 22 = .ok (.aload_n 0, 1) := by decide +kernel
theorem dX0_hasTide_23 : decode cX0_hasTide 23 = .ok (.getfield 59, 3) := by decide +kernel
theorem dX0_hasTide_26 : decode cX0_hasTide 26 = .ok (.iaload, 1) := by decide +kernel
theorem dX0_hasTide_27 : decode cX0_hasTide 27 = .ok (.ifCond .le 7, 3) := by decide +kernel
theorem dX0_hasTide_30 : decode cX0_hasTide 30 = .ok (.iconst 1, 1) := by decide +kernel
theorem dX0_hasTide_31 : decode cX0_hasTide 31 = .ok (.goto 4, 3) := by decide +kernel
theorem dX0_hasTide_34 : decode cX0_hasTide 34 = .ok (.iconst 0, 1) := by decide +kernel
theorem dX0_hasTide_35 : decode cX0_hasTide 35 = .ok (.ireturn, 1) := by decide +kernel
noncomputable def f_X0_hasTide (o1 : Nat) (u0 : qM) : Option (Int32 × qM) :=
  q_bd (f_X0_isTidal o1 u0) (fun (x1 : Int32) (u1 : qM) => q_jn (fun (x2 : Int32) (u2 : qM) => q_ck (q_b x2) (some (x2, u2))) (fun j1 => q_jn (fun  (u3 : qM) => j1 0 u3) (fun j2 => if x1 = 0 then j2 u1 else q_bd (f_X7_isNumber 0 (u1.1 2 o1 17) u1) (fun (x3 : Int32) (u4 : qM) => if x3 = 0 then j2 u4 else q_ck (q_in (u4.1 2 o1 17) 6) (if (u4.1 33 0 (Int32.toNatClampNeg (u4.1 2 o1 17))) ≤ 0 then j2 u4 else j1 1 u4)))))
set_option maxRecDepth 100000 in
set_option maxHeartbeats 4000000 in
theorem k_X0_hasTide (l : Launch) (G : qG) (o1 : Nat) (ho1 : o1 < 7) (u0 : qM) : qCt l G m_X0_hasTide q_cI [.ref (q_ad G 2 o1), .ref (q_ad G 1 0)] u0 (f_X0_hasTide o1 u0) := by
  refine q_entry pk_X0_hasTide (Nat.le_of_ble_eq_true rfl) ?_
  show qAW l G m_X0_hasTide (q_mq G q_cI) 0 [(0, .ref (q_ad G 2 o1)), (1, .ref (q_ad G 1 0))] [] u0 (f_X0_hasTide o1 u0)
  unfold f_X0_hasTide
  refine aw_aload_n (i := 0) dX0_hasTide_0 1 rfl rfl 0 rfl ?_
  refine aw_callV (M2 := m_X0_isTidal) (cv := q_cI) dX0_hasTide_1 4 rfl (k_X0_isTidal l G o1 ho1 u0) wd_33 wv_X0_isTidal pk_X0_isTidal rfl rfl ⟨by decide, by decide⟩ ⟨Nat.zero_le _, Nat.zero_le _⟩ at_2 (ok_2 ho1) rfl rfl rfl (Nat.le_of_ble_eq_true rfl) (fun x1 u1 => ?_)
  show qAW l G m_X0_hasTide (q_mq G q_cI) 4 [(0, .ref (q_ad G 2 o1)), (1, .ref (q_ad G 1 0))] [.int x1] u1 _
  refine aw_jn (fun k => ∀ (x2 : Int32) (u2 : qM), qAW l G m_X0_hasTide (q_mq G q_cI) 35 [] [.int x2] u2 (k x2 u2)) ?_ ?_
  · intro x2 u2
    refine aw_ck (fun h2 => ?_)
    exact aw_zret dX0_hasTide_35 rfl h2
  · intro j1 hj1
    refine aw_jn (fun k => ∀  (u3 : qM), qAW l G m_X0_hasTide (q_mq G q_cI) 34 [] [] u3 (k u3)) ?_ ?_
    · intro u3
      refine aw_iconst (x := 0) dX0_hasTide_34 35 rfl rfl ?_
      exact hj1 0 u3
    · intro j2 hj2
      refine aw_if_eq dX0_hasTide_4 7 rfl 34 rfl (fun h1 => ?_) (fun h1 => ?_)
      · exact aw_conv [] rfl (hj2 u1)
      · refine aw_aload_n (i := 1) dX0_hasTide_7 8 rfl rfl 1 rfl ?_
        refine aw_aload_n (i := 0) dX0_hasTide_8 9 rfl rfl 0 rfl ?_
        refine gf_X0_17 dX0_hasTide_9 12 rfl wd_11 (ok_2 ho1) ?_
        refine aw_callV (M2 := m_X7_isNumber) (cv := q_cI) dX0_hasTide_12 15 rfl (k_X7_isNumber l G 0 (u1.1 2 o1 17) (by decide) u1) wd_35 wv_X7_isNumber pk_X7_isNumber rfl rfl ⟨by decide, by decide⟩ ⟨Nat.zero_le _, Nat.zero_le _⟩ at_1 (ok_1 (by decide)) rfl rfl rfl (Nat.le_of_ble_eq_true rfl) (fun x3 u4 => ?_)
        show qAW l G m_X0_hasTide (q_mq G q_cI) 15 [(0, .ref (q_ad G 2 o1)), (1, .ref (q_ad G 1 0))] [.int x3] u4 _
        refine aw_if_eq dX0_hasTide_15 18 rfl 34 rfl (fun h3 => ?_) (fun h3 => ?_)
        · exact aw_conv [] rfl (hj2 u4)
        · refine aw_aload_n (i := 1) dX0_hasTide_18 19 rfl rfl 1 rfl ?_
          refine gfN_X7_1 dX0_hasTide_19 22 rfl "SeaCells" (ns_2) (ok_1 (by decide)) ?_
          refine aw_aload_n (i := 0) dX0_hasTide_22 23 rfl rfl 0 rfl ?_
          refine gf_X0_17 dX0_hasTide_23 26 rfl wd_11 (ok_2 ho1) ?_
          refine aw_iald dX0_hasTide_26 27 rfl at_33 rfl (ok_33 (by decide)) (fun h4 => ?_)
          refine aw_if_le dX0_hasTide_27 30 rfl 34 rfl (fun h5 => ?_) (fun h5 => ?_)
          · exact aw_conv [] rfl (hj2 u4)
          · refine aw_iconst (x := 1) dX0_hasTide_30 31 rfl rfl ?_
            refine aw_goto dX0_hasTide_31 35 rfl ?_
            exact aw_conv [] rfl (hj1 1 u4)
theorem dJ9_floorMod_7cf53_0 : decode cJ9_floorMod_7cf53 0 = .ok (.iload_n 0, 1) := by decide +kernel
theorem dJ9_floorMod_7cf53_1 : decode cJ9_floorMod_7cf53 1 = .ok (.iload_n 1, 1) := by decide +kernel
theorem dJ9_floorMod_7cf53_2 : decode cJ9_floorMod_7cf53 2 = .ok (.irem, 1) := by decide +kernel
theorem dJ9_floorMod_7cf53_3 : decode cJ9_floorMod_7cf53 3 = .ok (.istore_n 2, 1) := by decide +kernel
theorem dJ9_floorMod_7cf53_4 : decode cJ9_floorMod_7cf53 4 = .ok (.iload_n 0, 1) := by decide +kernel
theorem dJ9_floorMod_7cf53_5 : decode cJ9_floorMod_7cf53 5 = .ok (.iload_n 1, 1) := by decide +kernel
theorem dJ9_floorMod_7cf53_6 : decode cJ9_floorMod_7cf53 6 = .ok (.ixor, 1) := by decide +kernel
theorem dJ9_floorMod_7cf53_7 : decode cJ9_floorMod_7cf53 7 = .ok (.ifCond .ge 11, 3) := by decide +kernel
theorem dJ9_floorMod_7cf53_10 : decode cJ9_floorMod_7cf53 10 = .ok (.iload_n 2, 1) := by decide +kernel
theorem dJ9_floorMod_7cf53_11 : decode cJ9_floorMod_7cf53 11 = .ok (.ifCond .eq 7, 3) := by decide +kernel
theorem dJ9_floorMod_7cf53_14 : decode cJ9_floorMod_7cf53 14 = .ok (.iload_n 2, 1) := by decide +kernel
theorem dJ9_floorMod_7cf53_15 : decode cJ9_floorMod_7cf53 15 = .ok (.iload_n 1, 1) := by decide +kernel
theorem dJ9_floorMod_7cf53_16 : decode cJ9_floorMod_7cf53 16 = .ok (.iadd, 1) := by decide +kernel
theorem dJ9_floorMod_7cf53_17 : decode cJ9_floorMod_7cf53 17 = .ok (.ireturn, 1) := by decide +kernel
theorem dJ9_floorMod_7cf53_18 : decode cJ9_floorMod_7cf53 18 = .ok (.iload_n 2, 1) := by decide +kernel
theorem dJ9_floorMod_7cf53_19 : decode cJ9_floorMod_7cf53 19 = .ok (.ireturn, 1) := by decide +kernel
noncomputable def f_J9_floorMod_7cf53 (x1 : Int32) (x2 : Int32) (u0 : qM) : Option (Int32 × qM) :=
  q_ck (q_nz x2) (q_lt (x1 - x1 / x2 * x2) (fun (x3 : Int32) => q_jn (fun  (u1 : qM) => some (x3, u1)) (fun j1 => if (0 : Int32) ≤ (x1 ^^^ x2) then j1 u0 else if x3 = 0 then j1 u0 else some (x3 + x2, u0))))
set_option maxRecDepth 100000 in
set_option maxHeartbeats 4000000 in
theorem k_J9_floorMod_7cf53 (l : Launch) (G : qG) (x1 : Int32) (x2 : Int32)  (u0 : qM) : qCt l G m_J9_floorMod_7cf53 q_cI [.int x1, .int x2] u0 (f_J9_floorMod_7cf53 x1 x2 u0) := by
  refine q_entry pk_J9_floorMod_7cf53 (Nat.le_of_ble_eq_true rfl) ?_
  show qAW l G m_J9_floorMod_7cf53 (q_mq G q_cI) 0 [(0, .int x1), (1, .int x2)] [] u0 (f_J9_floorMod_7cf53 x1 x2 u0)
  unfold f_J9_floorMod_7cf53
  refine aw_iload_n (i := 0) dJ9_floorMod_7cf53_0 1 rfl rfl 0 rfl ?_
  refine aw_iload_n (i := 1) dJ9_floorMod_7cf53_1 2 rfl rfl 1 rfl ?_
  refine aw_ck (fun h1 => ?_)
  refine aw_irem dJ9_floorMod_7cf53_2 3 rfl (of_decide_eq_true h1) ?_
  refine aw_lti (fun x3 => ?_)
  refine aw_istore_n dJ9_floorMod_7cf53_3 4 rfl rfl [(2, .int x3), (0, .int x1), (1, .int x2)] (by decide) rfl ?_
  refine aw_iload_n (i := 0) dJ9_floorMod_7cf53_4 5 rfl rfl 1 rfl ?_
  refine aw_iload_n (i := 1) dJ9_floorMod_7cf53_5 6 rfl rfl 2 rfl ?_
  refine aw_ixor dJ9_floorMod_7cf53_6 7 rfl ?_
  refine aw_jn (fun k => ∀  (u1 : qM), qAW l G m_J9_floorMod_7cf53 (q_mq G q_cI) 18 [(2, .int x3)] [] u1 (k u1)) ?_ ?_
  · intro u1
    refine aw_iload_n (i := 2) dJ9_floorMod_7cf53_18 19 rfl rfl 0 rfl ?_
    exact aw_iret dJ9_floorMod_7cf53_19 rfl
  · intro j1 hj1
    refine aw_if_ge dJ9_floorMod_7cf53_7 10 rfl 18 rfl (fun h2 => ?_) (fun h2 => ?_)
    · exact aw_conv [0] rfl (hj1 u0)
    · refine aw_iload_n (i := 2) dJ9_floorMod_7cf53_10 11 rfl rfl 0 rfl ?_
      refine aw_if_eq dJ9_floorMod_7cf53_11 14 rfl 18 rfl (fun h3 => ?_) (fun h3 => ?_)
      · exact aw_conv [0] rfl (hj1 u0)
      · refine aw_iload_n (i := 2) dJ9_floorMod_7cf53_14 15 rfl rfl 0 rfl ?_
        refine aw_iload_n (i := 1) dJ9_floorMod_7cf53_15 16 rfl rfl 2 rfl ?_
        refine aw_iadd dJ9_floorMod_7cf53_16 17 rfl ?_
        exact aw_iret dJ9_floorMod_7cf53_17 rfl
theorem dX0_tideLevel_0 : decode cX0_tideLevel 0 = .ok (.aload_n 0, 1) := by decide +kernel
theorem dX0_tideLevel_1 : decode cX0_tideLevel 1 = .ok (.getfield 69, 3) := by decide +kernel
theorem dX0_tideLevel_4 : decode cX0_tideLevel 4 = .ok (.aload_n 1, 1) := by decide +kernel
theorem dX0_tideLevel_5 : decode cX0_tideLevel 5 = .ok (.getfield 116, 3) := by decide +kernel
theorem dX0_tideLevel_8 : decode cX0_tideLevel 8 = .ok (.aload_n 0, 1) := by decide +kernel
theorem dX0_tideLevel_9 : decode cX0_tideLevel 9 = .ok (.getfield 59, 3) := by decide +kernel
theorem dX0_tideLevel_12 : decode cX0_tideLevel 12 = .ok (.iaload, 1) := by decide +kernel
theorem dX0_tideLevel_13 : decode cX0_tideLevel 13 = .ok (.invokestatic 119, 3) := by decide +kernel
theorem dX0_tideLevel_16 : decode cX0_tideLevel 16 = .ok (.istore_n 2, 1) := by decide +kernel
theorem dX0_tideLevel_17 : decode cX0_tideLevel 17 = .ok (.aload_n 1, 1) := by decide +kernel
theorem dX0_tideLevel_18 : decode cX0_tideLevel 18 = .ok (.getfield 125, 3) := by decide +kernel
theorem dX0_tideLevel_21 : decode cX0_tideLevel 21 = .ok (.aload_n 0, 1) := by decide +kernel
theorem dX0_tideLevel_22 : decode cX0_tideLevel 22 = .ok (.getfield 59, 3) := by decide +kernel
theorem dX0_tideLevel_25 : decode cX0_tideLevel 25 = .ok (.aaload, 1) := by decide +kernel
theorem dX0_tideLevel_26 : decode cX0_tideLevel 26 = .ok (.iload_n 2, 1) := by decide +kernel
theorem dX0_tideLevel_27 : decode cX0_tideLevel 27 = .ok (.iaload, 1) := by decide +kernel
theorem dX0_tideLevel_28 : decode cX0_tideLevel 28 = .ok (.aload_n 0, 1) := by decide +kernel
theorem dX0_tideLevel_29 : decode cX0_tideLevel 29 = .ok (.getfield 78, 3) := by decide +kernel
theorem dX0_tideLevel_32 : decode cX0_tideLevel 32 = .ok (.iadd, 1) := by decide +kernel
theorem dX0_tideLevel_33 : decode cX0_tideLevel 33 = .ok (.ireturn, 1) := by decide +kernel
noncomputable def f_X0_tideLevel (o1 : Nat) (u0 : qM) : Option (Int32 × qM) :=
  q_ck (q_in (u0.1 2 o1 17) 6) (q_bd (f_J9_floorMod_7cf53 (u0.1 2 o1 14) (u0.1 33 0 (Int32.toNatClampNeg (u0.1 2 o1 17))) u0) (fun (x1 : Int32) (u1 : qM) => q_ck (q_in (u1.1 2 o1 17) 6) (q_ck (q_in x1 48) (some ((u1.1 30 (Int32.toNatClampNeg (u1.1 2 o1 17)) (Int32.toNatClampNeg x1)) + (u1.1 2 o1 18), u1)))))
set_option maxRecDepth 100000 in
set_option maxHeartbeats 4000000 in
theorem k_X0_tideLevel (l : Launch) (G : qG) (o1 : Nat) (ho1 : o1 < 7) (u0 : qM) : qCt l G m_X0_tideLevel q_cI [.ref (q_ad G 2 o1), .ref (q_ad G 1 0)] u0 (f_X0_tideLevel o1 u0) := by
  refine q_entry pk_X0_tideLevel (Nat.le_of_ble_eq_true rfl) ?_
  show qAW l G m_X0_tideLevel (q_mq G q_cI) 0 [(0, .ref (q_ad G 2 o1)), (1, .ref (q_ad G 1 0))] [] u0 (f_X0_tideLevel o1 u0)
  unfold f_X0_tideLevel
  refine aw_aload_n (i := 0) dX0_tideLevel_0 1 rfl rfl 0 rfl ?_
  refine gf_X0_14 dX0_tideLevel_1 4 rfl wd_8 (ok_2 ho1) ?_
  refine aw_aload_n (i := 1) dX0_tideLevel_4 5 rfl rfl 1 rfl ?_
  refine gfN_X7_1 dX0_tideLevel_5 8 rfl "SeaCells" (ns_2) (ok_1 (by decide)) ?_
  refine aw_aload_n (i := 0) dX0_tideLevel_8 9 rfl rfl 0 rfl ?_
  refine gf_X0_17 dX0_tideLevel_9 12 rfl wd_11 (ok_2 ho1) ?_
  refine aw_iald dX0_tideLevel_12 13 rfl at_33 rfl (ok_33 (by decide)) (fun h1 => ?_)
  refine aw_callS (M2 := m_J9_floorMod_7cf53) (cv := q_cI) dX0_tideLevel_13 16 rfl (k_J9_floorMod_7cf53 l G (u0.1 2 o1 14) (u0.1 33 0 (Int32.toNatClampNeg (u0.1 2 o1 17)))  u0) wd_36 wv_J9_floorMod_7cf53 pk_J9_floorMod_7cf53 rfl ⟨by decide, by decide⟩ ⟨Nat.zero_le _, Nat.zero_le _⟩ rfl (Nat.le_of_ble_eq_true rfl) (fun x1 u1 => ?_)
  show qAW l G m_X0_tideLevel (q_mq G q_cI) 16 [(0, .ref (q_ad G 2 o1)), (1, .ref (q_ad G 1 0))] [.int x1] u1 _
  refine aw_istore_n dX0_tideLevel_16 17 rfl rfl [(2, .int x1), (0, .ref (q_ad G 2 o1)), (1, .ref (q_ad G 1 0))] (by decide) rfl ?_
  refine aw_aload_n (i := 1) dX0_tideLevel_17 18 rfl rfl 2 rfl ?_
  refine gfN_X7_0 dX0_tideLevel_18 21 rfl "SeaCells" (ns_1) (ok_1 (by decide)) ?_
  refine aw_aload_n (i := 0) dX0_tideLevel_21 22 rfl rfl 1 rfl ?_
  refine gf_X0_17 dX0_tideLevel_22 25 rfl wd_11 (ok_2 ho1) ?_
  refine aw_aald dX0_tideLevel_25 26 rfl at_20 (by decide) (by decide) rfl rfl rfl (ok_20 (by decide)) rfl (fun h2 => ?_)
  refine aw_iload_n (i := 2) dX0_tideLevel_26 27 rfl rfl 0 rfl ?_
  refine aw_iald dX0_tideLevel_27 28 rfl at_30 (al_30 _) (ok_30 (q_in_lt h2)) (fun h3 => ?_)
  refine aw_aload_n (i := 0) dX0_tideLevel_28 29 rfl rfl 1 rfl ?_
  refine gf_X0_18 dX0_tideLevel_29 32 rfl wd_12 (ok_2 ho1) ?_
  refine aw_iadd dX0_tideLevel_32 33 rfl ?_
  exact aw_iret dX0_tideLevel_33 rfl
theorem dX0_windAt_0 : decode cX0_windAt 0 = .ok (.aload_n 0, 1) := by decide +kernel
theorem dX0_windAt_1 : decode cX0_windAt 1 = .ok (.getfield 66, 3) := by decide +kernel
theorem dX0_windAt_4 : decode cX0_windAt 4 = .ok (.iconst 3, 1) := by decide +kernel
theorem dX0_windAt_5 : decode cX0_windAt 5 = .ok (.if_icmp .ne 5, 3) := by decide +kernel
theorem dX0_windAt_8 : decode cX0_windAt 8 = .ok (.iconst 0, 1) := by decide +kernel
theorem dX0_windAt_9 : decode cX0_windAt 9 = .ok (.ireturn, 1) := by decide +kernel
theorem dX0_windAt_10 : decode cX0_windAt 10 = .ok (.iload_n 1, 1) := by decide +kernel
theorem dX0_windAt_11 : decode cX0_windAt 11 = .ok (.iconst 2, 1) := by decide +kernel
theorem dX0_windAt_12 : decode cX0_windAt 12 = .ok (.irem, 1) := by decide +kernel
theorem dX0_windAt_13 : decode cX0_windAt 13 = .ok (.iconst 1, 1) := by decide +kernel
theorem dX0_windAt_14 : decode cX0_windAt 14 = .ok (.if_icmp .ne 13, 3) := by decide +kernel
theorem dX0_windAt_17 : decode cX0_windAt 17 = .ok (.aload_n 0, 1) := by decide +kernel
theorem dX0_windAt_18 : decode cX0_windAt 18 = .ok (.getfield 31, 3) := by decide +kernel
theorem dX0_windAt_21 : decode cX0_windAt 21 = .ok (.getfield 129, 3) := by decide +kernel
theorem dX0_windAt_24 : decode cX0_windAt 24 = .ok (.goto 10, 3) := by decide +kernel
theorem dX0_windAt_27 : decode cX0_windAt 27 = .ok (.aload_n 0, 1) := by decide +kernel
theorem dX0_windAt_28 : decode cX0_windAt 28 = .ok (.getfield 31, 3) := by decide +kernel
theorem dX0_windAt_31 : decode cX0_windAt 31 = .ok (.getfield 132, 3) := by decide +kernel
theorem dX0_windAt_34 : decode cX0_windAt 34 = .ok (.ireturn, 1) := by decide +kernel
noncomputable def f_X0_windAt (o1 : Nat) (x1 : Int32) (u0 : qM) : Option (Int32 × qM) :=
  if (u0.1 2 o1 11) = 3 then some (0, u0) else q_jn (fun (x2 : Int32) (u1 : qM) => some (x2, u1)) (fun j1 => if (x1 - x1 / 2 * 2) = 1 then j1 (u0.1 3 o1 3) u0 else j1 (u0.1 3 o1 2) u0)
set_option maxRecDepth 100000 in
set_option maxHeartbeats 4000000 in
theorem k_X0_windAt (l : Launch) (G : qG) (o1 : Nat) (x1 : Int32) (ho1 : o1 < 7) (u0 : qM) : qCt l G m_X0_windAt q_cI [.ref (q_ad G 2 o1), .int x1] u0 (f_X0_windAt o1 x1 u0) := by
  refine q_entry pk_X0_windAt (Nat.le_of_ble_eq_true rfl) ?_
  show qAW l G m_X0_windAt (q_mq G q_cI) 0 [(0, .ref (q_ad G 2 o1)), (1, .int x1)] [] u0 (f_X0_windAt o1 x1 u0)
  unfold f_X0_windAt
  refine aw_aload_n (i := 0) dX0_windAt_0 1 rfl rfl 0 rfl ?_
  refine gf_X0_11 dX0_windAt_1 4 rfl wd_5 (ok_2 ho1) ?_
  refine aw_iconst (x := 3) dX0_windAt_4 5 rfl rfl ?_
  refine aw_icmp_ne dX0_windAt_5 8 rfl 10 rfl (fun h1 => ?_) (fun h1 => ?_)
  · refine aw_iload_n (i := 1) dX0_windAt_10 11 rfl rfl 1 rfl ?_
    refine aw_iconst (x := 2) dX0_windAt_11 12 rfl rfl ?_
    refine aw_irem dX0_windAt_12 13 rfl (by decide) ?_
    refine aw_iconst (x := 1) dX0_windAt_13 14 rfl rfl ?_
    refine aw_jn (fun k => ∀ (x2 : Int32) (u1 : qM), qAW l G m_X0_windAt (q_mq G q_cI) 34 [] [.int x2] u1 (k x2 u1)) ?_ ?_
    · intro x2 u1
      exact aw_iret dX0_windAt_34 rfl
    · intro j1 hj1
      refine aw_icmp_ne dX0_windAt_14 17 rfl 27 rfl (fun h2 => ?_) (fun h2 => ?_)
      · refine aw_aload_n (i := 0) dX0_windAt_27 28 rfl rfl 0 rfl ?_
        refine gf_X0_5 dX0_windAt_28 31 rfl wd_15 (ok_2 ho1) ?_
        refine gfN_X3_2 dX0_windAt_31 34 rfl "SeaCells" (ns_7) (ok_3 ho1) ?_
        exact aw_conv [] rfl (hj1 (u0.1 3 o1 2) u0)
      · refine aw_aload_n (i := 0) dX0_windAt_17 18 rfl rfl 0 rfl ?_
        refine gf_X0_5 dX0_windAt_18 21 rfl wd_15 (ok_2 ho1) ?_
        refine gfN_X3_3 dX0_windAt_21 24 rfl "SeaCells" (ns_9) (ok_3 ho1) ?_
        refine aw_goto dX0_windAt_24 34 rfl ?_
        exact aw_conv [] rfl (hj1 (u0.1 3 o1 3) u0)
  · refine aw_iconst (x := 0) dX0_windAt_8 9 rfl rfl ?_
    exact aw_iret dX0_windAt_9 rfl
theorem dX0_dryCells_0 : decode cX0_dryCells 0 = .ok (.iconst 0, 1) := by decide +kernel
theorem dX0_dryCells_1 : decode cX0_dryCells 1 = .ok (.istore_n 1, 1) := by decide +kernel
theorem dX0_dryCells_2 : decode cX0_dryCells 2 = .ok (.iconst 0, 1) := by decide +kernel
theorem dX0_dryCells_3 : decode cX0_dryCells 3 = .ok (.istore_n 2, 1) := by decide +kernel
theorem dX0_dryCells_4 : decode cX0_dryCells 4 = .ok (.iload_n 2, 1) := by decide +kernel
theorem dX0_dryCells_5 : decode cX0_dryCells 5 = .ok (.aload_n 0, 1) := by decide +kernel
theorem dX0_dryCells_6 : decode cX0_dryCells 6 = .ok (.invokevirtual 153, 3) := by decide +kernel
theorem dX0_dryCells_9 : decode cX0_dryCells 9 = .ok (.if_icmp .ge 26, 3) := by decide +kernel
theorem dX0_dryCells_12 : decode cX0_dryCells 12 = .ok (.iload_n 1, 1) := by decide +kernel
theorem dX0_dryCells_13 : decode cX0_dryCells 13 = .ok (.aload_n 0, 1) := by decide +kernel
theorem dX0_dryCells_14 : decode cX0_dryCells 14 = .ok (.getfield 15, 3) := by decide +kernel
theorem dX0_dryCells_17 : decode cX0_dryCells 17 = .ok (.iload_n 2, 1) := by decide +kernel
theorem dX0_dryCells_18 : decode cX0_dryCells 18 = .ok (.iaload, 1) := by decide +kernel
theorem dX0_dryCells_19 : decode cX0_dryCells 19 = .ok (.ifCond .ne 7, 3) := by decide +kernel
theorem dX0_dryCells_22 : decode cX0_dryCells 22 = .ok (.iconst 1, 1) := by decide +kernel
theorem dX0_dryCells_23 : decode cX0_dryCells 23 = .ok (.goto 4, 3) := by decide +kernel
theorem dX0_dryCells_26 : decode cX0_dryCells 26 = .ok (.iconst 0, 1) := by decide +kernel
theorem dX0_dryCells_27 : decode cX0_dryCells 27 = .ok (.iadd, 1) := by decide +kernel
theorem dX0_dryCells_28 : decode cX0_dryCells 28 = .ok (.istore_n 1, 1) := by decide +kernel
theorem dX0_dryCells_29 : decode cX0_dryCells 29 = .ok (.iinc 2 1, 3) := by decide +kernel
theorem dX0_dryCells_32 : decode cX0_dryCells 32 = .ok (.goto (-28), 3) := by decide +kernel
theorem dX0_dryCells_35 : decode cX0_dryCells 35 = .ok (.iload_n 1, 1) := by decide +kernel
theorem dX0_dryCells_36 : decode cX0_dryCells 36 = .ok (.ireturn, 1) := by decide +kernel
noncomputable def L_X0_dryCells_4 (o1 : Nat) : Nat → Int32 → Int32 → qM → (Int32 → qM → Option (Int32 × qM)) → Option (Int32 × qM)
  | 0, _, _, _, _ => none
  | n + 1, x1, x2, u1, e1 => q_bd (f_X0_cells o1 u1) (fun (x3 : Int32) (u2 : qM) => if x3 ≤ x2 then e1 x1 u2 else q_ck (q_in x2 48) (q_jn (fun (x4 : Int32) (u3 : qM) => q_lt (x1 + x4) (fun (x5 : Int32) => q_lt (x2 + 1) (fun (x6 : Int32) => L_X0_dryCells_4 o1 n x5 x6 u3 e1))) (fun j1 => if (u2.1 38 o1 (Int32.toNatClampNeg x2)) = 0 then j1 1 u2 else j1 0 u2)))
noncomputable def f_X0_dryCells (o1 : Nat) (u0 : qM) : Option (Int32 × qM) :=
  L_X0_dryCells_4 o1 q_fu 0 0 u0 (fun x7 u4 => some (x7, u4))
set_option maxRecDepth 100000 in
set_option maxHeartbeats 4000000 in
theorem TL_X0_dryCells_4 (l : Launch) (G : qG) (o1 : Nat) (q1 : o1 < 7) (e1 : Int32 → qM → Option (Int32 × qM)) (he1 : ∀ (y1 : Int32) (v : qM), qAW l G m_X0_dryCells (q_mq G q_cI) 35 [(1, .int y1)] [] v (e1 y1 v)) : ∀ (n : Nat) (x1 : Int32) (x2 : Int32) (u1 : qM), qAW l G m_X0_dryCells (q_mq G q_cI) 4 [(0, .ref (q_ad G 2 o1)), (1, .int x1), (2, .int x2)] [] u1 (L_X0_dryCells_4 o1 n x1 x2 u1 e1) := by
  intro n
  induction n with
  | zero => intros; exact aw_none
  | succ n ih =>
    intro x1 x2 u1
    unfold L_X0_dryCells_4
    refine aw_iload_n (i := 2) dX0_dryCells_4 5 rfl rfl 2 rfl ?_
    refine aw_aload_n (i := 0) dX0_dryCells_5 6 rfl rfl 0 rfl ?_
    refine aw_callV (M2 := m_X0_cells) (cv := q_cI) dX0_dryCells_6 9 rfl (k_X0_cells l G o1 q1 u1) wd_37 wv_X0_cells pk_X0_cells rfl rfl ⟨by decide, by decide⟩ ⟨Nat.zero_le _, Nat.zero_le _⟩ at_2 (ok_2 q1) rfl rfl rfl (Nat.le_of_ble_eq_true rfl) (fun x3 u2 => ?_)
    show qAW l G m_X0_dryCells (q_mq G q_cI) 9 [(0, .ref (q_ad G 2 o1)), (1, .int x1), (2, .int x2)] [.int x3, .int x2] u2 _
    refine aw_icmp_ge dX0_dryCells_9 12 rfl 35 rfl (fun h1 => ?_) (fun h1 => ?_)
    · exact aw_conv [1] rfl (he1 x1 u2)
    · refine aw_iload_n (i := 1) dX0_dryCells_12 13 rfl rfl 1 rfl ?_
      refine aw_aload_n (i := 0) dX0_dryCells_13 14 rfl rfl 0 rfl ?_
      refine gf_X0_1 dX0_dryCells_14 17 rfl wd_19 (ok_2 q1) ?_
      refine aw_iload_n (i := 2) dX0_dryCells_17 18 rfl rfl 2 rfl ?_
      refine aw_iald dX0_dryCells_18 19 rfl at_38 (al_38 _) (ok_38 q1) (fun h2 => ?_)
      refine aw_jn (fun k => ∀ (x4 : Int32) (u3 : qM), qAW l G m_X0_dryCells (q_mq G q_cI) 27 [(0, .ref (q_ad G 2 o1)), (2, .int x2)] [.int x4, .int x1] u3 (k x4 u3)) ?_ ?_
      · intro x4 u3
        refine aw_iadd dX0_dryCells_27 28 rfl ?_
        refine aw_lti (fun x5 => ?_)
        refine aw_istore_n dX0_dryCells_28 29 rfl rfl [(1, .int x5), (0, .ref (q_ad G 2 o1)), (2, .int x2)] (by decide) rfl ?_
        refine aw_iincx (i := 2) dX0_dryCells_29 32 rfl 2 rfl 1 rfl (fun x6 => [(2, .int x6), (1, .int x5), (0, .ref (q_ad G 2 o1))]) (by decide) (fun _ => rfl) (fun x6 => ?_)
        refine aw_goto dX0_dryCells_32 4 rfl ?_
        exact aw_conv [2, 1, 0] rfl (ih x5 x6 u3)
      · intro j1 hj1
        refine aw_if_ne dX0_dryCells_19 22 rfl 26 rfl (fun h3 => ?_) (fun h3 => ?_)
        · refine aw_iconst (x := 0) dX0_dryCells_26 27 rfl rfl ?_
          exact aw_conv [0, 2] rfl (hj1 0 u2)
        · refine aw_iconst (x := 1) dX0_dryCells_22 23 rfl rfl ?_
          refine aw_goto dX0_dryCells_23 27 rfl ?_
          exact aw_conv [0, 2] rfl (hj1 1 u2)
set_option maxRecDepth 100000 in
set_option maxHeartbeats 4000000 in
theorem k_X0_dryCells (l : Launch) (G : qG) (o1 : Nat) (ho1 : o1 < 7) (u0 : qM) : qCt l G m_X0_dryCells q_cI [.ref (q_ad G 2 o1)] u0 (f_X0_dryCells o1 u0) := by
  refine q_entry pk_X0_dryCells (Nat.le_of_ble_eq_true rfl) ?_
  show qAW l G m_X0_dryCells (q_mq G q_cI) 0 [(0, .ref (q_ad G 2 o1))] [] u0 (f_X0_dryCells o1 u0)
  unfold f_X0_dryCells
  refine aw_iconst (x := 0) dX0_dryCells_0 1 rfl rfl ?_
  refine aw_istore_n dX0_dryCells_1 2 rfl rfl [(1, .int 0), (0, .ref (q_ad G 2 o1))] (by decide) rfl ?_
  refine aw_iconst (x := 0) dX0_dryCells_2 3 rfl rfl ?_
  refine aw_istore_n dX0_dryCells_3 4 rfl rfl [(2, .int 0), (1, .int 0), (0, .ref (q_ad G 2 o1))] (by decide) rfl ?_
  refine aw_conv [2, 1, 0] rfl (TL_X0_dryCells_4 l G o1 ho1 _ ?_ _ 0 0 u0)
  · intro x7 u4
    refine aw_iload_n (i := 1) dX0_dryCells_35 36 rfl rfl 0 rfl ?_
    exact aw_iret dX0_dryCells_36 rfl
theorem dX0_sum_0 : decode cX0_sum 0 = .ok (.iconst 0, 1) := by decide +kernel
theorem dX0_sum_1 : decode cX0_sum 1 = .ok (.istore_n 3, 1) := by decide +kernel
theorem dX0_sum_2 : decode cX0_sum 2 = .ok (.iconst 0, 1) := by decide +kernel
theorem dX0_sum_3 : decode cX0_sum 3 = .ok (.istore 4, 2) := by decide +kernel
theorem dX0_sum_5 : decode cX0_sum 5 = .ok (.iload 4, 2) := by decide +kernel
theorem dX0_sum_7 : decode cX0_sum 7 = .ok (.aload_n 0, 1) := by decide +kernel
theorem dX0_sum_8 : decode cX0_sum 8 = .ok (.invokevirtual 153, 3) := by decide +kernel
theorem dX0_sum_11 : decode cX0_sum 11 = .ok (.if_icmp .ge 18, 3) := by decide +kernel
theorem dX0_sum_14 : decode cX0_sum 14 = .ok (.iload_n 3, 1) := by decide +kernel
theorem dX0_sum_15 : decode cX0_sum 15 = .ok (.aload_n 1, 1) := by decide +kernel
theorem dX0_sum_16 : decode cX0_sum 16 = .ok (.iload_n 2, 1) := by decide +kernel
theorem dX0_sum_17 : decode cX0_sum 17 = .ok (.iload 4, 2) := by decide +kernel
theorem dX0_sum_19 : decode cX0_sum 19 = .ok (.iadd, 1) := by decide +kernel
theorem dX0_sum_20 : decode cX0_sum 20 = .ok (.iaload, 1) := by decide +kernel
theorem dX0_sum_21 : decode cX0_sum 21 = .ok (.iadd, 1) := by decide +kernel
theorem dX0_sum_22 : decode cX0_sum 22 = .ok (.istore_n 3, 1) := by decide +kernel
theorem dX0_sum_23 : decode cX0_sum 23 = .ok (.iinc 4 1, 3) := by decide +kernel
theorem dX0_sum_26 : decode cX0_sum 26 = .ok (.goto (-21), 3) := by decide +kernel
theorem dX0_sum_29 : decode cX0_sum 29 = .ok (.iload_n 3, 1) := by decide +kernel
theorem dX0_sum_30 : decode cX0_sum 30 = .ok (.ireturn, 1) := by decide +kernel
noncomputable def L_X0_sum_5 (o1 : Nat) (k1 : Nat) (i1 : Nat) (x1 : Int32) : Nat → Int32 → Int32 → qM → (Int32 → qM → Option (Int32 × qM)) → Option (Int32 × qM)
  | 0, _, _, _, _ => none
  | n + 1, x2, x3, u1, e1 => q_bd (f_X0_cells o1 u1) (fun (x4 : Int32) (u2 : qM) => if x4 ≤ x3 then e1 x2 u2 else q_ck (q_in (x1 + x3) (q_al k1 i1)) (q_lt (x2 + (u2.1 k1 i1 (Int32.toNatClampNeg (x1 + x3)))) (fun (x5 : Int32) => q_lt (x3 + 1) (fun (x6 : Int32) => L_X0_sum_5 o1 k1 i1 x1 n x5 x6 u2 e1))))
noncomputable def f_X0_sum (o1 : Nat) (k1 i1 : Nat) (x1 : Int32) (u0 : qM) : Option (Int32 × qM) :=
  L_X0_sum_5 o1 k1 i1 x1 q_fu 0 0 u0 (fun x7 u3 => some (x7, u3))
set_option maxRecDepth 100000 in
set_option maxHeartbeats 4000000 in
theorem TL_X0_sum_5 (l : Launch) (G : qG) (o1 : Nat) (k1 : Nat) (i1 : Nat) (x1 : Int32) (q1 : o1 < 7) (q2 : q_at k1 = 0) (q3 : q_ok k1 i1 = true) (e1 : Int32 → qM → Option (Int32 × qM)) (he1 : ∀ (y1 : Int32) (v : qM), qAW l G m_X0_sum (q_mq G q_cI) 29 [(3, .int y1)] [] v (e1 y1 v)) : ∀ (n : Nat) (x2 : Int32) (x3 : Int32) (u1 : qM), qAW l G m_X0_sum (q_mq G q_cI) 5 [(0, .ref (q_ad G 2 o1)), (1, .ref (q_ad G k1 i1)), (2, .int x1), (3, .int x2), (4, .int x3)] [] u1 (L_X0_sum_5 o1 k1 i1 x1 n x2 x3 u1 e1) := by
  intro n
  induction n with
  | zero => intros; exact aw_none
  | succ n ih =>
    intro x2 x3 u1
    unfold L_X0_sum_5
    refine aw_iload (i := 4) dX0_sum_5 7 rfl 4 rfl ?_
    refine aw_aload_n (i := 0) dX0_sum_7 8 rfl rfl 0 rfl ?_
    refine aw_callV (M2 := m_X0_cells) (cv := q_cI) dX0_sum_8 11 rfl (k_X0_cells l G o1 q1 u1) wd_37 wv_X0_cells pk_X0_cells rfl rfl ⟨by decide, by decide⟩ ⟨Nat.zero_le _, Nat.zero_le _⟩ at_2 (ok_2 q1) rfl rfl rfl (Nat.le_of_ble_eq_true rfl) (fun x4 u2 => ?_)
    show qAW l G m_X0_sum (q_mq G q_cI) 11 [(0, .ref (q_ad G 2 o1)), (1, .ref (q_ad G k1 i1)), (2, .int x1), (3, .int x2), (4, .int x3)] [.int x4, .int x3] u2 _
    refine aw_icmp_ge dX0_sum_11 14 rfl 29 rfl (fun h1 => ?_) (fun h1 => ?_)
    · exact aw_conv [3] rfl (he1 x2 u2)
    · refine aw_iload_n (i := 3) dX0_sum_14 15 rfl rfl 3 rfl ?_
      refine aw_aload_n (i := 1) dX0_sum_15 16 rfl rfl 1 rfl ?_
      refine aw_iload_n (i := 2) dX0_sum_16 17 rfl rfl 2 rfl ?_
      refine aw_iload (i := 4) dX0_sum_17 19 rfl 4 rfl ?_
      refine aw_iadd dX0_sum_19 20 rfl ?_
      refine aw_iald dX0_sum_20 21 rfl q2 rfl q3 (fun h2 => ?_)
      refine aw_iadd dX0_sum_21 22 rfl ?_
      refine aw_lti (fun x5 => ?_)
      refine aw_istore_n dX0_sum_22 23 rfl rfl [(3, .int x5), (0, .ref (q_ad G 2 o1)), (1, .ref (q_ad G k1 i1)), (2, .int x1), (4, .int x3)] (by decide) rfl ?_
      refine aw_iincx (i := 4) dX0_sum_23 26 rfl 4 rfl 1 rfl (fun x6 => [(4, .int x6), (3, .int x5), (0, .ref (q_ad G 2 o1)), (1, .ref (q_ad G k1 i1)), (2, .int x1)]) (by decide) (fun _ => rfl) (fun x6 => ?_)
      refine aw_goto dX0_sum_26 5 rfl ?_
      exact aw_conv [2, 3, 4, 1, 0] rfl (ih x5 x6 u2)
set_option maxRecDepth 100000 in
set_option maxHeartbeats 4000000 in
theorem k_X0_sum (l : Launch) (G : qG) (o1 : Nat) (k1 i1 : Nat) (x1 : Int32) (ho1 : o1 < 7) (ak1 : q_at k1 = 0) (ok1 : q_ok k1 i1 = true) (u0 : qM) : qCt l G m_X0_sum q_cI [.ref (q_ad G 2 o1), .ref (q_ad G k1 i1), .int x1] u0 (f_X0_sum o1 k1 i1 x1 u0) := by
  refine q_entry pk_X0_sum (Nat.le_of_ble_eq_true rfl) ?_
  show qAW l G m_X0_sum (q_mq G q_cI) 0 [(0, .ref (q_ad G 2 o1)), (1, .ref (q_ad G k1 i1)), (2, .int x1)] [] u0 (f_X0_sum o1 k1 i1 x1 u0)
  unfold f_X0_sum
  refine aw_iconst (x := 0) dX0_sum_0 1 rfl rfl ?_
  refine aw_istore_n dX0_sum_1 2 rfl rfl [(3, .int 0), (0, .ref (q_ad G 2 o1)), (1, .ref (q_ad G k1 i1)), (2, .int x1)] (by decide) rfl ?_
  refine aw_iconst (x := 0) dX0_sum_2 3 rfl rfl ?_
  refine aw_istore dX0_sum_3 5 rfl [(4, .int 0), (3, .int 0), (0, .ref (q_ad G 2 o1)), (1, .ref (q_ad G k1 i1)), (2, .int x1)] (by decide) rfl ?_
  refine aw_conv [2, 3, 4, 1, 0] rfl (TL_X0_sum_5 l G o1 k1 i1 x1 ho1 ak1 ok1 _ ?_ _ 0 0 u0)
  · intro x7 u3
    refine aw_iload_n (i := 3) dX0_sum_29 30 rfl rfl 0 rfl ?_
    exact aw_iret dX0_sum_30 rfl
theorem dX0_tells_0 : decode cX0_tells 0 = .ok (.iload_n 1, 1) := by decide +kernel
theorem dX0_tells_1 : decode cX0_tells 1 = .ok (.tableswitch 104 0 10 #[59, 64, 69, 74, 79, 89, 94, 104, 104, 104, 99], 59) := by decide +kernel
theorem dX0_tells_60 : decode cX0_tells 60 = .ok (.aload_n 0, 1) := by decide +kernel
theorem dX0_tells_61 : decode cX0_tells 61 = .ok (.getfield 66, 3) := by decide +kernel
theorem dX0_tells_64 : decode cX0_tells 64 = .ok (.ireturn, 1) := by decide +kernel
theorem dX0_tells_65 : decode cX0_tells 65 = .ok (.aload_n 0, 1) := by decide +kernel
theorem dX0_tells_66 : decode cX0_tells 66 = .ok (.getfield 52, 3) := by decide +kernel
theorem dX0_tells_69 : decode cX0_tells 69 = .ok (.ireturn, 1) := by decide +kernel
theorem dX0_tells_70 : decode cX0_tells 70 = .ok (.aload_n 0, 1) := by decide +kernel
theorem dX0_tells_71 : decode cX0_tells 71 = .ok (.getfield 56, 3) := by decide +kernel
theorem dX0_tells_74 : decode cX0_tells 74 = .ok (.ireturn, 1) := by decide +kernel
theorem dX0_tells_75 : decode cX0_tells 75 = .ok (.aload_n 0, 1) := by decide +kernel
theorem dX0_tells_76 : decode cX0_tells 76 = .ok (.getfield 69, 3) := by decide +kernel
theorem dX0_tells_79 : decode cX0_tells 79 = .ok (.ireturn, 1) := by decide +kernel
theorem dX0_tells_80 : decode cX0_tells 80 = .ok (.aload_n 0, 1) := by decide +kernel
theorem dX0_tells_81 : decode cX0_tells 81 = .ok (.aload_n 0, 1) := by decide +kernel
theorem dX0_tells_82 : decode cX0_tells 82 = .ok (.getfield 15, 3) := by decide +kernel
theorem dX0_tells_85 : decode cX0_tells 85 = .ok (.iconst 0, 1) := by decide +kernel
theorem dX0_tells_86 : decode cX0_tells 86 = .ok (.invokevirtual 145, 3) := by decide +kernel
theorem dX0_tells_89 : decode cX0_tells 89 = .ok (.ireturn, 1) := by decide +kernel
theorem dX0_tells_90 : decode cX0_tells 90 = .ok (.aload_n 0, 1) := by decide +kernel
theorem dX0_tells_91 : decode cX0_tells 91 = .ok (.getfield 72, 3) := by decide +kernel
theorem dX0_tells_94 : decode cX0_tells 94 = .ok (.ireturn, 1) := by decide +kernel
theorem dX0_tells_95 : decode cX0_tells 95 = .ok (.aload_n 0, 1) := by decide +kernel
theorem dX0_tells_96 : decode cX0_tells 96 = .ok (.getfield 75, 3) := by decide +kernel
theorem dX0_tells_99 : decode cX0_tells 99 = .ok (.ireturn, 1) := by decide +kernel
theorem dX0_tells_100 : decode cX0_tells 100 = .ok (.aload_n 0, 1) := by decide +kernel
theorem dX0_tells_101 : decode cX0_tells 101 = .ok (.invokevirtual 149, 3) := by decide +kernel
theorem dX0_tells_104 : decode cX0_tells 104 = .ok (.ireturn, 1) := by decide +kernel
theorem dX0_tells_105 : decode cX0_tells 105 = .ok (.aload_n 0, 1) := by decide +kernel
theorem dX0_tells_106 : decode cX0_tells 106 = .ok (.aload_n 0, 1) := by decide +kernel
theorem dX0_tells_107 : decode cX0_tells 107 = .ok (.getfield 18, 3) := by decide +kernel
theorem dX0_tells_110 : decode cX0_tells 110 = .ok (.iload_n 1, 1) := by decide +kernel
theorem dX0_tells_111 : decode cX0_tells 111 = .ok (.bipush 7, 2) := by decide +kernel
theorem dX0_tells_113 : decode cX0_tells 113 = .ok (.isub, 1) := by decide +kernel
theorem dX0_tells_114 : decode cX0_tells 114 = .ok (.bipush 48, 2) := by decide +kernel
theorem dX0_tells_116 : decode cX0_tells 116 = .ok (.imul, 1) := by decide +kernel
theorem dX0_tells_117 : decode cX0_tells 117 = .ok (.invokevirtual 145, 3) := by decide +kernel
theorem dX0_tells_120 : decode cX0_tells 120 = .ok (.ireturn, 1) := by decide +kernel
noncomputable def f_X0_tells (o1 : Nat) (x1 : Int32) (u0 : qM) : Option (Int32 × qM) :=
  if x1 = 0 then some (u0.1 2 o1 11, u0) else if x1 = 1 then some (u0.1 2 o1 12, u0) else if x1 = 2 then some (u0.1 2 o1 13, u0) else if x1 = 3 then some (u0.1 2 o1 14, u0) else if x1 = 4 then q_bd (f_X0_sum o1 38 o1 0 u0) (fun (x2 : Int32) (u1 : qM) => some (x2, u1)) else if x1 = 5 then some (u0.1 2 o1 15, u0) else if x1 = 6 then some (u0.1 2 o1 16, u0) else if x1 = 10 then q_bd (f_X0_dryCells o1 u0) (fun (x3 : Int32) (u2 : qM) => some (x3, u2)) else q_bd (f_X0_sum o1 39 o1 ((x1 - 7) * 48) u0) (fun (x4 : Int32) (u3 : qM) => some (x4, u3))
set_option maxRecDepth 100000 in
set_option maxHeartbeats 4000000 in
theorem k_X0_tells (l : Launch) (G : qG) (o1 : Nat) (x1 : Int32) (ho1 : o1 < 7) (u0 : qM) : qCt l G m_X0_tells q_cI [.ref (q_ad G 2 o1), .int x1] u0 (f_X0_tells o1 x1 u0) := by
  refine q_entry pk_X0_tells (Nat.le_of_ble_eq_true rfl) ?_
  show qAW l G m_X0_tells (q_mq G q_cI) 0 [(0, .ref (q_ad G 2 o1)), (1, .int x1)] [] u0 (f_X0_tells o1 x1 u0)
  unfold f_X0_tells
  refine aw_iload_n (i := 1) dX0_tells_0 1 rfl rfl 1 rfl ?_
  refine aw_swIn (y := 0) dX0_tells_1 60 (by decide) (by decide) rfl rfl (fun h1 => ?_) (fun h1 => ?_)
  · refine aw_aload_n (i := 0) dX0_tells_60 61 rfl rfl 0 rfl ?_
    refine gf_X0_11 dX0_tells_61 64 rfl wd_5 (ok_2 ho1) ?_
    exact aw_iret dX0_tells_64 rfl
  · refine aw_swIn (y := 1) dX0_tells_1 65 (by decide) (by decide) rfl rfl (fun h2 => ?_) (fun h2 => ?_)
    · refine aw_aload_n (i := 0) dX0_tells_65 66 rfl rfl 0 rfl ?_
      refine gf_X0_12 dX0_tells_66 69 rfl wd_6 (ok_2 ho1) ?_
      exact aw_iret dX0_tells_69 rfl
    · refine aw_swIn (y := 2) dX0_tells_1 70 (by decide) (by decide) rfl rfl (fun h3 => ?_) (fun h3 => ?_)
      · refine aw_aload_n (i := 0) dX0_tells_70 71 rfl rfl 0 rfl ?_
        refine gf_X0_13 dX0_tells_71 74 rfl wd_7 (ok_2 ho1) ?_
        exact aw_iret dX0_tells_74 rfl
      · refine aw_swIn (y := 3) dX0_tells_1 75 (by decide) (by decide) rfl rfl (fun h4 => ?_) (fun h4 => ?_)
        · refine aw_aload_n (i := 0) dX0_tells_75 76 rfl rfl 0 rfl ?_
          refine gf_X0_14 dX0_tells_76 79 rfl wd_8 (ok_2 ho1) ?_
          exact aw_iret dX0_tells_79 rfl
        · refine aw_swIn (y := 4) dX0_tells_1 80 (by decide) (by decide) rfl rfl (fun h5 => ?_) (fun h5 => ?_)
          · refine aw_aload_n (i := 0) dX0_tells_80 81 rfl rfl 0 rfl ?_
            refine aw_aload_n (i := 0) dX0_tells_81 82 rfl rfl 0 rfl ?_
            refine gf_X0_1 dX0_tells_82 85 rfl wd_19 (ok_2 ho1) ?_
            refine aw_iconst (x := 0) dX0_tells_85 86 rfl rfl ?_
            refine aw_callV (M2 := m_X0_sum) (cv := q_cI) dX0_tells_86 89 rfl (k_X0_sum l G o1 38 o1 0 ho1 at_38 (ok_38 ho1) u0) wd_38 wv_X0_sum pk_X0_sum rfl rfl ⟨by decide, by decide⟩ ⟨Nat.zero_le _, Nat.zero_le _⟩ at_2 (ok_2 ho1) rfl rfl rfl (Nat.le_of_ble_eq_true rfl) (fun x2 u1 => ?_)
            show qAW l G m_X0_tells (q_mq G q_cI) 89 [(0, .ref (q_ad G 2 o1)), (1, .int x1)] [.int x2] u1 _
            exact aw_iret dX0_tells_89 rfl
          · refine aw_swIn (y := 5) dX0_tells_1 90 (by decide) (by decide) rfl rfl (fun h6 => ?_) (fun h6 => ?_)
            · refine aw_aload_n (i := 0) dX0_tells_90 91 rfl rfl 0 rfl ?_
              refine gf_X0_15 dX0_tells_91 94 rfl wd_9 (ok_2 ho1) ?_
              exact aw_iret dX0_tells_94 rfl
            · refine aw_swIn (y := 6) dX0_tells_1 95 (by decide) (by decide) rfl rfl (fun h7 => ?_) (fun h7 => ?_)
              · refine aw_aload_n (i := 0) dX0_tells_95 96 rfl rfl 0 rfl ?_
                refine gf_X0_16 dX0_tells_96 99 rfl wd_10 (ok_2 ho1) ?_
                exact aw_iret dX0_tells_99 rfl
              · refine aw_swIn (y := 10) dX0_tells_1 100 (by decide) (by decide) rfl rfl (fun h8 => ?_) (fun h8 => ?_)
                · refine aw_aload_n (i := 0) dX0_tells_100 101 rfl rfl 0 rfl ?_
                  refine aw_callV (M2 := m_X0_dryCells) (cv := q_cI) dX0_tells_101 104 rfl (k_X0_dryCells l G o1 ho1 u0) wd_39 wv_X0_dryCells pk_X0_dryCells rfl rfl ⟨by decide, by decide⟩ ⟨Nat.zero_le _, Nat.zero_le _⟩ at_2 (ok_2 ho1) rfl rfl rfl (Nat.le_of_ble_eq_true rfl) (fun x3 u2 => ?_)
                  show qAW l G m_X0_tells (q_mq G q_cI) 104 [(0, .ref (q_ad G 2 o1)), (1, .int x1)] [.int x3] u2 _
                  exact aw_iret dX0_tells_104 rfl
                · refine aw_swOut dX0_tells_1 105 rfl (q_swD [0, 1, 2, 3, 4, 5, 6, 10] (by decide +kernel) (by decide) (by simp only [List.mem_cons, List.not_mem_nil, or_false]; rintro c (rfl | rfl | rfl | rfl | rfl | rfl | rfl | rfl) <;> assumption)) ?_
                  refine aw_aload_n (i := 0) dX0_tells_105 106 rfl rfl 0 rfl ?_
                  refine aw_aload_n (i := 0) dX0_tells_106 107 rfl rfl 0 rfl ?_
                  refine gf_X0_2 dX0_tells_107 110 rfl wd_20 (ok_2 ho1) ?_
                  refine aw_iload_n (i := 1) dX0_tells_110 111 rfl rfl 1 rfl ?_
                  refine aw_bipush (x := 7) dX0_tells_111 113 rfl rfl ?_
                  refine aw_isub dX0_tells_113 114 rfl ?_
                  refine aw_bipush (x := 48) dX0_tells_114 116 rfl rfl ?_
                  refine aw_imul dX0_tells_116 117 rfl ?_
                  refine aw_callV (M2 := m_X0_sum) (cv := q_cI) dX0_tells_117 120 rfl (k_X0_sum l G o1 39 o1 ((x1 - 7) * 48) ho1 at_39 (ok_39 ho1) u0) wd_38 wv_X0_sum pk_X0_sum rfl rfl ⟨by decide, by decide⟩ ⟨Nat.zero_le _, Nat.zero_le _⟩ at_2 (ok_2 ho1) rfl rfl rfl (Nat.le_of_ble_eq_true rfl) (fun x4 u3 => ?_)
                  show qAW l G m_X0_tells (q_mq G q_cI) 120 [(0, .ref (q_ad G 2 o1)), (1, .int x1)] [.int x4] u3 _
                  exact aw_iret dX0_tells_120 rfl
theorem dX0_allRests_0 : decode cX0_allRests 0 = .ok (.iconst 0, 1) := by decide +kernel
theorem dX0_allRests_1 : decode cX0_allRests 1 = .ok (.istore_n 1, 1) := by decide +kernel
theorem dX0_allRests_2 : decode cX0_allRests 2 = .ok (.iconst 0, 1) := by decide +kernel
theorem dX0_allRests_3 : decode cX0_allRests 3 = .ok (.istore_n 2, 1) := by decide +kernel
theorem dX0_allRests_4 : decode cX0_allRests 4 = .ok (.iload_n 2, 1) := by decide +kernel
theorem dX0_allRests_5 : decode cX0_allRests 5 = .ok (.aload_n 0, 1) := by decide +kernel
theorem dX0_allRests_6 : decode cX0_allRests 6 = .ok (.invokevirtual 153, 3) := by decide +kernel
theorem dX0_allRests_9 : decode cX0_allRests 9 = .ok (.iconst 4, 1) := by decide +kernel
theorem dX0_allRests_10 : decode cX0_allRests 10 = .ok (.idiv, 1) := by decide +kernel
theorem dX0_allRests_11 : decode cX0_allRests 11 = .ok (.if_icmp .ge 21, 3) := by decide +kernel
theorem dX0_allRests_14 : decode cX0_allRests 14 = .ok (.iload_n 1, 1) := by decide +kernel
theorem dX0_allRests_15 : decode cX0_allRests 15 = .ok (.aload_n 0, 1) := by decide +kernel
theorem dX0_allRests_16 : decode cX0_allRests 16 = .ok (.getfield 45, 3) := by decide +kernel
theorem dX0_allRests_19 : decode cX0_allRests 19 = .ok (.getfield 156, 3) := by decide +kernel
theorem dX0_allRests_22 : decode cX0_allRests 22 = .ok (.iload_n 2, 1) := by decide +kernel
theorem dX0_allRests_23 : decode cX0_allRests 23 = .ok (.iaload, 1) := by decide +kernel
theorem dX0_allRests_24 : decode cX0_allRests 24 = .ok (.iadd, 1) := by decide +kernel
theorem dX0_allRests_25 : decode cX0_allRests 25 = .ok (.istore_n 1, 1) := by decide +kernel
theorem dX0_allRests_26 : decode cX0_allRests 26 = .ok (.iinc 2 1, 3) := by decide +kernel
theorem dX0_allRests_29 : decode cX0_allRests 29 = .ok (.goto (-25), 3) := by decide +kernel
theorem dX0_allRests_32 : decode cX0_allRests 32 = .ok (.iload_n 1, 1) := by decide +kernel
theorem dX0_allRests_33 : decode cX0_allRests 33 = .ok (.ireturn, 1) := by decide +kernel
noncomputable def L_X0_allRests_4 (o1 : Nat) : Nat → Int32 → Int32 → qM → (Int32 → qM → Option (Int32 × qM)) → Option (Int32 × qM)
  | 0, _, _, _, _ => none
  | n + 1, x1, x2, u1, e1 => q_bd (f_X0_cells o1 u1) (fun (x3 : Int32) (u2 : qM) => if (x3 / 4) ≤ x2 then e1 x1 u2 else q_ck (q_in x2 12) (q_lt (x1 + (u2.1 46 o1 (Int32.toNatClampNeg x2))) (fun (x4 : Int32) => q_lt (x2 + 1) (fun (x5 : Int32) => L_X0_allRests_4 o1 n x4 x5 u2 e1))))
noncomputable def f_X0_allRests (o1 : Nat) (u0 : qM) : Option (Int32 × qM) :=
  L_X0_allRests_4 o1 q_fu 0 0 u0 (fun x6 u3 => some (x6, u3))
set_option maxRecDepth 100000 in
set_option maxHeartbeats 4000000 in
theorem TL_X0_allRests_4 (l : Launch) (G : qG) (o1 : Nat) (q1 : o1 < 7) (e1 : Int32 → qM → Option (Int32 × qM)) (he1 : ∀ (y1 : Int32) (v : qM), qAW l G m_X0_allRests (q_mq G q_cI) 32 [(1, .int y1)] [] v (e1 y1 v)) : ∀ (n : Nat) (x1 : Int32) (x2 : Int32) (u1 : qM), qAW l G m_X0_allRests (q_mq G q_cI) 4 [(0, .ref (q_ad G 2 o1)), (1, .int x1), (2, .int x2)] [] u1 (L_X0_allRests_4 o1 n x1 x2 u1 e1) := by
  intro n
  induction n with
  | zero => intros; exact aw_none
  | succ n ih =>
    intro x1 x2 u1
    unfold L_X0_allRests_4
    refine aw_iload_n (i := 2) dX0_allRests_4 5 rfl rfl 2 rfl ?_
    refine aw_aload_n (i := 0) dX0_allRests_5 6 rfl rfl 0 rfl ?_
    refine aw_callV (M2 := m_X0_cells) (cv := q_cI) dX0_allRests_6 9 rfl (k_X0_cells l G o1 q1 u1) wd_37 wv_X0_cells pk_X0_cells rfl rfl ⟨by decide, by decide⟩ ⟨Nat.zero_le _, Nat.zero_le _⟩ at_2 (ok_2 q1) rfl rfl rfl (Nat.le_of_ble_eq_true rfl) (fun x3 u2 => ?_)
    show qAW l G m_X0_allRests (q_mq G q_cI) 9 [(0, .ref (q_ad G 2 o1)), (1, .int x1), (2, .int x2)] [.int x3, .int x2] u2 _
    refine aw_iconst (x := 4) dX0_allRests_9 10 rfl rfl ?_
    refine aw_idiv dX0_allRests_10 11 rfl (by decide) ?_
    refine aw_icmp_ge dX0_allRests_11 14 rfl 32 rfl (fun h1 => ?_) (fun h1 => ?_)
    · exact aw_conv [1] rfl (he1 x1 u2)
    · refine aw_iload_n (i := 1) dX0_allRests_14 15 rfl rfl 1 rfl ?_
      refine aw_aload_n (i := 0) dX0_allRests_15 16 rfl rfl 0 rfl ?_
      refine gf_X0_7 dX0_allRests_16 19 rfl wd_17 (ok_2 q1) ?_
      refine gfN_X4_1 dX0_allRests_19 22 rfl "SeaCells" (ns_20) (ok_5 q1) ?_
      refine aw_iload_n (i := 2) dX0_allRests_22 23 rfl rfl 2 rfl ?_
      refine aw_iald dX0_allRests_23 24 rfl at_46 (al_46 _) (ok_46 q1) (fun h2 => ?_)
      refine aw_iadd dX0_allRests_24 25 rfl ?_
      refine aw_lti (fun x4 => ?_)
      refine aw_istore_n dX0_allRests_25 26 rfl rfl [(1, .int x4), (0, .ref (q_ad G 2 o1)), (2, .int x2)] (by decide) rfl ?_
      refine aw_iincx (i := 2) dX0_allRests_26 29 rfl 2 rfl 1 rfl (fun x5 => [(2, .int x5), (1, .int x4), (0, .ref (q_ad G 2 o1))]) (by decide) (fun _ => rfl) (fun x5 => ?_)
      refine aw_goto dX0_allRests_29 4 rfl ?_
      exact aw_conv [2, 1, 0] rfl (ih x4 x5 u2)
set_option maxRecDepth 100000 in
set_option maxHeartbeats 4000000 in
theorem k_X0_allRests (l : Launch) (G : qG) (o1 : Nat) (ho1 : o1 < 7) (u0 : qM) : qCt l G m_X0_allRests q_cI [.ref (q_ad G 2 o1)] u0 (f_X0_allRests o1 u0) := by
  refine q_entry pk_X0_allRests (Nat.le_of_ble_eq_true rfl) ?_
  show qAW l G m_X0_allRests (q_mq G q_cI) 0 [(0, .ref (q_ad G 2 o1))] [] u0 (f_X0_allRests o1 u0)
  unfold f_X0_allRests
  refine aw_iconst (x := 0) dX0_allRests_0 1 rfl rfl ?_
  refine aw_istore_n dX0_allRests_1 2 rfl rfl [(1, .int 0), (0, .ref (q_ad G 2 o1))] (by decide) rfl ?_
  refine aw_iconst (x := 0) dX0_allRests_2 3 rfl rfl ?_
  refine aw_istore_n dX0_allRests_3 4 rfl rfl [(2, .int 0), (1, .int 0), (0, .ref (q_ad G 2 o1))] (by decide) rfl ?_
  refine aw_conv [2, 1, 0] rfl (TL_X0_allRests_4 l G o1 ho1 _ ?_ _ 0 0 u0)
  · intro x6 u3
    refine aw_iload_n (i := 1) dX0_allRests_32 33 rfl rfl 0 rfl ?_
    exact aw_iret dX0_allRests_33 rfl
theorem dX0_opposite_0 : decode cX0_opposite 0 = .ok (.iload_n 1, 1) := by decide +kernel
theorem dX0_opposite_1 : decode cX0_opposite 1 = .ok (.aload_n 0, 1) := by decide +kernel
theorem dX0_opposite_2 : decode cX0_opposite 2 = .ok (.getfield 52, 3) := by decide +kernel
theorem dX0_opposite_5 : decode cX0_opposite 5 = .ok (.irem, 1) := by decide +kernel
theorem dX0_opposite_6 : decode cX0_opposite 6 = .ok (.istore_n 2, 1) := by decide +kernel
theorem dX0_opposite_7 : decode cX0_opposite 7 = .ok (.iload_n 1, 1) := by decide +kernel
theorem dX0_opposite_8 : decode cX0_opposite 8 = .ok (.iload_n 2, 1) := by decide +kernel
theorem dX0_opposite_9 : decode cX0_opposite 9 = .ok (.isub, 1) := by decide +kernel
theorem dX0_opposite_10 : decode cX0_opposite 10 = .ok (.aload_n 0, 1) := by decide +kernel
theorem dX0_opposite_11 : decode cX0_opposite 11 = .ok (.getfield 52, 3) := by decide +kernel
theorem dX0_opposite_14 : decode cX0_opposite 14 = .ok (.iadd, 1) := by decide +kernel
theorem dX0_opposite_15 : decode cX0_opposite 15 = .ok (.iconst 1, 1) := by decide +kernel
theorem dX0_opposite_16 : decode cX0_opposite 16 = .ok (.isub, 1) := by decide +kernel
theorem dX0_opposite_17 : decode cX0_opposite 17 = .ok (.iload_n 2, 1) := by decide +kernel
theorem dX0_opposite_18 : decode cX0_opposite 18 = .ok (.isub, 1) := by decide +kernel
theorem dX0_opposite_19 : decode cX0_opposite 19 = .ok (.ireturn, 1) := by decide +kernel
noncomputable def f_X0_opposite (o1 : Nat) (x1 : Int32) (u0 : qM) : Option (Int32 × qM) :=
  q_ck (q_nz (u0.1 2 o1 12)) (q_lt (x1 - x1 / (u0.1 2 o1 12) * (u0.1 2 o1 12)) (fun (x2 : Int32) => some ((((x1 - x2) + (u0.1 2 o1 12)) - 1) - x2, u0)))
set_option maxRecDepth 100000 in
set_option maxHeartbeats 4000000 in
theorem k_X0_opposite (l : Launch) (G : qG) (o1 : Nat) (x1 : Int32) (ho1 : o1 < 7) (u0 : qM) : qCt l G m_X0_opposite q_cI [.ref (q_ad G 2 o1), .int x1] u0 (f_X0_opposite o1 x1 u0) := by
  refine q_entry pk_X0_opposite (Nat.le_of_ble_eq_true rfl) ?_
  show qAW l G m_X0_opposite (q_mq G q_cI) 0 [(0, .ref (q_ad G 2 o1)), (1, .int x1)] [] u0 (f_X0_opposite o1 x1 u0)
  unfold f_X0_opposite
  refine aw_iload_n (i := 1) dX0_opposite_0 1 rfl rfl 1 rfl ?_
  refine aw_aload_n (i := 0) dX0_opposite_1 2 rfl rfl 0 rfl ?_
  refine gf_X0_12 dX0_opposite_2 5 rfl wd_6 (ok_2 ho1) ?_
  refine aw_ck (fun h1 => ?_)
  refine aw_irem dX0_opposite_5 6 rfl (of_decide_eq_true h1) ?_
  refine aw_lti (fun x2 => ?_)
  refine aw_istore_n dX0_opposite_6 7 rfl rfl [(2, .int x2), (0, .ref (q_ad G 2 o1)), (1, .int x1)] (by decide) rfl ?_
  refine aw_iload_n (i := 1) dX0_opposite_7 8 rfl rfl 2 rfl ?_
  refine aw_iload_n (i := 2) dX0_opposite_8 9 rfl rfl 0 rfl ?_
  refine aw_isub dX0_opposite_9 10 rfl ?_
  refine aw_aload_n (i := 0) dX0_opposite_10 11 rfl rfl 1 rfl ?_
  refine gf_X0_12 dX0_opposite_11 14 rfl wd_6 (ok_2 ho1) ?_
  refine aw_iadd dX0_opposite_14 15 rfl ?_
  refine aw_iconst (x := 1) dX0_opposite_15 16 rfl rfl ?_
  refine aw_isub dX0_opposite_16 17 rfl ?_
  refine aw_iload_n (i := 2) dX0_opposite_17 18 rfl rfl 0 rfl ?_
  refine aw_isub dX0_opposite_18 19 rfl ?_
  exact aw_iret dX0_opposite_19 rfl
theorem dX0_swap_0 : decode cX0_swap 0 = .ok (.aload_n 0, 1) := by decide +kernel
theorem dX0_swap_1 : decode cX0_swap 1 = .ok (.iload_n 1, 1) := by decide +kernel
theorem dX0_swap_2 : decode cX0_swap 2 = .ok (.iaload, 1) := by decide +kernel
theorem dX0_swap_3 : decode cX0_swap 3 = .ok (.istore_n 3, 1) := by decide +kernel
theorem dX0_swap_4 : decode cX0_swap 4 = .ok (.aload_n 0, 1) := by decide +kernel
theorem dX0_swap_5 : decode cX0_swap 5 = .ok (.iload_n 1, 1) := by decide +kernel
theorem dX0_swap_6 : decode cX0_swap 6 = .ok (.aload_n 0, 1) := by decide +kernel
theorem dX0_swap_7 : decode cX0_swap 7 = .ok (.iload_n 2, 1) := by decide +kernel
theorem dX0_swap_8 : decode cX0_swap 8 = .ok (.iaload, 1) := by decide +kernel
theorem dX0_swap_9 : decode cX0_swap 9 = .ok (.iastore, 1) := by decide +kernel
theorem dX0_swap_10 : decode cX0_swap 10 = .ok (.aload_n 0, 1) := by decide +kernel
theorem dX0_swap_11 : decode cX0_swap 11 = .ok (.iload_n 2, 1) := by decide +kernel
theorem dX0_swap_12 : decode cX0_swap 12 = .ok (.iload_n 3, 1) := by decide +kernel
theorem dX0_swap_13 : decode cX0_swap 13 = .ok (.iastore, 1) := by decide +kernel
theorem dX0_swap_14 : decode cX0_swap 14 = .ok (.return_, 1) := by decide +kernel
noncomputable def f_X0_swap (k1 i1 : Nat) (x1 : Int32) (x2 : Int32) (u0 : qM) : Option (Unit × qM) :=
  q_ck (q_in x1 (q_al k1 i1)) (q_lt (u0.1 k1 i1 (Int32.toNatClampNeg x1)) (fun (x3 : Int32) => q_ck (q_in x2 (q_al k1 i1)) (q_ck (q_in x1 (q_al k1 i1)) (q_lt (q_si u0 k1 i1 (Int32.toNatClampNeg x1) (u0.1 k1 i1 (Int32.toNatClampNeg x2))) (fun (u1 : qM) => q_ck (q_in x2 (q_al k1 i1)) (q_lt (q_si u1 k1 i1 (Int32.toNatClampNeg x2) x3) (fun (u2 : qM) => some ((), u2))))))))
set_option maxRecDepth 100000 in
set_option maxHeartbeats 4000000 in
theorem k_X0_swap (l : Launch) (G : qG) (k1 i1 : Nat) (x1 : Int32) (x2 : Int32) (ak1 : q_at k1 = 0) (ok1 : q_ok k1 i1 = true) (u0 : qM) : qCt l G m_X0_swap q_cU [.ref (q_ad G k1 i1), .int x1, .int x2] u0 (f_X0_swap k1 i1 x1 x2 u0) := by
  refine q_entry pk_X0_swap (Nat.le_of_ble_eq_true rfl) ?_
  show qAW l G m_X0_swap (q_mq G q_cU) 0 [(0, .ref (q_ad G k1 i1)), (1, .int x1), (2, .int x2)] [] u0 (f_X0_swap k1 i1 x1 x2 u0)
  unfold f_X0_swap
  refine aw_aload_n (i := 0) dX0_swap_0 1 rfl rfl 0 rfl ?_
  refine aw_iload_n (i := 1) dX0_swap_1 2 rfl rfl 1 rfl ?_
  refine aw_iald dX0_swap_2 3 rfl ak1 rfl ok1 (fun h1 => ?_)
  refine aw_lti (fun x3 => ?_)
  refine aw_istore_n dX0_swap_3 4 rfl rfl [(3, .int x3), (0, .ref (q_ad G k1 i1)), (1, .int x1), (2, .int x2)] (by decide) rfl ?_
  refine aw_aload_n (i := 0) dX0_swap_4 5 rfl rfl 1 rfl ?_
  refine aw_iload_n (i := 1) dX0_swap_5 6 rfl rfl 2 rfl ?_
  refine aw_aload_n (i := 0) dX0_swap_6 7 rfl rfl 1 rfl ?_
  refine aw_iload_n (i := 2) dX0_swap_7 8 rfl rfl 3 rfl ?_
  refine aw_iald dX0_swap_8 9 rfl ak1 rfl ok1 (fun h2 => ?_)
  refine aw_iast dX0_swap_9 10 rfl ak1 rfl ok1 (fun h3 => ?_)
  refine aw_ltm (fun u1 => ?_)
  refine aw_aload_n (i := 0) dX0_swap_10 11 rfl rfl 1 rfl ?_
  refine aw_iload_n (i := 2) dX0_swap_11 12 rfl rfl 3 rfl ?_
  refine aw_iload_n (i := 3) dX0_swap_12 13 rfl rfl 0 rfl ?_
  refine aw_iast dX0_swap_13 14 rfl ak1 rfl ok1 (fun h4 => ?_)
  refine aw_ltm (fun u2 => ?_)
  exact aw_vret dX0_swap_14 rfl
theorem dX0_swapShut_0 : decode cX0_swapShut 0 = .ok (.aload_n 0, 1) := by decide +kernel
theorem dX0_swapShut_1 : decode cX0_swapShut 1 = .ok (.getfield 24, 3) := by decide +kernel
theorem dX0_swapShut_4 : decode cX0_swapShut 4 = .ok (.iload_n 1, 1) := by decide +kernel
theorem dX0_swapShut_5 : decode cX0_swapShut 5 = .ok (.baload, 1) := by decide +kernel
theorem dX0_swapShut_6 : decode cX0_swapShut 6 = .ok (.istore_n 3, 1) := by decide +kernel
theorem dX0_swapShut_7 : decode cX0_swapShut 7 = .ok (.aload_n 0, 1) := by decide +kernel
theorem dX0_swapShut_8 : decode cX0_swapShut 8 = .ok (.getfield 24, 3) := by decide +kernel
theorem dX0_swapShut_11 : decode cX0_swapShut 11 = .ok (.iload_n 1, 1) := by decide +kernel
theorem dX0_swapShut_12 : decode cX0_swapShut 12 = .ok (.aload_n 0, 1) := by decide +kernel
theorem dX0_swapShut_13 : decode cX0_swapShut 13 = .ok (.getfield 24, 3) := by decide +kernel
theorem dX0_swapShut_16 : decode cX0_swapShut 16 = .ok (.iload_n 2, 1) := by decide +kernel
theorem dX0_swapShut_17 : decode cX0_swapShut 17 = .ok (.baload, 1) := by decide +kernel
theorem dX0_swapShut_18 : decode cX0_swapShut 18 = .ok (.bastore, 1) := by decide +kernel
theorem dX0_swapShut_19 : decode cX0_swapShut 19 = .ok (.aload_n 0, 1) := by decide +kernel
theorem dX0_swapShut_20 : decode cX0_swapShut 20 = .ok (.getfield 24, 3) := by decide +kernel
theorem dX0_swapShut_23 : decode cX0_swapShut 23 = .ok (.iload_n 2, 1) := by decide +kernel
theorem dX0_swapShut_24 : decode cX0_swapShut 24 = .ok (.iload_n 3, 1) := by decide +kernel
theorem dX0_swapShut_25 : decode cX0_swapShut 25 = .ok (.bastore, 1) := by decide +kernel
theorem dX0_swapShut_26 : decode cX0_swapShut 26 = .ok (.return_, 1) := by decide +kernel
noncomputable def f_X0_swapShut (o1 : Nat) (x1 : Int32) (x2 : Int32) (u0 : qM) : Option (Unit × qM) :=
  q_ck (q_in x1 96) (q_lt (u0.1 41 o1 (Int32.toNatClampNeg x1)) (fun (x3 : Int32) => q_ck (q_in x2 96) (q_ck (q_in x1 96) (q_lt (q_si u0 41 o1 (Int32.toNatClampNeg x1) (vp_nar .boolean (u0.1 41 o1 (Int32.toNatClampNeg x2)))) (fun (u1 : qM) => q_ck (q_in x2 96) (q_lt (q_si u1 41 o1 (Int32.toNatClampNeg x2) (vp_nar .boolean x3)) (fun (u2 : qM) => some ((), u2))))))))
set_option maxRecDepth 100000 in
set_option maxHeartbeats 4000000 in
theorem k_X0_swapShut (l : Launch) (G : qG) (o1 : Nat) (x1 : Int32) (x2 : Int32) (ho1 : o1 < 7) (u0 : qM) : qCt l G m_X0_swapShut q_cU [.ref (q_ad G 2 o1), .int x1, .int x2] u0 (f_X0_swapShut o1 x1 x2 u0) := by
  refine q_entry pk_X0_swapShut (Nat.le_of_ble_eq_true rfl) ?_
  show qAW l G m_X0_swapShut (q_mq G q_cU) 0 [(0, .ref (q_ad G 2 o1)), (1, .int x1), (2, .int x2)] [] u0 (f_X0_swapShut o1 x1 x2 u0)
  unfold f_X0_swapShut
  refine aw_aload_n (i := 0) dX0_swapShut_0 1 rfl rfl 0 rfl ?_
  refine gf_X0_4 dX0_swapShut_1 4 rfl wd_22 (ok_2 ho1) ?_
  refine aw_iload_n (i := 1) dX0_swapShut_4 5 rfl rfl 1 rfl ?_
  refine aw_zald dX0_swapShut_5 6 rfl at_41 (al_41 _) (ok_41 ho1) (fun h1 => ?_)
  refine aw_lti (fun x3 => ?_)
  refine aw_istore_n dX0_swapShut_6 7 rfl rfl [(3, .int x3), (0, .ref (q_ad G 2 o1)), (1, .int x1), (2, .int x2)] (by decide) rfl ?_
  refine aw_aload_n (i := 0) dX0_swapShut_7 8 rfl rfl 1 rfl ?_
  refine gf_X0_4 dX0_swapShut_8 11 rfl wd_22 (ok_2 ho1) ?_
  refine aw_iload_n (i := 1) dX0_swapShut_11 12 rfl rfl 2 rfl ?_
  refine aw_aload_n (i := 0) dX0_swapShut_12 13 rfl rfl 1 rfl ?_
  refine gf_X0_4 dX0_swapShut_13 16 rfl wd_22 (ok_2 ho1) ?_
  refine aw_iload_n (i := 2) dX0_swapShut_16 17 rfl rfl 3 rfl ?_
  refine aw_zald dX0_swapShut_17 18 rfl at_41 (al_41 _) (ok_41 ho1) (fun h2 => ?_)
  refine aw_zast dX0_swapShut_18 19 rfl at_41 (al_41 _) (ok_41 ho1) (fun h3 => ?_)
  refine aw_ltm (fun u1 => ?_)
  refine aw_aload_n (i := 0) dX0_swapShut_19 20 rfl rfl 1 rfl ?_
  refine gf_X0_4 dX0_swapShut_20 23 rfl wd_22 (ok_2 ho1) ?_
  refine aw_iload_n (i := 2) dX0_swapShut_23 24 rfl rfl 3 rfl ?_
  refine aw_iload_n (i := 3) dX0_swapShut_24 25 rfl rfl 0 rfl ?_
  refine aw_zast dX0_swapShut_25 26 rfl at_41 (al_41 _) (ok_41 ho1) (fun h4 => ?_)
  refine aw_ltm (fun u2 => ?_)
  exact aw_vret dX0_swapShut_26 rfl
theorem dX0_swapCells_0 : decode cX0_swapCells 0 = .ok (.aload_n 0, 1) := by decide +kernel
theorem dX0_swapCells_1 : decode cX0_swapCells 1 = .ok (.getfield 9, 3) := by decide +kernel
theorem dX0_swapCells_4 : decode cX0_swapCells 4 = .ok (.iload_n 1, 1) := by decide +kernel
theorem dX0_swapCells_5 : decode cX0_swapCells 5 = .ok (.iload_n 2, 1) := by decide +kernel
theorem dX0_swapCells_6 : decode cX0_swapCells 6 = .ok (.invokestatic 173, 3) := by decide +kernel
theorem dX0_swapCells_9 : decode cX0_swapCells 9 = .ok (.aload_n 0, 1) := by decide +kernel
theorem dX0_swapCells_10 : decode cX0_swapCells 10 = .ok (.getfield 15, 3) := by decide +kernel
theorem dX0_swapCells_13 : decode cX0_swapCells 13 = .ok (.iload_n 1, 1) := by decide +kernel
theorem dX0_swapCells_14 : decode cX0_swapCells 14 = .ok (.iload_n 2, 1) := by decide +kernel
theorem dX0_swapCells_15 : decode cX0_swapCells 15 = .ok (.invokestatic 173, 3) := by decide +kernel
theorem dX0_swapCells_18 : decode cX0_swapCells 18 = .ok (.iconst 0, 1) := by decide +kernel
theorem dX0_swapCells_19 : decode cX0_swapCells 19 = .ok (.istore_n 3, 1) := by decide +kernel
theorem dX0_swapCells_20 : decode cX0_swapCells 20 = .ok (.iload_n 3, 1) := by decide +kernel
theorem dX0_swapCells_21 : decode cX0_swapCells 21 = .ok (.iconst 3, 1) := by decide +kernel
theorem dX0_swapCells_22 : decode cX0_swapCells 22 = .ok (.if_icmp .ge 28, 3) := by decide +kernel
theorem dX0_swapCells_25 : decode cX0_swapCells 25 = .ok (.aload_n 0, 1) := by decide +kernel
theorem dX0_swapCells_26 : decode cX0_swapCells 26 = .ok (.getfield 18, 3) := by decide +kernel
theorem dX0_swapCells_29 : decode cX0_swapCells 29 = .ok (.iload_n 3, 1) := by decide +kernel
theorem dX0_swapCells_30 : decode cX0_swapCells 30 = .ok (.bipush 48, 2) := by decide +kernel
theorem dX0_swapCells_32 : decode cX0_swapCells 32 = .ok (.imul, 1) := by decide +kernel
theorem dX0_swapCells_33 : decode cX0_swapCells 33 = .ok (.iload_n 1, 1) := by decide +kernel
theorem dX0_swapCells_34 : decode cX0_swapCells 34 = .ok (.iadd, 1) := by decide +kernel
theorem dX0_swapCells_35 : decode cX0_swapCells 35 = .ok (.iload_n 3, 1) := by decide +kernel
theorem dX0_swapCells_36 : decode cX0_swapCells 36 = .ok (.bipush 48, 2) := by decide +kernel
theorem dX0_swapCells_38 : decode cX0_swapCells 38 = .ok (.imul, 1) := by decide +kernel
theorem dX0_swapCells_39 : decode cX0_swapCells 39 = .ok (.iload_n 2, 1) := by decide +kernel
theorem dX0_swapCells_40 : decode cX0_swapCells 40 = .ok (.iadd, 1) := by decide +kernel
theorem dX0_swapCells_41 : decode cX0_swapCells 41 = .ok (.invokestatic 173, 3) := by decide +kernel
theorem dX0_swapCells_44 : decode cX0_swapCells 44 = .ok (.iinc 3 1, 3) := by decide +kernel
theorem dX0_swapCells_47 : decode cX0_swapCells 47 = .ok (.goto (-27), 3) := by decide +kernel
theorem dX0_swapCells_50 : decode cX0_swapCells 50 = .ok (.aload_n 0, 1) := by decide +kernel
theorem dX0_swapCells_51 : decode cX0_swapCells 51 = .ok (.getfield 21, 3) := by decide +kernel
theorem dX0_swapCells_54 : decode cX0_swapCells 54 = .ok (.iconst 2, 1) := by decide +kernel
theorem dX0_swapCells_55 : decode cX0_swapCells 55 = .ok (.iload_n 1, 1) := by decide +kernel
theorem dX0_swapCells_56 : decode cX0_swapCells 56 = .ok (.imul, 1) := by decide +kernel
theorem dX0_swapCells_57 : decode cX0_swapCells 57 = .ok (.iconst 1, 1) := by decide +kernel
theorem dX0_swapCells_58 : decode cX0_swapCells 58 = .ok (.iadd, 1) := by decide +kernel
theorem dX0_swapCells_59 : decode cX0_swapCells 59 = .ok (.iconst 2, 1) := by decide +kernel
theorem dX0_swapCells_60 : decode cX0_swapCells 60 = .ok (.iload_n 2, 1) := by decide +kernel
theorem dX0_swapCells_61 : decode cX0_swapCells 61 = .ok (.imul, 1) := by decide +kernel
theorem dX0_swapCells_62 : decode cX0_swapCells 62 = .ok (.iconst 1, 1) := by decide +kernel
theorem dX0_swapCells_63 : decode cX0_swapCells 63 = .ok (.iadd, 1) := by decide +kernel
theorem dX0_swapCells_64 : decode cX0_swapCells 64 = .ok (.invokestatic 173, 3) := by decide +kernel
theorem dX0_swapCells_67 : decode cX0_swapCells 67 = .ok (.aload_n 0, 1) := by decide +kernel
theorem dX0_swapCells_68 : decode cX0_swapCells 68 = .ok (.iconst 2, 1) := by decide +kernel
theorem dX0_swapCells_69 : decode cX0_swapCells 69 = .ok (.iload_n 1, 1) := by decide +kernel
theorem dX0_swapCells_70 : decode cX0_swapCells 70 = .ok (.imul, 1) := by decide +kernel
theorem dX0_swapCells_71 : decode cX0_swapCells 71 = .ok (.iconst 1, 1) := by decide +kernel
theorem dX0_swapCells_72 : decode cX0_swapCells 72 = .ok (.iadd, 1) := by decide +kernel
theorem dX0_swapCells_73 : decode cX0_swapCells 73 = .ok (.iconst 2, 1) := by decide +kernel
theorem dX0_swapCells_74 : decode cX0_swapCells 74 = .ok (.iload_n 2, 1) := by decide +kernel
theorem dX0_swapCells_75 : decode cX0_swapCells 75 = .ok (.imul, 1) := by decide +kernel
theorem dX0_swapCells_76 : decode cX0_swapCells 76 = .ok (.iconst 1, 1) := by decide +kernel
theorem dX0_swapCells_77 : decode cX0_swapCells 77 = .ok (.iadd, 1) := by decide +kernel
theorem dX0_swapCells_78 : decode cX0_swapCells 78 = .ok (.invokevirtual 177, 3) := by decide +kernel
theorem dX0_swapCells_81 : decode cX0_swapCells 81 = .ok (.return_, 1) := by decide +kernel
noncomputable def L_X0_swapCells_20 (o1 : Nat) (x1 : Int32) (x2 : Int32) : Nat → Int32 → qM → (qM → Option (Unit × qM)) → Option (Unit × qM)
  | 0, _, _, _ => none
  | n + 1, x3, u3, e1 => if 3 ≤ x3 then e1 u3 else q_bd (f_X0_swap 39 o1 ((x3 * 48) + x1) ((x3 * 48) + x2) u3) (fun (_z : Unit) (u4 : qM) => q_lt (x3 + 1) (fun (x4 : Int32) => L_X0_swapCells_20 o1 x1 x2 n x4 u4 e1))
noncomputable def f_X0_swapCells (o1 : Nat) (x1 : Int32) (x2 : Int32) (u0 : qM) : Option (Unit × qM) :=
  q_bd (f_X0_swap 37 o1 x1 x2 u0) (fun (_z : Unit) (u1 : qM) => q_bd (f_X0_swap 38 o1 x1 x2 u1) (fun (_z : Unit) (u2 : qM) => L_X0_swapCells_20 o1 x1 x2 q_fu 0 u2 (fun u5 => q_bd (f_X0_swap 40 o1 ((2 * x1) + 1) ((2 * x2) + 1) u5) (fun (_z : Unit) (u6 : qM) => q_bd (f_X0_swapShut o1 ((2 * x1) + 1) ((2 * x2) + 1) u6) (fun (_z : Unit) (u7 : qM) => some ((), u7))))))
set_option maxRecDepth 100000 in
set_option maxHeartbeats 4000000 in
theorem TL_X0_swapCells_20 (l : Launch) (G : qG) (o1 : Nat) (x1 : Int32) (x2 : Int32) (q1 : o1 < 7) (e1 : qM → Option (Unit × qM)) (he1 : ∀  (v : qM), qAW l G m_X0_swapCells (q_mq G q_cU) 50 [(0, .ref (q_ad G 2 o1)), (1, .int x1), (2, .int x2)] [] v (e1 v)) : ∀ (n : Nat) (x3 : Int32) (u3 : qM), qAW l G m_X0_swapCells (q_mq G q_cU) 20 [(0, .ref (q_ad G 2 o1)), (1, .int x1), (2, .int x2), (3, .int x3)] [] u3 (L_X0_swapCells_20 o1 x1 x2 n x3 u3 e1) := by
  intro n
  induction n with
  | zero => intros; exact aw_none
  | succ n ih =>
    intro x3 u3
    unfold L_X0_swapCells_20
    refine aw_iload_n (i := 3) dX0_swapCells_20 21 rfl rfl 3 rfl ?_
    refine aw_iconst (x := 3) dX0_swapCells_21 22 rfl rfl ?_
    refine aw_icmp_ge dX0_swapCells_22 25 rfl 50 rfl (fun h1 => ?_) (fun h1 => ?_)
    · exact aw_conv [0, 1, 2] rfl (he1 u3)
    · refine aw_aload_n (i := 0) dX0_swapCells_25 26 rfl rfl 0 rfl ?_
      refine gf_X0_2 dX0_swapCells_26 29 rfl wd_20 (ok_2 q1) ?_
      refine aw_iload_n (i := 3) dX0_swapCells_29 30 rfl rfl 3 rfl ?_
      refine aw_bipush (x := 48) dX0_swapCells_30 32 rfl rfl ?_
      refine aw_imul dX0_swapCells_32 33 rfl ?_
      refine aw_iload_n (i := 1) dX0_swapCells_33 34 rfl rfl 1 rfl ?_
      refine aw_iadd dX0_swapCells_34 35 rfl ?_
      refine aw_iload_n (i := 3) dX0_swapCells_35 36 rfl rfl 3 rfl ?_
      refine aw_bipush (x := 48) dX0_swapCells_36 38 rfl rfl ?_
      refine aw_imul dX0_swapCells_38 39 rfl ?_
      refine aw_iload_n (i := 2) dX0_swapCells_39 40 rfl rfl 2 rfl ?_
      refine aw_iadd dX0_swapCells_40 41 rfl ?_
      refine aw_callS (M2 := m_X0_swap) (cv := q_cU) dX0_swapCells_41 44 rfl (k_X0_swap l G 39 o1 ((x3 * 48) + x1) ((x3 * 48) + x2) at_39 (ok_39 q1) u3) wd_40 wv_X0_swap pk_X0_swap rfl ⟨by decide, by decide⟩ ⟨Nat.zero_le _, Nat.zero_le _⟩ rfl (Nat.le_of_ble_eq_true rfl) (fun _z u4 => ?_)
      show qAW l G m_X0_swapCells (q_mq G q_cU) 44 [(0, .ref (q_ad G 2 o1)), (1, .int x1), (2, .int x2), (3, .int x3)] [] u4 _
      refine aw_iincx (i := 3) dX0_swapCells_44 47 rfl 3 rfl 1 rfl (fun x4 => [(3, .int x4), (0, .ref (q_ad G 2 o1)), (1, .int x1), (2, .int x2)]) (by decide) (fun _ => rfl) (fun x4 => ?_)
      refine aw_goto dX0_swapCells_47 20 rfl ?_
      exact aw_conv [1, 2, 3, 0] rfl (ih x4 u4)
set_option maxRecDepth 100000 in
set_option maxHeartbeats 4000000 in
theorem k_X0_swapCells (l : Launch) (G : qG) (o1 : Nat) (x1 : Int32) (x2 : Int32) (ho1 : o1 < 7) (u0 : qM) : qCt l G m_X0_swapCells q_cU [.ref (q_ad G 2 o1), .int x1, .int x2] u0 (f_X0_swapCells o1 x1 x2 u0) := by
  refine q_entry pk_X0_swapCells (Nat.le_of_ble_eq_true rfl) ?_
  show qAW l G m_X0_swapCells (q_mq G q_cU) 0 [(0, .ref (q_ad G 2 o1)), (1, .int x1), (2, .int x2)] [] u0 (f_X0_swapCells o1 x1 x2 u0)
  unfold f_X0_swapCells
  refine aw_aload_n (i := 0) dX0_swapCells_0 1 rfl rfl 0 rfl ?_
  refine gf_X0_0 dX0_swapCells_1 4 rfl wd_18 (ok_2 ho1) ?_
  refine aw_iload_n (i := 1) dX0_swapCells_4 5 rfl rfl 1 rfl ?_
  refine aw_iload_n (i := 2) dX0_swapCells_5 6 rfl rfl 2 rfl ?_
  refine aw_callS (M2 := m_X0_swap) (cv := q_cU) dX0_swapCells_6 9 rfl (k_X0_swap l G 37 o1 x1 x2 at_37 (ok_37 ho1) u0) wd_40 wv_X0_swap pk_X0_swap rfl ⟨by decide, by decide⟩ ⟨Nat.zero_le _, Nat.zero_le _⟩ rfl (Nat.le_of_ble_eq_true rfl) (fun _z u1 => ?_)
  show qAW l G m_X0_swapCells (q_mq G q_cU) 9 [(0, .ref (q_ad G 2 o1)), (1, .int x1), (2, .int x2)] [] u1 _
  refine aw_aload_n (i := 0) dX0_swapCells_9 10 rfl rfl 0 rfl ?_
  refine gf_X0_1 dX0_swapCells_10 13 rfl wd_19 (ok_2 ho1) ?_
  refine aw_iload_n (i := 1) dX0_swapCells_13 14 rfl rfl 1 rfl ?_
  refine aw_iload_n (i := 2) dX0_swapCells_14 15 rfl rfl 2 rfl ?_
  refine aw_callS (M2 := m_X0_swap) (cv := q_cU) dX0_swapCells_15 18 rfl (k_X0_swap l G 38 o1 x1 x2 at_38 (ok_38 ho1) u1) wd_40 wv_X0_swap pk_X0_swap rfl ⟨by decide, by decide⟩ ⟨Nat.zero_le _, Nat.zero_le _⟩ rfl (Nat.le_of_ble_eq_true rfl) (fun _z u2 => ?_)
  show qAW l G m_X0_swapCells (q_mq G q_cU) 18 [(0, .ref (q_ad G 2 o1)), (1, .int x1), (2, .int x2)] [] u2 _
  refine aw_iconst (x := 0) dX0_swapCells_18 19 rfl rfl ?_
  refine aw_istore_n dX0_swapCells_19 20 rfl rfl [(3, .int 0), (0, .ref (q_ad G 2 o1)), (1, .int x1), (2, .int x2)] (by decide) rfl ?_
  refine aw_conv [1, 2, 3, 0] rfl (TL_X0_swapCells_20 l G o1 x1 x2 ho1 _ ?_ _ 0 u2)
  · intro u5
    refine aw_aload_n (i := 0) dX0_swapCells_50 51 rfl rfl 0 rfl ?_
    refine gf_X0_3 dX0_swapCells_51 54 rfl wd_21 (ok_2 ho1) ?_
    refine aw_iconst (x := 2) dX0_swapCells_54 55 rfl rfl ?_
    refine aw_iload_n (i := 1) dX0_swapCells_55 56 rfl rfl 1 rfl ?_
    refine aw_imul dX0_swapCells_56 57 rfl ?_
    refine aw_iconst (x := 1) dX0_swapCells_57 58 rfl rfl ?_
    refine aw_iadd dX0_swapCells_58 59 rfl ?_
    refine aw_iconst (x := 2) dX0_swapCells_59 60 rfl rfl ?_
    refine aw_iload_n (i := 2) dX0_swapCells_60 61 rfl rfl 2 rfl ?_
    refine aw_imul dX0_swapCells_61 62 rfl ?_
    refine aw_iconst (x := 1) dX0_swapCells_62 63 rfl rfl ?_
    refine aw_iadd dX0_swapCells_63 64 rfl ?_
    refine aw_callS (M2 := m_X0_swap) (cv := q_cU) dX0_swapCells_64 67 rfl (k_X0_swap l G 40 o1 ((2 * x1) + 1) ((2 * x2) + 1) at_40 (ok_40 ho1) u5) wd_40 wv_X0_swap pk_X0_swap rfl ⟨by decide, by decide⟩ ⟨Nat.zero_le _, Nat.zero_le _⟩ rfl (Nat.le_of_ble_eq_true rfl) (fun _z u6 => ?_)
    show qAW l G m_X0_swapCells (q_mq G q_cU) 67 [(0, .ref (q_ad G 2 o1)), (1, .int x1), (2, .int x2)] [] u6 _
    refine aw_aload_n (i := 0) dX0_swapCells_67 68 rfl rfl 0 rfl ?_
    refine aw_iconst (x := 2) dX0_swapCells_68 69 rfl rfl ?_
    refine aw_iload_n (i := 1) dX0_swapCells_69 70 rfl rfl 1 rfl ?_
    refine aw_imul dX0_swapCells_70 71 rfl ?_
    refine aw_iconst (x := 1) dX0_swapCells_71 72 rfl rfl ?_
    refine aw_iadd dX0_swapCells_72 73 rfl ?_
    refine aw_iconst (x := 2) dX0_swapCells_73 74 rfl rfl ?_
    refine aw_iload_n (i := 2) dX0_swapCells_74 75 rfl rfl 2 rfl ?_
    refine aw_imul dX0_swapCells_75 76 rfl ?_
    refine aw_iconst (x := 1) dX0_swapCells_76 77 rfl rfl ?_
    refine aw_iadd dX0_swapCells_77 78 rfl ?_
    refine aw_callV (M2 := m_X0_swapShut) (cv := q_cU) dX0_swapCells_78 81 rfl (k_X0_swapShut l G o1 ((2 * x1) + 1) ((2 * x2) + 1) ho1 u6) wd_41 wv_X0_swapShut pk_X0_swapShut rfl rfl ⟨by decide, by decide⟩ ⟨Nat.zero_le _, Nat.zero_le _⟩ at_2 (ok_2 ho1) rfl rfl rfl (Nat.le_of_ble_eq_true rfl) (fun _z u7 => ?_)
    show qAW l G m_X0_swapCells (q_mq G q_cU) 81 [(0, .ref (q_ad G 2 o1)), (1, .int x1), (2, .int x2)] [] u7 _
    exact aw_vret dX0_swapCells_81 rfl
theorem dX0_swapRightSides_0 : decode cX0_swapRightSides 0 = .ok (.iload_n 1, 1) := by decide +kernel
theorem dX0_swapRightSides_1 : decode cX0_swapRightSides 1 = .ok (.iload_n 2, 1) := by decide +kernel
theorem dX0_swapRightSides_2 : decode cX0_swapRightSides 2 = .ok (.if_icmp .eq 12, 3) := by decide +kernel
theorem dX0_swapRightSides_5 : decode cX0_swapRightSides 5 = .ok (.aload_n 0, 1) := by decide +kernel
theorem dX0_swapRightSides_6 : decode cX0_swapRightSides 6 = .ok (.getfield 21, 3) := by decide +kernel
theorem dX0_swapRightSides_9 : decode cX0_swapRightSides 9 = .ok (.iload_n 1, 1) := by decide +kernel
theorem dX0_swapRightSides_10 : decode cX0_swapRightSides 10 = .ok (.iload_n 2, 1) := by decide +kernel
theorem dX0_swapRightSides_11 : decode cX0_swapRightSides 11 = .ok (.invokestatic 173, 3) := by decide +kernel
theorem dX0_swapRightSides_14 : decode cX0_swapRightSides 14 = .ok (.aload_n 0, 1) := by decide +kernel
theorem dX0_swapRightSides_15 : decode cX0_swapRightSides 15 = .ok (.getfield 21, 3) := by decide +kernel
theorem dX0_swapRightSides_18 : decode cX0_swapRightSides 18 = .ok (.iload_n 1, 1) := by decide +kernel
theorem dX0_swapRightSides_19 : decode cX0_swapRightSides 19 = .ok (.aload_n 0, 1) := by decide +kernel
theorem dX0_swapRightSides_20 : decode cX0_swapRightSides 20 = .ok (.getfield 21, 3) := by decide +kernel
theorem dX0_swapRightSides_23 : decode cX0_swapRightSides 23 = .ok (.iload_n 1, 1) := by decide +kernel
theorem dX0_swapRightSides_24 : decode cX0_swapRightSides 24 = .ok (.iaload, 1) := by decide +kernel
theorem dX0_swapRightSides_25 : decode cX0_swapRightSides 25 = .ok (.ineg, 1) := by decide +kernel
theorem dX0_swapRightSides_26 : decode cX0_swapRightSides 26 = .ok (.iastore, 1) := by decide +kernel
theorem dX0_swapRightSides_27 : decode cX0_swapRightSides 27 = .ok (.iload_n 1, 1) := by decide +kernel
theorem dX0_swapRightSides_28 : decode cX0_swapRightSides 28 = .ok (.iload_n 2, 1) := by decide +kernel
theorem dX0_swapRightSides_29 : decode cX0_swapRightSides 29 = .ok (.if_icmp .eq 16, 3) := by decide +kernel
theorem dX0_swapRightSides_32 : decode cX0_swapRightSides 32 = .ok (.aload_n 0, 1) := by decide +kernel
theorem dX0_swapRightSides_33 : decode cX0_swapRightSides 33 = .ok (.getfield 21, 3) := by decide +kernel
theorem dX0_swapRightSides_36 : decode cX0_swapRightSides 36 = .ok (.iload_n 2, 1) := by decide +kernel
theorem dX0_swapRightSides_37 : decode cX0_swapRightSides 37 = .ok (.aload_n 0, 1) := by decide +kernel
theorem dX0_swapRightSides_38 : decode cX0_swapRightSides 38 = .ok (.getfield 21, 3) := by decide +kernel
theorem dX0_swapRightSides_41 : decode cX0_swapRightSides 41 = .ok (.iload_n 2, 1) := by decide +kernel
theorem dX0_swapRightSides_42 : decode cX0_swapRightSides 42 = .ok (.iaload, 1) := by decide +kernel
theorem dX0_swapRightSides_43 : decode cX0_swapRightSides 43 = .ok (.ineg, 1) := by decide +kernel
theorem dX0_swapRightSides_44 : decode cX0_swapRightSides 44 = .ok (.iastore, 1) := by decide +kernel
theorem dX0_swapRightSides_45 : decode cX0_swapRightSides 45 = .ok (.aload_n 0, 1) := by decide +kernel
theorem dX0_swapRightSides_46 : decode cX0_swapRightSides 46 = .ok (.iload_n 1, 1) := by decide +kernel
theorem dX0_swapRightSides_47 : decode cX0_swapRightSides 47 = .ok (.iload_n 2, 1) := by decide +kernel
theorem dX0_swapRightSides_48 : decode cX0_swapRightSides 48 = .ok (.invokevirtual 177, 3) := by decide +kernel
theorem dX0_swapRightSides_51 : decode cX0_swapRightSides 51 = .ok (.return_, 1) := by decide +kernel
noncomputable def f_X0_swapRightSides (o1 : Nat) (x1 : Int32) (x2 : Int32) (u0 : qM) : Option (Unit × qM) :=
  q_jn (fun  (u1 : qM) => q_ck (q_in x1 96) (q_ck (q_in x1 96) (q_lt (q_si u1 40 o1 (Int32.toNatClampNeg x1) (-(u1.1 40 o1 (Int32.toNatClampNeg x1)))) (fun (u2 : qM) => q_jn (fun  (u3 : qM) => q_bd (f_X0_swapShut o1 x1 x2 u3) (fun (_z : Unit) (u4 : qM) => some ((), u4))) (fun j2 => if x1 = x2 then j2 u2 else q_ck (q_in x2 96) (q_ck (q_in x2 96) (q_lt (q_si u2 40 o1 (Int32.toNatClampNeg x2) (-(u2.1 40 o1 (Int32.toNatClampNeg x2)))) (fun (u5 : qM) => j2 u5)))))))) (fun j1 => if x1 = x2 then j1 u0 else q_bd (f_X0_swap 40 o1 x1 x2 u0) (fun (_z : Unit) (u6 : qM) => j1 u6))
set_option maxRecDepth 100000 in
set_option maxHeartbeats 4000000 in
theorem k_X0_swapRightSides (l : Launch) (G : qG) (o1 : Nat) (x1 : Int32) (x2 : Int32) (ho1 : o1 < 7) (u0 : qM) : qCt l G m_X0_swapRightSides q_cU [.ref (q_ad G 2 o1), .int x1, .int x2] u0 (f_X0_swapRightSides o1 x1 x2 u0) := by
  refine q_entry pk_X0_swapRightSides (Nat.le_of_ble_eq_true rfl) ?_
  show qAW l G m_X0_swapRightSides (q_mq G q_cU) 0 [(0, .ref (q_ad G 2 o1)), (1, .int x1), (2, .int x2)] [] u0 (f_X0_swapRightSides o1 x1 x2 u0)
  unfold f_X0_swapRightSides
  refine aw_iload_n (i := 1) dX0_swapRightSides_0 1 rfl rfl 1 rfl ?_
  refine aw_iload_n (i := 2) dX0_swapRightSides_1 2 rfl rfl 2 rfl ?_
  refine aw_jn (fun k => ∀  (u1 : qM), qAW l G m_X0_swapRightSides (q_mq G q_cU) 14 [(0, .ref (q_ad G 2 o1)), (1, .int x1), (2, .int x2)] [] u1 (k u1)) ?_ ?_
  · intro u1
    refine aw_aload_n (i := 0) dX0_swapRightSides_14 15 rfl rfl 0 rfl ?_
    refine gf_X0_3 dX0_swapRightSides_15 18 rfl wd_21 (ok_2 ho1) ?_
    refine aw_iload_n (i := 1) dX0_swapRightSides_18 19 rfl rfl 1 rfl ?_
    refine aw_aload_n (i := 0) dX0_swapRightSides_19 20 rfl rfl 0 rfl ?_
    refine gf_X0_3 dX0_swapRightSides_20 23 rfl wd_21 (ok_2 ho1) ?_
    refine aw_iload_n (i := 1) dX0_swapRightSides_23 24 rfl rfl 1 rfl ?_
    refine aw_iald dX0_swapRightSides_24 25 rfl at_40 (al_40 _) (ok_40 ho1) (fun h2 => ?_)
    refine aw_ineg dX0_swapRightSides_25 26 rfl ?_
    refine aw_iast dX0_swapRightSides_26 27 rfl at_40 (al_40 _) (ok_40 ho1) (fun h3 => ?_)
    refine aw_ltm (fun u2 => ?_)
    refine aw_iload_n (i := 1) dX0_swapRightSides_27 28 rfl rfl 1 rfl ?_
    refine aw_iload_n (i := 2) dX0_swapRightSides_28 29 rfl rfl 2 rfl ?_
    refine aw_jn (fun k => ∀  (u3 : qM), qAW l G m_X0_swapRightSides (q_mq G q_cU) 45 [(0, .ref (q_ad G 2 o1)), (1, .int x1), (2, .int x2)] [] u3 (k u3)) ?_ ?_
    · intro u3
      refine aw_aload_n (i := 0) dX0_swapRightSides_45 46 rfl rfl 0 rfl ?_
      refine aw_iload_n (i := 1) dX0_swapRightSides_46 47 rfl rfl 1 rfl ?_
      refine aw_iload_n (i := 2) dX0_swapRightSides_47 48 rfl rfl 2 rfl ?_
      refine aw_callV (M2 := m_X0_swapShut) (cv := q_cU) dX0_swapRightSides_48 51 rfl (k_X0_swapShut l G o1 x1 x2 ho1 u3) wd_41 wv_X0_swapShut pk_X0_swapShut rfl rfl ⟨by decide, by decide⟩ ⟨Nat.zero_le _, Nat.zero_le _⟩ at_2 (ok_2 ho1) rfl rfl rfl (Nat.le_of_ble_eq_true rfl) (fun _z u4 => ?_)
      show qAW l G m_X0_swapRightSides (q_mq G q_cU) 51 [(0, .ref (q_ad G 2 o1)), (1, .int x1), (2, .int x2)] [] u4 _
      exact aw_vret dX0_swapRightSides_51 rfl
    · intro j2 hj2
      refine aw_icmp_eq dX0_swapRightSides_29 32 rfl 45 rfl (fun h4 => ?_) (fun h4 => ?_)
      · exact hj2 u2
      · refine aw_aload_n (i := 0) dX0_swapRightSides_32 33 rfl rfl 0 rfl ?_
        refine gf_X0_3 dX0_swapRightSides_33 36 rfl wd_21 (ok_2 ho1) ?_
        refine aw_iload_n (i := 2) dX0_swapRightSides_36 37 rfl rfl 2 rfl ?_
        refine aw_aload_n (i := 0) dX0_swapRightSides_37 38 rfl rfl 0 rfl ?_
        refine gf_X0_3 dX0_swapRightSides_38 41 rfl wd_21 (ok_2 ho1) ?_
        refine aw_iload_n (i := 2) dX0_swapRightSides_41 42 rfl rfl 2 rfl ?_
        refine aw_iald dX0_swapRightSides_42 43 rfl at_40 (al_40 _) (ok_40 ho1) (fun h5 => ?_)
        refine aw_ineg dX0_swapRightSides_43 44 rfl ?_
        refine aw_iast dX0_swapRightSides_44 45 rfl at_40 (al_40 _) (ok_40 ho1) (fun h6 => ?_)
        refine aw_ltm (fun u5 => ?_)
        exact hj2 u5
  · intro j1 hj1
    refine aw_icmp_eq dX0_swapRightSides_2 5 rfl 14 rfl (fun h1 => ?_) (fun h1 => ?_)
    · exact hj1 u0
    · refine aw_aload_n (i := 0) dX0_swapRightSides_5 6 rfl rfl 0 rfl ?_
      refine gf_X0_3 dX0_swapRightSides_6 9 rfl wd_21 (ok_2 ho1) ?_
      refine aw_iload_n (i := 1) dX0_swapRightSides_9 10 rfl rfl 1 rfl ?_
      refine aw_iload_n (i := 2) dX0_swapRightSides_10 11 rfl rfl 2 rfl ?_
      refine aw_callS (M2 := m_X0_swap) (cv := q_cU) dX0_swapRightSides_11 14 rfl (k_X0_swap l G 40 o1 x1 x2 at_40 (ok_40 ho1) u0) wd_40 wv_X0_swap pk_X0_swap rfl ⟨by decide, by decide⟩ ⟨Nat.zero_le _, Nat.zero_le _⟩ rfl (Nat.le_of_ble_eq_true rfl) (fun _z u6 => ?_)
      show qAW l G m_X0_swapRightSides (q_mq G q_cU) 14 [(0, .ref (q_ad G 2 o1)), (1, .int x1), (2, .int x2)] [] u6 _
      exact hj1 u6
theorem dX0_turn_0 : decode cX0_turn 0 = .ok (.iconst 0, 1) := by decide +kernel
theorem dX0_turn_1 : decode cX0_turn 1 = .ok (.istore_n 1, 1) := by decide +kernel
theorem dX0_turn_2 : decode cX0_turn 2 = .ok (.iload_n 1, 1) := by decide +kernel
theorem dX0_turn_3 : decode cX0_turn 3 = .ok (.aload_n 0, 1) := by decide +kernel
theorem dX0_turn_4 : decode cX0_turn 4 = .ok (.invokevirtual 153, 3) := by decide +kernel
theorem dX0_turn_7 : decode cX0_turn 7 = .ok (.if_icmp .ge 57, 3) := by decide +kernel
theorem dX0_turn_10 : decode cX0_turn 10 = .ok (.aload_n 0, 1) := by decide +kernel
theorem dX0_turn_11 : decode cX0_turn 11 = .ok (.iload_n 1, 1) := by decide +kernel
theorem dX0_turn_12 : decode cX0_turn 12 = .ok (.invokevirtual 159, 3) := by decide +kernel
theorem dX0_turn_15 : decode cX0_turn 15 = .ok (.istore_n 2, 1) := by decide +kernel
theorem dX0_turn_16 : decode cX0_turn 16 = .ok (.iload_n 1, 1) := by decide +kernel
theorem dX0_turn_17 : decode cX0_turn 17 = .ok (.iload_n 2, 1) := by decide +kernel
theorem dX0_turn_18 : decode cX0_turn 18 = .ok (.if_icmp .ge 9, 3) := by decide +kernel
theorem dX0_turn_21 : decode cX0_turn 21 = .ok (.aload_n 0, 1) := by decide +kernel
theorem dX0_turn_22 : decode cX0_turn 22 = .ok (.iload_n 1, 1) := by decide +kernel
theorem dX0_turn_23 : decode cX0_turn 23 = .ok (.iload_n 2, 1) := by decide +kernel
theorem dX0_turn_24 : decode cX0_turn 24 = .ok (.invokevirtual 163, 3) := by decide +kernel
theorem dX0_turn_27 : decode cX0_turn 27 = .ok (.iconst 2, 1) := by decide +kernel
theorem dX0_turn_28 : decode cX0_turn 28 = .ok (.iload_n 1, 1) := by decide +kernel
theorem dX0_turn_29 : decode cX0_turn 29 = .ok (.imul, 1) := by decide +kernel
theorem dX0_turn_30 : decode cX0_turn 30 = .ok (.istore_n 3, 1) := by decide +kernel
theorem dX0_turn_31 : decode cX0_turn 31 = .ok (.aload_n 0, 1) := by decide +kernel
theorem dX0_turn_32 : decode cX0_turn 32 = .ok (.iload_n 3, 1) := by decide +kernel
theorem dX0_turn_33 : decode cX0_turn 33 = .ok (.invokevirtual 135, 3) := by decide +kernel
theorem dX0_turn_36 : decode cX0_turn 36 = .ok (.ifCond .eq 22, 3) := by decide +kernel
theorem dX0_turn_39 : decode cX0_turn 39 = .ok (.iload_n 3, 1) := by decide +kernel
theorem dX0_turn_40 : decode cX0_turn 40 = .ok (.iconst 2, 1) := by decide +kernel
theorem dX0_turn_41 : decode cX0_turn 41 = .ok (.iload_n 2, 1) := by decide +kernel
theorem dX0_turn_42 : decode cX0_turn 42 = .ok (.imul, 1) := by decide +kernel
theorem dX0_turn_43 : decode cX0_turn 43 = .ok (.iconst 2, 1) := by decide +kernel
theorem dX0_turn_44 : decode cX0_turn 44 = .ok (.isub, 1) := by decide +kernel
theorem dX0_turn_45 : decode cX0_turn 45 = .ok (.if_icmp .gt 13, 3) := by decide +kernel
theorem dX0_turn_48 : decode cX0_turn 48 = .ok (.aload_n 0, 1) := by decide +kernel
theorem dX0_turn_49 : decode cX0_turn 49 = .ok (.iload_n 3, 1) := by decide +kernel
theorem dX0_turn_50 : decode cX0_turn 50 = .ok (.iconst 2, 1) := by decide +kernel
theorem dX0_turn_51 : decode cX0_turn 51 = .ok (.iload_n 2, 1) := by decide +kernel
theorem dX0_turn_52 : decode cX0_turn 52 = .ok (.imul, 1) := by decide +kernel
theorem dX0_turn_53 : decode cX0_turn 53 = .ok (.iconst 2, 1) := by decide +kernel
theorem dX0_turn_54 : decode cX0_turn 54 = .ok (.isub, 1) := by decide +kernel
theorem dX0_turn_55 : decode cX0_turn 55 = .ok (.invokevirtual 167, 3) := by decide +kernel
theorem dX0_turn_58 : decode cX0_turn 58 = .ok (.iinc 1 1, 3) := by decide +kernel
theorem dX0_turn_61 : decode cX0_turn 61 = .ok (.goto (-59), 3) := by decide +kernel
theorem dX0_turn_64 : decode cX0_turn 64 = .ok (.aload_n 0, 1) := by decide +kernel
theorem dX0_turn_65 : decode cX0_turn 65 = .ok (.getfield 31, 3) := by decide +kernel
theorem dX0_turn_68 : decode cX0_turn 68 = .ok (.aload_n 0, 1) := by decide +kernel
theorem dX0_turn_69 : decode cX0_turn 69 = .ok (.getfield 31, 3) := by decide +kernel
theorem dX0_turn_72 : decode cX0_turn 72 = .ok (.getfield 132, 3) := by decide +kernel
theorem dX0_turn_75 : decode cX0_turn 75 = .ok (.ineg, 1) := by decide +kernel
theorem dX0_turn_76 : decode cX0_turn 76 = .ok (.putfield 132, 3) := by decide +kernel
theorem dX0_turn_79 : decode cX0_turn 79 = .ok (.iconst 0, 1) := by decide +kernel
theorem dX0_turn_80 : decode cX0_turn 80 = .ok (.istore_n 1, 1) := by decide +kernel
theorem dX0_turn_81 : decode cX0_turn 81 = .ok (.iload_n 1, 1) := by decide +kernel
theorem dX0_turn_82 : decode cX0_turn 82 = .ok (.aload_n 0, 1) := by decide +kernel
theorem dX0_turn_83 : decode cX0_turn 83 = .ok (.getfield 38, 3) := by decide +kernel
theorem dX0_turn_86 : decode cX0_turn 86 = .ok (.getfield 84, 3) := by decide +kernel
theorem dX0_turn_89 : decode cX0_turn 89 = .ok (.if_icmp .ge 31, 3) := by decide +kernel
theorem dX0_turn_92 : decode cX0_turn 92 = .ok (.aload_n 0, 1) := by decide +kernel
theorem dX0_turn_93 : decode cX0_turn 93 = .ok (.getfield 38, 3) := by decide +kernel
theorem dX0_turn_96 : decode cX0_turn 96 = .ok (.getfield 170, 3) := by decide +kernel
theorem dX0_turn_99 : decode cX0_turn 99 = .ok (.iload_n 1, 1) := by decide +kernel
theorem dX0_turn_100 : decode cX0_turn 100 = .ok (.aload_n 0, 1) := by decide +kernel
theorem dX0_turn_101 : decode cX0_turn 101 = .ok (.aload_n 0, 1) := by decide +kernel
theorem dX0_turn_102 : decode cX0_turn 102 = .ok (.getfield 38, 3) := by decide +kernel
theorem dX0_turn_105 : decode cX0_turn 105 = .ok (.getfield 170, 3) := by decide +kernel
theorem dX0_turn_108 : decode cX0_turn 108 = .ok (.iload_n 1, 1) := by decide +kernel
theorem dX0_turn_109 : decode cX0_turn 109 = .ok (.iaload, 1) := by decide +kernel
theorem dX0_turn_110 : decode cX0_turn 110 = .ok (.invokevirtual 159, 3) := by decide +kernel
theorem dX0_turn_113 : decode cX0_turn 113 = .ok (.iastore, 1) := by decide +kernel
theorem dX0_turn_114 : decode cX0_turn 114 = .ok (.iinc 1 1, 3) := by decide +kernel
theorem dX0_turn_117 : decode cX0_turn 117 = .ok (.goto (-36), 3) := by decide +kernel
theorem dX0_turn_120 : decode cX0_turn 120 = .ok (.return_, 1) := by decide +kernel
noncomputable def L_X0_turn_2 (o1 : Nat) : Nat → Int32 → qM → (qM → Option (Unit × qM)) → Option (Unit × qM)
  | 0, _, _, _ => none
  | n + 1, x1, u1, e1 => q_bd (f_X0_cells o1 u1) (fun (x2 : Int32) (u2 : qM) => if x2 ≤ x1 then e1 u2 else q_bd (f_X0_opposite o1 x1 u2) (fun (x3 : Int32) (u3 : qM) => q_jn (fun  (u4 : qM) => q_lt (2 * x1) (fun (x4 : Int32) => q_bd (f_X0_hasSide o1 x4 u4) (fun (x5 : Int32) (u5 : qM) => q_jn (fun  (u6 : qM) => q_lt (x1 + 1) (fun (x6 : Int32) => L_X0_turn_2 o1 n x6 u6 e1)) (fun j2 => if x5 = 0 then j2 u5 else if ((2 * x3) - 2) < x4 then j2 u5 else q_bd (f_X0_swapRightSides o1 x4 ((2 * x3) - 2) u5) (fun (_z : Unit) (u7 : qM) => j2 u7))))) (fun j1 => if x3 ≤ x1 then j1 u3 else q_bd (f_X0_swapCells o1 x1 x3 u3) (fun (_z : Unit) (u8 : qM) => j1 u8))))
noncomputable def L_X0_turn_81 (o1 : Nat) : Nat → Int32 → qM → (qM → Option (Unit × qM)) → Option (Unit × qM)
  | 0, _, _, _ => none
  | n + 1, x7, u11, e1 => if (u11.1 4 o1 2) ≤ x7 then e1 u11 else q_ck (q_in x7 4) (q_bd (f_X0_opposite o1 (u11.1 43 o1 (Int32.toNatClampNeg x7)) u11) (fun (x8 : Int32) (u12 : qM) => q_ck (q_in x7 4) (q_lt (q_si u12 43 o1 (Int32.toNatClampNeg x7) x8) (fun (u13 : qM) => q_lt (x7 + 1) (fun (x9 : Int32) => L_X0_turn_81 o1 n x9 u13 e1)))))
noncomputable def f_X0_turn (o1 : Nat) (u0 : qM) : Option (Unit × qM) :=
  L_X0_turn_2 o1 q_fu 0 u0 (fun u9 => q_lt (q_si u9 3 o1 2 (-(u9.1 3 o1 2))) (fun (u10 : qM) => L_X0_turn_81 o1 q_fu 0 u10 (fun u14 => some ((), u14))))
set_option maxRecDepth 100000 in
set_option maxHeartbeats 4000000 in
theorem TL_X0_turn_2 (l : Launch) (G : qG) (o1 : Nat) (q1 : o1 < 7) (e1 : qM → Option (Unit × qM)) (he1 : ∀  (v : qM), qAW l G m_X0_turn (q_mq G q_cU) 64 [(0, .ref (q_ad G 2 o1))] [] v (e1 v)) : ∀ (n : Nat) (x1 : Int32) (u1 : qM), qAW l G m_X0_turn (q_mq G q_cU) 2 [(0, .ref (q_ad G 2 o1)), (1, .int x1)] [] u1 (L_X0_turn_2 o1 n x1 u1 e1) := by
  intro n
  induction n with
  | zero => intros; exact aw_none
  | succ n ih =>
    intro x1 u1
    unfold L_X0_turn_2
    refine aw_iload_n (i := 1) dX0_turn_2 3 rfl rfl 1 rfl ?_
    refine aw_aload_n (i := 0) dX0_turn_3 4 rfl rfl 0 rfl ?_
    refine aw_callV (M2 := m_X0_cells) (cv := q_cI) dX0_turn_4 7 rfl (k_X0_cells l G o1 q1 u1) wd_37 wv_X0_cells pk_X0_cells rfl rfl ⟨by decide, by decide⟩ ⟨Nat.zero_le _, Nat.zero_le _⟩ at_2 (ok_2 q1) rfl rfl rfl (Nat.le_of_ble_eq_true rfl) (fun x2 u2 => ?_)
    show qAW l G m_X0_turn (q_mq G q_cU) 7 [(0, .ref (q_ad G 2 o1)), (1, .int x1)] [.int x2, .int x1] u2 _
    refine aw_icmp_ge dX0_turn_7 10 rfl 64 rfl (fun h1 => ?_) (fun h1 => ?_)
    · exact aw_conv [0] rfl (he1 u2)
    · refine aw_aload_n (i := 0) dX0_turn_10 11 rfl rfl 0 rfl ?_
      refine aw_iload_n (i := 1) dX0_turn_11 12 rfl rfl 1 rfl ?_
      refine aw_callV (M2 := m_X0_opposite) (cv := q_cI) dX0_turn_12 15 rfl (k_X0_opposite l G o1 x1 q1 u2) wd_42 wv_X0_opposite pk_X0_opposite rfl rfl ⟨by decide, by decide⟩ ⟨Nat.zero_le _, Nat.zero_le _⟩ at_2 (ok_2 q1) rfl rfl rfl (Nat.le_of_ble_eq_true rfl) (fun x3 u3 => ?_)
      show qAW l G m_X0_turn (q_mq G q_cU) 15 [(0, .ref (q_ad G 2 o1)), (1, .int x1)] [.int x3] u3 _
      refine aw_istore_n dX0_turn_15 16 rfl rfl [(2, .int x3), (0, .ref (q_ad G 2 o1)), (1, .int x1)] (by decide) rfl ?_
      refine aw_iload_n (i := 1) dX0_turn_16 17 rfl rfl 2 rfl ?_
      refine aw_iload_n (i := 2) dX0_turn_17 18 rfl rfl 0 rfl ?_
      refine aw_jn (fun k => ∀  (u4 : qM), qAW l G m_X0_turn (q_mq G q_cU) 27 [(0, .ref (q_ad G 2 o1)), (1, .int x1), (2, .int x3)] [] u4 (k u4)) ?_ ?_
      · intro u4
        refine aw_iconst (x := 2) dX0_turn_27 28 rfl rfl ?_
        refine aw_iload_n (i := 1) dX0_turn_28 29 rfl rfl 1 rfl ?_
        refine aw_imul dX0_turn_29 30 rfl ?_
        refine aw_lti (fun x4 => ?_)
        refine aw_istore_n dX0_turn_30 31 rfl rfl [(3, .int x4), (0, .ref (q_ad G 2 o1)), (1, .int x1), (2, .int x3)] (by decide) rfl ?_
        refine aw_aload_n (i := 0) dX0_turn_31 32 rfl rfl 1 rfl ?_
        refine aw_iload_n (i := 3) dX0_turn_32 33 rfl rfl 0 rfl ?_
        refine aw_callV (M2 := m_X0_hasSide) (cv := q_cI) dX0_turn_33 36 rfl (k_X0_hasSide l G o1 x4 q1 u4) wd_43 wv_X0_hasSide pk_X0_hasSide rfl rfl ⟨by decide, by decide⟩ ⟨Nat.zero_le _, Nat.zero_le _⟩ at_2 (ok_2 q1) rfl rfl rfl (Nat.le_of_ble_eq_true rfl) (fun x5 u5 => ?_)
        show qAW l G m_X0_turn (q_mq G q_cU) 36 [(3, .int x4), (0, .ref (q_ad G 2 o1)), (1, .int x1), (2, .int x3)] [.int x5] u5 _
        refine aw_jn (fun k => ∀  (u6 : qM), qAW l G m_X0_turn (q_mq G q_cU) 58 [(0, .ref (q_ad G 2 o1)), (1, .int x1)] [] u6 (k u6)) ?_ ?_
        · intro u6
          refine aw_iincx (i := 1) dX0_turn_58 61 rfl 1 rfl 1 rfl (fun x6 => [(1, .int x6), (0, .ref (q_ad G 2 o1))]) (by decide) (fun _ => rfl) (fun x6 => ?_)
          refine aw_goto dX0_turn_61 2 rfl ?_
          exact aw_conv [1, 0] rfl (ih x6 u6)
        · intro j2 hj2
          refine aw_if_eq dX0_turn_36 39 rfl 58 rfl (fun h3 => ?_) (fun h3 => ?_)
          · exact aw_conv [1, 2] rfl (hj2 u5)
          · refine aw_iload_n (i := 3) dX0_turn_39 40 rfl rfl 0 rfl ?_
            refine aw_iconst (x := 2) dX0_turn_40 41 rfl rfl ?_
            refine aw_iload_n (i := 2) dX0_turn_41 42 rfl rfl 3 rfl ?_
            refine aw_imul dX0_turn_42 43 rfl ?_
            refine aw_iconst (x := 2) dX0_turn_43 44 rfl rfl ?_
            refine aw_isub dX0_turn_44 45 rfl ?_
            refine aw_icmp_gt dX0_turn_45 48 rfl 58 rfl (fun h4 => ?_) (fun h4 => ?_)
            · exact aw_conv [1, 2] rfl (hj2 u5)
            · refine aw_aload_n (i := 0) dX0_turn_48 49 rfl rfl 1 rfl ?_
              refine aw_iload_n (i := 3) dX0_turn_49 50 rfl rfl 0 rfl ?_
              refine aw_iconst (x := 2) dX0_turn_50 51 rfl rfl ?_
              refine aw_iload_n (i := 2) dX0_turn_51 52 rfl rfl 3 rfl ?_
              refine aw_imul dX0_turn_52 53 rfl ?_
              refine aw_iconst (x := 2) dX0_turn_53 54 rfl rfl ?_
              refine aw_isub dX0_turn_54 55 rfl ?_
              refine aw_callV (M2 := m_X0_swapRightSides) (cv := q_cU) dX0_turn_55 58 rfl (k_X0_swapRightSides l G o1 x4 ((2 * x3) - 2) q1 u5) wd_44 wv_X0_swapRightSides pk_X0_swapRightSides rfl rfl ⟨by decide, by decide⟩ ⟨Nat.zero_le _, Nat.zero_le _⟩ at_2 (ok_2 q1) rfl rfl rfl (Nat.le_of_ble_eq_true rfl) (fun _z u7 => ?_)
              show qAW l G m_X0_turn (q_mq G q_cU) 58 [(3, .int x4), (0, .ref (q_ad G 2 o1)), (1, .int x1), (2, .int x3)] [] u7 _
              exact aw_conv [1, 2] rfl (hj2 u7)
      · intro j1 hj1
        refine aw_icmp_ge dX0_turn_18 21 rfl 27 rfl (fun h2 => ?_) (fun h2 => ?_)
        · exact aw_conv [1, 2, 0] rfl (hj1 u3)
        · refine aw_aload_n (i := 0) dX0_turn_21 22 rfl rfl 1 rfl ?_
          refine aw_iload_n (i := 1) dX0_turn_22 23 rfl rfl 2 rfl ?_
          refine aw_iload_n (i := 2) dX0_turn_23 24 rfl rfl 0 rfl ?_
          refine aw_callV (M2 := m_X0_swapCells) (cv := q_cU) dX0_turn_24 27 rfl (k_X0_swapCells l G o1 x1 x3 q1 u3) wd_45 wv_X0_swapCells pk_X0_swapCells rfl rfl ⟨by decide, by decide⟩ ⟨Nat.zero_le _, Nat.zero_le _⟩ at_2 (ok_2 q1) rfl rfl rfl (Nat.le_of_ble_eq_true rfl) (fun _z u8 => ?_)
          show qAW l G m_X0_turn (q_mq G q_cU) 27 [(2, .int x3), (0, .ref (q_ad G 2 o1)), (1, .int x1)] [] u8 _
          exact aw_conv [1, 2, 0] rfl (hj1 u8)
set_option maxRecDepth 100000 in
set_option maxHeartbeats 4000000 in
theorem TL_X0_turn_81 (l : Launch) (G : qG) (o1 : Nat) (q2 : o1 < 7) (e1 : qM → Option (Unit × qM)) (he1 : ∀  (v : qM), qAW l G m_X0_turn (q_mq G q_cU) 120 [] [] v (e1 v)) : ∀ (n : Nat) (x7 : Int32) (u11 : qM), qAW l G m_X0_turn (q_mq G q_cU) 81 [(0, .ref (q_ad G 2 o1)), (1, .int x7)] [] u11 (L_X0_turn_81 o1 n x7 u11 e1) := by
  intro n
  induction n with
  | zero => intros; exact aw_none
  | succ n ih =>
    intro x7 u11
    unfold L_X0_turn_81
    refine aw_iload_n (i := 1) dX0_turn_81 82 rfl rfl 1 rfl ?_
    refine aw_aload_n (i := 0) dX0_turn_82 83 rfl rfl 0 rfl ?_
    refine gf_X0_6 dX0_turn_83 86 rfl wd_14 (ok_2 q2) ?_
    refine gfN_X5_2 dX0_turn_86 89 rfl "SeaCells" (ns_16) (ok_4 q2) ?_
    refine aw_icmp_ge dX0_turn_89 92 rfl 120 rfl (fun h5 => ?_) (fun h5 => ?_)
    · exact aw_conv [] rfl (he1 u11)
    · refine aw_aload_n (i := 0) dX0_turn_92 93 rfl rfl 0 rfl ?_
      refine gf_X0_6 dX0_turn_93 96 rfl wd_14 (ok_2 q2) ?_
      refine gfN_X5_0 dX0_turn_96 99 rfl "SeaCells" (ns_12) (ok_4 q2) ?_
      refine aw_iload_n (i := 1) dX0_turn_99 100 rfl rfl 1 rfl ?_
      refine aw_aload_n (i := 0) dX0_turn_100 101 rfl rfl 0 rfl ?_
      refine aw_aload_n (i := 0) dX0_turn_101 102 rfl rfl 0 rfl ?_
      refine gf_X0_6 dX0_turn_102 105 rfl wd_14 (ok_2 q2) ?_
      refine gfN_X5_0 dX0_turn_105 108 rfl "SeaCells" (ns_12) (ok_4 q2) ?_
      refine aw_iload_n (i := 1) dX0_turn_108 109 rfl rfl 1 rfl ?_
      refine aw_iald dX0_turn_109 110 rfl at_43 (al_43 _) (ok_43 q2) (fun h6 => ?_)
      refine aw_callV (M2 := m_X0_opposite) (cv := q_cI) dX0_turn_110 113 rfl (k_X0_opposite l G o1 (u11.1 43 o1 (Int32.toNatClampNeg x7)) q2 u11) wd_42 wv_X0_opposite pk_X0_opposite rfl rfl ⟨by decide, by decide⟩ ⟨Nat.zero_le _, Nat.zero_le _⟩ at_2 (ok_2 q2) rfl rfl rfl (Nat.le_of_ble_eq_true rfl) (fun x8 u12 => ?_)
      show qAW l G m_X0_turn (q_mq G q_cU) 113 [(0, .ref (q_ad G 2 o1)), (1, .int x7)] [.int x8, .int x7, .ref (q_ad G 43 o1)] u12 _
      refine aw_iast dX0_turn_113 114 rfl at_43 (al_43 _) (ok_43 q2) (fun h7 => ?_)
      refine aw_ltm (fun u13 => ?_)
      refine aw_iincx (i := 1) dX0_turn_114 117 rfl 1 rfl 1 rfl (fun x9 => [(1, .int x9), (0, .ref (q_ad G 2 o1))]) (by decide) (fun _ => rfl) (fun x9 => ?_)
      refine aw_goto dX0_turn_117 81 rfl ?_
      exact aw_conv [1, 0] rfl (ih x9 u13)
set_option maxRecDepth 100000 in
set_option maxHeartbeats 4000000 in
theorem k_X0_turn (l : Launch) (G : qG) (o1 : Nat) (ho1 : o1 < 7) (u0 : qM) : qCt l G m_X0_turn q_cU [.ref (q_ad G 2 o1)] u0 (f_X0_turn o1 u0) := by
  refine q_entry pk_X0_turn (Nat.le_of_ble_eq_true rfl) ?_
  show qAW l G m_X0_turn (q_mq G q_cU) 0 [(0, .ref (q_ad G 2 o1))] [] u0 (f_X0_turn o1 u0)
  unfold f_X0_turn
  refine aw_iconst (x := 0) dX0_turn_0 1 rfl rfl ?_
  refine aw_istore_n dX0_turn_1 2 rfl rfl [(1, .int 0), (0, .ref (q_ad G 2 o1))] (by decide) rfl ?_
  refine aw_conv [1, 0] rfl (TL_X0_turn_2 l G o1 ho1 _ ?_ _ 0 u0)
  · intro u9
    refine aw_aload_n (i := 0) dX0_turn_64 65 rfl rfl 0 rfl ?_
    refine gf_X0_5 dX0_turn_65 68 rfl wd_15 (ok_2 ho1) ?_
    refine aw_aload_n (i := 0) dX0_turn_68 69 rfl rfl 0 rfl ?_
    refine gf_X0_5 dX0_turn_69 72 rfl wd_15 (ok_2 ho1) ?_
    refine gfN_X3_2 dX0_turn_72 75 rfl "SeaCells" (ns_7) (ok_3 ho1) ?_
    refine aw_ineg dX0_turn_75 76 rfl ?_
    refine pfN_X3_2 dX0_turn_76 79 rfl "SeaCells" (ns_7) (ok_3 ho1) ?_
    refine aw_ltm (fun u10 => ?_)
    refine aw_iconst (x := 0) dX0_turn_79 80 rfl rfl ?_
    refine aw_istore_n dX0_turn_80 81 rfl rfl [(1, .int 0), (0, .ref (q_ad G 2 o1))] (by decide) rfl ?_
    refine aw_conv [1, 0] rfl (TL_X0_turn_81 l G o1 ho1 _ ?_ _ 0 u10)
    · intro u14
      exact aw_vret dX0_turn_120 rfl
theorem dX0_underCell_0 : decode cX0_underCell 0 = .ok (.aload_n 0, 1) := by decide +kernel
theorem dX0_underCell_1 : decode cX0_underCell 1 = .ok (.getfield 52, 3) := by decide +kernel
theorem dX0_underCell_4 : decode cX0_underCell 4 = .ok (.iconst 2, 1) := by decide +kernel
theorem dX0_underCell_5 : decode cX0_underCell 5 = .ok (.idiv, 1) := by decide +kernel
theorem dX0_underCell_6 : decode cX0_underCell 6 = .ok (.istore_n 3, 1) := by decide +kernel
theorem dX0_underCell_7 : decode cX0_underCell 7 = .ok (.aload_n 0, 1) := by decide +kernel
theorem dX0_underCell_8 : decode cX0_underCell 8 = .ok (.getfield 45, 3) := by decide +kernel
theorem dX0_underCell_11 : decode cX0_underCell 11 = .ok (.getfield 180, 3) := by decide +kernel
theorem dX0_underCell_14 : decode cX0_underCell 14 = .ok (.iload_n 1, 1) := by decide +kernel
theorem dX0_underCell_15 : decode cX0_underCell 15 = .ok (.iload_n 3, 1) := by decide +kernel
theorem dX0_underCell_16 : decode cX0_underCell 16 = .ok (.idiv, 1) := by decide +kernel
theorem dX0_underCell_17 : decode cX0_underCell 17 = .ok (.iadd, 1) := by decide +kernel
theorem dX0_underCell_18 : decode cX0_underCell 18 = .ok (.aload_n 2, 1) := by decide +kernel
theorem dX0_underCell_19 : decode cX0_underCell 19 = .ok (.getfield 52, 3) := by decide +kernel
theorem dX0_underCell_22 : decode cX0_underCell 22 = .ok (.imul, 1) := by decide +kernel
theorem dX0_underCell_23 : decode cX0_underCell 23 = .ok (.aload_n 0, 1) := by decide +kernel
theorem dX0_underCell_24 : decode cX0_underCell 24 = .ok (.getfield 45, 3) := by decide +kernel
theorem dX0_underCell_27 : decode cX0_underCell 27 = .ok (.getfield 183, 3) := by decide +kernel
theorem dX0_underCell_30 : decode cX0_underCell 30 = .ok (.iadd, 1) := by decide +kernel
theorem dX0_underCell_31 : decode cX0_underCell 31 = .ok (.iload_n 1, 1) := by decide +kernel
theorem dX0_underCell_32 : decode cX0_underCell 32 = .ok (.iload_n 3, 1) := by decide +kernel
theorem dX0_underCell_33 : decode cX0_underCell 33 = .ok (.irem, 1) := by decide +kernel
theorem dX0_underCell_34 : decode cX0_underCell 34 = .ok (.iadd, 1) := by decide +kernel
theorem dX0_underCell_35 : decode cX0_underCell 35 = .ok (.ireturn, 1) := by decide +kernel
noncomputable def f_X0_underCell (o1 : Nat) (x1 : Int32) (o2 : Nat) (u0 : qM) : Option (Int32 × qM) :=
  q_lt ((u0.1 2 o1 12) / 2) (fun (x2 : Int32) => q_ck (q_nz x2) (q_ck (q_nz x2) (some (((((u0.1 5 o1 4) + (x1 / x2)) * (u0.1 2 o2 12)) + (u0.1 5 o1 3)) + (x1 - x1 / x2 * x2), u0))))
set_option maxRecDepth 100000 in
set_option maxHeartbeats 4000000 in
theorem k_X0_underCell (l : Launch) (G : qG) (o1 : Nat) (x1 : Int32) (o2 : Nat) (ho1 : o1 < 7) (ho2 : o2 < 7) (u0 : qM) : qCt l G m_X0_underCell q_cI [.ref (q_ad G 2 o1), .int x1, .ref (q_ad G 2 o2)] u0 (f_X0_underCell o1 x1 o2 u0) := by
  refine q_entry pk_X0_underCell (Nat.le_of_ble_eq_true rfl) ?_
  show qAW l G m_X0_underCell (q_mq G q_cI) 0 [(0, .ref (q_ad G 2 o1)), (1, .int x1), (2, .ref (q_ad G 2 o2))] [] u0 (f_X0_underCell o1 x1 o2 u0)
  unfold f_X0_underCell
  refine aw_aload_n (i := 0) dX0_underCell_0 1 rfl rfl 0 rfl ?_
  refine gf_X0_12 dX0_underCell_1 4 rfl wd_6 (ok_2 ho1) ?_
  refine aw_iconst (x := 2) dX0_underCell_4 5 rfl rfl ?_
  refine aw_idiv dX0_underCell_5 6 rfl (by decide) ?_
  refine aw_lti (fun x2 => ?_)
  refine aw_istore_n dX0_underCell_6 7 rfl rfl [(3, .int x2), (0, .ref (q_ad G 2 o1)), (1, .int x1), (2, .ref (q_ad G 2 o2))] (by decide) rfl ?_
  refine aw_aload_n (i := 0) dX0_underCell_7 8 rfl rfl 1 rfl ?_
  refine gf_X0_7 dX0_underCell_8 11 rfl wd_17 (ok_2 ho1) ?_
  refine gfN_X4_4 dX0_underCell_11 14 rfl "SeaCells" (ns_25) (ok_5 ho1) ?_
  refine aw_iload_n (i := 1) dX0_underCell_14 15 rfl rfl 2 rfl ?_
  refine aw_iload_n (i := 3) dX0_underCell_15 16 rfl rfl 0 rfl ?_
  refine aw_ck (fun h1 => ?_)
  refine aw_idiv dX0_underCell_16 17 rfl (of_decide_eq_true h1) ?_
  refine aw_iadd dX0_underCell_17 18 rfl ?_
  refine aw_aload_n (i := 2) dX0_underCell_18 19 rfl rfl 3 rfl ?_
  refine gf_X0_12 dX0_underCell_19 22 rfl wd_6 (ok_2 ho2) ?_
  refine aw_imul dX0_underCell_22 23 rfl ?_
  refine aw_aload_n (i := 0) dX0_underCell_23 24 rfl rfl 1 rfl ?_
  refine gf_X0_7 dX0_underCell_24 27 rfl wd_17 (ok_2 ho1) ?_
  refine gfN_X4_3 dX0_underCell_27 30 rfl "SeaCells" (ns_23) (ok_5 ho1) ?_
  refine aw_iadd dX0_underCell_30 31 rfl ?_
  refine aw_iload_n (i := 1) dX0_underCell_31 32 rfl rfl 2 rfl ?_
  refine aw_iload_n (i := 3) dX0_underCell_32 33 rfl rfl 0 rfl ?_
  refine aw_ck (fun h2 => ?_)
  refine aw_irem dX0_underCell_33 34 rfl (of_decide_eq_true h2) ?_
  refine aw_iadd dX0_underCell_34 35 rfl ?_
  exact aw_iret dX0_underCell_35 rfl
theorem dX0_fineCell_0 : decode cX0_fineCell 0 = .ok (.aload_n 0, 1) := by decide +kernel
theorem dX0_fineCell_1 : decode cX0_fineCell 1 = .ok (.getfield 52, 3) := by decide +kernel
theorem dX0_fineCell_4 : decode cX0_fineCell 4 = .ok (.iconst 2, 1) := by decide +kernel
theorem dX0_fineCell_5 : decode cX0_fineCell 5 = .ok (.idiv, 1) := by decide +kernel
theorem dX0_fineCell_6 : decode cX0_fineCell 6 = .ok (.istore_n 3, 1) := by decide +kernel
theorem dX0_fineCell_7 : decode cX0_fineCell 7 = .ok (.iconst 2, 1) := by decide +kernel
theorem dX0_fineCell_8 : decode cX0_fineCell 8 = .ok (.iload_n 1, 1) := by decide +kernel
theorem dX0_fineCell_9 : decode cX0_fineCell 9 = .ok (.iload_n 3, 1) := by decide +kernel
theorem dX0_fineCell_10 : decode cX0_fineCell 10 = .ok (.irem, 1) := by decide +kernel
theorem dX0_fineCell_11 : decode cX0_fineCell 11 = .ok (.imul, 1) := by decide +kernel
theorem dX0_fineCell_12 : decode cX0_fineCell 12 = .ok (.iload_n 2, 1) := by decide +kernel
theorem dX0_fineCell_13 : decode cX0_fineCell 13 = .ok (.iconst 2, 1) := by decide +kernel
theorem dX0_fineCell_14 : decode cX0_fineCell 14 = .ok (.irem, 1) := by decide +kernel
theorem dX0_fineCell_15 : decode cX0_fineCell 15 = .ok (.iadd, 1) := by decide +kernel
theorem dX0_fineCell_16 : decode cX0_fineCell 16 = .ok (.istore 4, 2) := by decide +kernel
theorem dX0_fineCell_18 : decode cX0_fineCell 18 = .ok (.iconst 2, 1) := by decide +kernel
theorem dX0_fineCell_19 : decode cX0_fineCell 19 = .ok (.iload_n 1, 1) := by decide +kernel
theorem dX0_fineCell_20 : decode cX0_fineCell 20 = .ok (.iload_n 3, 1) := by decide +kernel
theorem dX0_fineCell_21 : decode cX0_fineCell 21 = .ok (.idiv, 1) := by decide +kernel
theorem dX0_fineCell_22 : decode cX0_fineCell 22 = .ok (.imul, 1) := by decide +kernel
theorem dX0_fineCell_23 : decode cX0_fineCell 23 = .ok (.iload_n 2, 1) := by decide +kernel
theorem dX0_fineCell_24 : decode cX0_fineCell 24 = .ok (.iconst 2, 1) := by decide +kernel
theorem dX0_fineCell_25 : decode cX0_fineCell 25 = .ok (.idiv, 1) := by decide +kernel
theorem dX0_fineCell_26 : decode cX0_fineCell 26 = .ok (.iadd, 1) := by decide +kernel
theorem dX0_fineCell_27 : decode cX0_fineCell 27 = .ok (.istore 5, 2) := by decide +kernel
theorem dX0_fineCell_29 : decode cX0_fineCell 29 = .ok (.iload 5, 2) := by decide +kernel
theorem dX0_fineCell_31 : decode cX0_fineCell 31 = .ok (.aload_n 0, 1) := by decide +kernel
theorem dX0_fineCell_32 : decode cX0_fineCell 32 = .ok (.getfield 52, 3) := by decide +kernel
theorem dX0_fineCell_35 : decode cX0_fineCell 35 = .ok (.imul, 1) := by decide +kernel
theorem dX0_fineCell_36 : decode cX0_fineCell 36 = .ok (.iload 4, 2) := by decide +kernel
theorem dX0_fineCell_38 : decode cX0_fineCell 38 = .ok (.iadd, 1) := by decide +kernel
theorem dX0_fineCell_39 : decode cX0_fineCell 39 = .ok (.ireturn, 1) := by decide +kernel
noncomputable def f_X0_fineCell (o1 : Nat) (x1 : Int32) (x2 : Int32) (u0 : qM) : Option (Int32 × qM) :=
  q_lt ((u0.1 2 o1 12) / 2) (fun (x3 : Int32) => q_ck (q_nz x3) (q_lt ((2 * (x1 - x1 / x3 * x3)) + (x2 - x2 / 2 * 2)) (fun (x4 : Int32) => q_ck (q_nz x3) (q_lt ((2 * (x1 / x3)) + (x2 / 2)) (fun (x5 : Int32) => some ((x5 * (u0.1 2 o1 12)) + x4, u0))))))
set_option maxRecDepth 100000 in
set_option maxHeartbeats 4000000 in
theorem k_X0_fineCell (l : Launch) (G : qG) (o1 : Nat) (x1 : Int32) (x2 : Int32) (ho1 : o1 < 7) (u0 : qM) : qCt l G m_X0_fineCell q_cI [.ref (q_ad G 2 o1), .int x1, .int x2] u0 (f_X0_fineCell o1 x1 x2 u0) := by
  refine q_entry pk_X0_fineCell (Nat.le_of_ble_eq_true rfl) ?_
  show qAW l G m_X0_fineCell (q_mq G q_cI) 0 [(0, .ref (q_ad G 2 o1)), (1, .int x1), (2, .int x2)] [] u0 (f_X0_fineCell o1 x1 x2 u0)
  unfold f_X0_fineCell
  refine aw_aload_n (i := 0) dX0_fineCell_0 1 rfl rfl 0 rfl ?_
  refine gf_X0_12 dX0_fineCell_1 4 rfl wd_6 (ok_2 ho1) ?_
  refine aw_iconst (x := 2) dX0_fineCell_4 5 rfl rfl ?_
  refine aw_idiv dX0_fineCell_5 6 rfl (by decide) ?_
  refine aw_lti (fun x3 => ?_)
  refine aw_istore_n dX0_fineCell_6 7 rfl rfl [(3, .int x3), (0, .ref (q_ad G 2 o1)), (1, .int x1), (2, .int x2)] (by decide) rfl ?_
  refine aw_iconst (x := 2) dX0_fineCell_7 8 rfl rfl ?_
  refine aw_iload_n (i := 1) dX0_fineCell_8 9 rfl rfl 2 rfl ?_
  refine aw_iload_n (i := 3) dX0_fineCell_9 10 rfl rfl 0 rfl ?_
  refine aw_ck (fun h1 => ?_)
  refine aw_irem dX0_fineCell_10 11 rfl (of_decide_eq_true h1) ?_
  refine aw_imul dX0_fineCell_11 12 rfl ?_
  refine aw_iload_n (i := 2) dX0_fineCell_12 13 rfl rfl 3 rfl ?_
  refine aw_iconst (x := 2) dX0_fineCell_13 14 rfl rfl ?_
  refine aw_irem dX0_fineCell_14 15 rfl (by decide) ?_
  refine aw_iadd dX0_fineCell_15 16 rfl ?_
  refine aw_lti (fun x4 => ?_)
  refine aw_istore dX0_fineCell_16 18 rfl [(4, .int x4), (3, .int x3), (0, .ref (q_ad G 2 o1)), (1, .int x1), (2, .int x2)] (by decide) rfl ?_
  refine aw_iconst (x := 2) dX0_fineCell_18 19 rfl rfl ?_
  refine aw_iload_n (i := 1) dX0_fineCell_19 20 rfl rfl 3 rfl ?_
  refine aw_iload_n (i := 3) dX0_fineCell_20 21 rfl rfl 1 rfl ?_
  refine aw_ck (fun h2 => ?_)
  refine aw_idiv dX0_fineCell_21 22 rfl (of_decide_eq_true h2) ?_
  refine aw_imul dX0_fineCell_22 23 rfl ?_
  refine aw_iload_n (i := 2) dX0_fineCell_23 24 rfl rfl 4 rfl ?_
  refine aw_iconst (x := 2) dX0_fineCell_24 25 rfl rfl ?_
  refine aw_idiv dX0_fineCell_25 26 rfl (by decide) ?_
  refine aw_iadd dX0_fineCell_26 27 rfl ?_
  refine aw_lti (fun x5 => ?_)
  refine aw_istore dX0_fineCell_27 29 rfl [(5, .int x5), (4, .int x4), (3, .int x3), (0, .ref (q_ad G 2 o1)), (1, .int x1), (2, .int x2)] (by decide) rfl ?_
  refine aw_iload (i := 5) dX0_fineCell_29 31 rfl 0 rfl ?_
  refine aw_aload_n (i := 0) dX0_fineCell_31 32 rfl rfl 3 rfl ?_
  refine gf_X0_12 dX0_fineCell_32 35 rfl wd_6 (ok_2 ho1) ?_
  refine aw_imul dX0_fineCell_35 36 rfl ?_
  refine aw_iload (i := 4) dX0_fineCell_36 38 rfl 1 rfl ?_
  refine aw_iadd dX0_fineCell_38 39 rfl ?_
  exact aw_iret dX0_fineCell_39 rfl
theorem dX0_layOn_0 : decode cX0_layOn 0 = .ok (.iconst 0, 1) := by decide +kernel
theorem dX0_layOn_1 : decode cX0_layOn 1 = .ok (.istore_n 2, 1) := by decide +kernel
theorem dX0_layOn_2 : decode cX0_layOn 2 = .ok (.iload_n 2, 1) := by decide +kernel
theorem dX0_layOn_3 : decode cX0_layOn 3 = .ok (.aload_n 0, 1) := by decide +kernel
theorem dX0_layOn_4 : decode cX0_layOn 4 = .ok (.invokevirtual 153, 3) := by decide +kernel
theorem dX0_layOn_7 : decode cX0_layOn 7 = .ok (.iconst 4, 1) := by decide +kernel
theorem dX0_layOn_8 : decode cX0_layOn 8 = .ok (.idiv, 1) := by decide +kernel
theorem dX0_layOn_9 : decode cX0_layOn 9 = .ok (.if_icmp .ge 91, 3) := by decide +kernel
theorem dX0_layOn_12 : decode cX0_layOn 12 = .ok (.aload_n 0, 1) := by decide +kernel
theorem dX0_layOn_13 : decode cX0_layOn 13 = .ok (.iload_n 2, 1) := by decide +kernel
theorem dX0_layOn_14 : decode cX0_layOn 14 = .ok (.aload_n 1, 1) := by decide +kernel
theorem dX0_layOn_15 : decode cX0_layOn 15 = .ok (.invokevirtual 186, 3) := by decide +kernel
theorem dX0_layOn_18 : decode cX0_layOn 18 = .ok (.istore_n 3, 1) := by decide +kernel
theorem dX0_layOn_19 : decode cX0_layOn 19 = .ok (.iconst 0, 1) := by decide +kernel
theorem dX0_layOn_20 : decode cX0_layOn 20 = .ok (.istore 4, 2) := by decide +kernel
theorem dX0_layOn_22 : decode cX0_layOn 22 = .ok (.iload 4, 2) := by decide +kernel
theorem dX0_layOn_24 : decode cX0_layOn 24 = .ok (.iconst 4, 1) := by decide +kernel
theorem dX0_layOn_25 : decode cX0_layOn 25 = .ok (.if_icmp .ge 44, 3) := by decide +kernel
theorem dX0_layOn_28 : decode cX0_layOn 28 = .ok (.aload_n 0, 1) := by decide +kernel
theorem dX0_layOn_29 : decode cX0_layOn 29 = .ok (.iload_n 2, 1) := by decide +kernel
theorem dX0_layOn_30 : decode cX0_layOn 30 = .ok (.iload 4, 2) := by decide +kernel
theorem dX0_layOn_32 : decode cX0_layOn 32 = .ok (.invokevirtual 190, 3) := by decide +kernel
theorem dX0_layOn_35 : decode cX0_layOn 35 = .ok (.istore 5, 2) := by decide +kernel
theorem dX0_layOn_37 : decode cX0_layOn 37 = .ok (.aload_n 0, 1) := by decide +kernel
theorem dX0_layOn_38 : decode cX0_layOn 38 = .ok (.getfield 9, 3) := by decide +kernel
theorem dX0_layOn_41 : decode cX0_layOn 41 = .ok (.iload 5, 2) := by decide +kernel
theorem dX0_layOn_43 : decode cX0_layOn 43 = .ok (.aload_n 1, 1) := by decide +kernel
theorem dX0_layOn_44 : decode cX0_layOn 44 = .ok (.getfield 9, 3) := by decide +kernel
theorem dX0_layOn_47 : decode cX0_layOn 47 = .ok (.iload_n 3, 1) := by decide +kernel
theorem dX0_layOn_48 : decode cX0_layOn 48 = .ok (.iaload, 1) := by decide +kernel
theorem dX0_layOn_49 : decode cX0_layOn 49 = .ok (.iastore, 1) := by decide +kernel
theorem dX0_layOn_50 : decode cX0_layOn 50 = .ok (.aload_n 0, 1) := by decide +kernel
theorem dX0_layOn_51 : decode cX0_layOn 51 = .ok (.getfield 15, 3) := by decide +kernel
theorem dX0_layOn_54 : decode cX0_layOn 54 = .ok (.iload 5, 2) := by decide +kernel
theorem dX0_layOn_56 : decode cX0_layOn 56 = .ok (.aload_n 1, 1) := by decide +kernel
theorem dX0_layOn_57 : decode cX0_layOn 57 = .ok (.getfield 15, 3) := by decide +kernel
theorem dX0_layOn_60 : decode cX0_layOn 60 = .ok (.iload_n 3, 1) := by decide +kernel
theorem dX0_layOn_61 : decode cX0_layOn 61 = .ok (.iaload, 1) := by decide +kernel
theorem dX0_layOn_62 : decode cX0_layOn 62 = .ok (.iastore, 1) := by decide +kernel
theorem dX0_layOn_63 : decode cX0_layOn 63 = .ok (.iinc 4 1, 3) := by decide +kernel
theorem dX0_layOn_66 : decode cX0_layOn 66 = .ok (.goto (-44), 3) := by decide +kernel
theorem dX0_layOn_69 : decode cX0_layOn 69 = .ok (.aload_n 0, 1) := by decide +kernel
theorem dX0_layOn_70 : decode cX0_layOn 70 = .ok (.getfield 45, 3) := by decide +kernel
theorem dX0_layOn_73 : decode cX0_layOn 73 = .ok (.getfield 193, 3) := by decide +kernel
theorem dX0_layOn_76 : decode cX0_layOn 76 = .ok (.iload_n 2, 1) := by decide +kernel
theorem dX0_layOn_77 : decode cX0_layOn 77 = .ok (.aload_n 1, 1) := by decide +kernel
theorem dX0_layOn_78 : decode cX0_layOn 78 = .ok (.getfield 15, 3) := by decide +kernel
theorem dX0_layOn_81 : decode cX0_layOn 81 = .ok (.iload_n 3, 1) := by decide +kernel
theorem dX0_layOn_82 : decode cX0_layOn 82 = .ok (.iaload, 1) := by decide +kernel
theorem dX0_layOn_83 : decode cX0_layOn 83 = .ok (.iastore, 1) := by decide +kernel
theorem dX0_layOn_84 : decode cX0_layOn 84 = .ok (.aload_n 0, 1) := by decide +kernel
theorem dX0_layOn_85 : decode cX0_layOn 85 = .ok (.getfield 45, 3) := by decide +kernel
theorem dX0_layOn_88 : decode cX0_layOn 88 = .ok (.getfield 156, 3) := by decide +kernel
theorem dX0_layOn_91 : decode cX0_layOn 91 = .ok (.iload_n 2, 1) := by decide +kernel
theorem dX0_layOn_92 : decode cX0_layOn 92 = .ok (.iconst 0, 1) := by decide +kernel
theorem dX0_layOn_93 : decode cX0_layOn 93 = .ok (.iastore, 1) := by decide +kernel
theorem dX0_layOn_94 : decode cX0_layOn 94 = .ok (.iinc 2 1, 3) := by decide +kernel
theorem dX0_layOn_97 : decode cX0_layOn 97 = .ok (.goto (-95), 3) := by decide +kernel
theorem dX0_layOn_100 : decode cX0_layOn 100 = .ok (.return_, 1) := by decide +kernel
noncomputable def L_X0_layOn_22 (o1 : Nat) (o2 : Nat) (x1 : Int32) (x3 : Int32) : Nat → Int32 → qM → (qM → Option (Unit × qM)) → Option (Unit × qM)
  | 0, _, _, _ => none
  | n + 1, x4, u4, e1 => if 4 ≤ x4 then e1 u4 else q_bd (f_X0_fineCell o1 x1 x4 u4) (fun (x5 : Int32) (u5 : qM) => q_ck (q_in x3 48) (q_ck (q_in x5 48) (q_lt (q_si u5 37 o1 (Int32.toNatClampNeg x5) (u5.1 37 o2 (Int32.toNatClampNeg x3))) (fun (u6 : qM) => q_ck (q_in x3 48) (q_ck (q_in x5 48) (q_lt (q_si u6 38 o1 (Int32.toNatClampNeg x5) (u6.1 38 o2 (Int32.toNatClampNeg x3))) (fun (u7 : qM) => q_lt (x4 + 1) (fun (x6 : Int32) => L_X0_layOn_22 o1 o2 x1 x3 n x6 u7 e1))))))))
noncomputable def L_X0_layOn_2 (o1 : Nat) (o2 : Nat) : Nat → Int32 → qM → (qM → Option (Unit × qM)) → Option (Unit × qM)
  | 0, _, _, _ => none
  | n + 1, x1, u1, e1 => q_bd (f_X0_cells o1 u1) (fun (x2 : Int32) (u2 : qM) => if (x2 / 4) ≤ x1 then e1 u2 else q_bd (f_X0_underCell o1 x1 o2 u2) (fun (x3 : Int32) (u3 : qM) => L_X0_layOn_22 o1 o2 x1 x3 q_fu 0 u3 (fun u8 => q_ck (q_in x3 48) (q_ck (q_in x1 12) (q_lt (q_si u8 45 o1 (Int32.toNatClampNeg x1) (u8.1 38 o2 (Int32.toNatClampNeg x3))) (fun (u9 : qM) => q_ck (q_in x1 12) (q_lt (q_si u9 46 o1 (Int32.toNatClampNeg x1) 0) (fun (u10 : qM) => q_lt (x1 + 1) (fun (x7 : Int32) => L_X0_layOn_2 o1 o2 n x7 u10 e1)))))))))
noncomputable def f_X0_layOn (o1 : Nat) (o2 : Nat) (u0 : qM) : Option (Unit × qM) :=
  L_X0_layOn_2 o1 o2 q_fu 0 u0 (fun u11 => some ((), u11))
set_option maxRecDepth 100000 in
set_option maxHeartbeats 4000000 in
theorem TL_X0_layOn_22 (l : Launch) (G : qG) (o1 : Nat) (o2 : Nat) (x1 : Int32) (x3 : Int32) (q3 : o1 < 7) (q4 : o2 < 7) (e1 : qM → Option (Unit × qM)) (he1 : ∀  (v : qM), qAW l G m_X0_layOn (q_mq G q_cU) 69 [(0, .ref (q_ad G 2 o1)), (1, .ref (q_ad G 2 o2)), (2, .int x1), (3, .int x3)] [] v (e1 v)) : ∀ (n : Nat) (x4 : Int32) (u4 : qM), qAW l G m_X0_layOn (q_mq G q_cU) 22 [(0, .ref (q_ad G 2 o1)), (1, .ref (q_ad G 2 o2)), (2, .int x1), (3, .int x3), (4, .int x4)] [] u4 (L_X0_layOn_22 o1 o2 x1 x3 n x4 u4 e1) := by
  intro n
  induction n with
  | zero => intros; exact aw_none
  | succ n ih =>
    intro x4 u4
    unfold L_X0_layOn_22
    refine aw_iload (i := 4) dX0_layOn_22 24 rfl 4 rfl ?_
    refine aw_iconst (x := 4) dX0_layOn_24 25 rfl rfl ?_
    refine aw_icmp_ge dX0_layOn_25 28 rfl 69 rfl (fun h2 => ?_) (fun h2 => ?_)
    · exact aw_conv [0, 1, 2, 3] rfl (he1 u4)
    · refine aw_aload_n (i := 0) dX0_layOn_28 29 rfl rfl 0 rfl ?_
      refine aw_iload_n (i := 2) dX0_layOn_29 30 rfl rfl 2 rfl ?_
      refine aw_iload (i := 4) dX0_layOn_30 32 rfl 4 rfl ?_
      refine aw_callV (M2 := m_X0_fineCell) (cv := q_cI) dX0_layOn_32 35 rfl (k_X0_fineCell l G o1 x1 x4 q3 u4) wd_47 wv_X0_fineCell pk_X0_fineCell rfl rfl ⟨by decide, by decide⟩ ⟨Nat.zero_le _, Nat.zero_le _⟩ at_2 (ok_2 q3) rfl rfl rfl (Nat.le_of_ble_eq_true rfl) (fun x5 u5 => ?_)
      show qAW l G m_X0_layOn (q_mq G q_cU) 35 [(0, .ref (q_ad G 2 o1)), (1, .ref (q_ad G 2 o2)), (2, .int x1), (3, .int x3), (4, .int x4)] [.int x5] u5 _
      refine aw_istore dX0_layOn_35 37 rfl [(5, .int x5), (0, .ref (q_ad G 2 o1)), (1, .ref (q_ad G 2 o2)), (2, .int x1), (3, .int x3), (4, .int x4)] (by decide) rfl ?_
      refine aw_aload_n (i := 0) dX0_layOn_37 38 rfl rfl 1 rfl ?_
      refine gf_X0_0 dX0_layOn_38 41 rfl wd_18 (ok_2 q3) ?_
      refine aw_iload (i := 5) dX0_layOn_41 43 rfl 0 rfl ?_
      refine aw_aload_n (i := 1) dX0_layOn_43 44 rfl rfl 2 rfl ?_
      refine gf_X0_0 dX0_layOn_44 47 rfl wd_18 (ok_2 q4) ?_
      refine aw_iload_n (i := 3) dX0_layOn_47 48 rfl rfl 4 rfl ?_
      refine aw_iald dX0_layOn_48 49 rfl at_37 (al_37 _) (ok_37 q4) (fun h3 => ?_)
      refine aw_iast dX0_layOn_49 50 rfl at_37 (al_37 _) (ok_37 q3) (fun h4 => ?_)
      refine aw_ltm (fun u6 => ?_)
      refine aw_aload_n (i := 0) dX0_layOn_50 51 rfl rfl 1 rfl ?_
      refine gf_X0_1 dX0_layOn_51 54 rfl wd_19 (ok_2 q3) ?_
      refine aw_iload (i := 5) dX0_layOn_54 56 rfl 0 rfl ?_
      refine aw_aload_n (i := 1) dX0_layOn_56 57 rfl rfl 2 rfl ?_
      refine gf_X0_1 dX0_layOn_57 60 rfl wd_19 (ok_2 q4) ?_
      refine aw_iload_n (i := 3) dX0_layOn_60 61 rfl rfl 4 rfl ?_
      refine aw_iald dX0_layOn_61 62 rfl at_38 (al_38 _) (ok_38 q4) (fun h5 => ?_)
      refine aw_iast dX0_layOn_62 63 rfl at_38 (al_38 _) (ok_38 q3) (fun h6 => ?_)
      refine aw_ltm (fun u7 => ?_)
      refine aw_iincx (i := 4) dX0_layOn_63 66 rfl 5 rfl 1 rfl (fun x6 => [(4, .int x6), (5, .int x5), (0, .ref (q_ad G 2 o1)), (1, .ref (q_ad G 2 o2)), (2, .int x1), (3, .int x3)]) (by decide) (fun _ => rfl) (fun x6 => ?_)
      refine aw_goto dX0_layOn_66 22 rfl ?_
      exact aw_conv [2, 3, 4, 5, 0] rfl (ih x6 u7)
set_option maxRecDepth 100000 in
set_option maxHeartbeats 4000000 in
theorem TL_X0_layOn_2 (l : Launch) (G : qG) (o1 : Nat) (o2 : Nat) (q1 : o1 < 7) (q2 : o2 < 7) (e1 : qM → Option (Unit × qM)) (he1 : ∀  (v : qM), qAW l G m_X0_layOn (q_mq G q_cU) 100 [] [] v (e1 v)) : ∀ (n : Nat) (x1 : Int32) (u1 : qM), qAW l G m_X0_layOn (q_mq G q_cU) 2 [(0, .ref (q_ad G 2 o1)), (1, .ref (q_ad G 2 o2)), (2, .int x1)] [] u1 (L_X0_layOn_2 o1 o2 n x1 u1 e1) := by
  intro n
  induction n with
  | zero => intros; exact aw_none
  | succ n ih =>
    intro x1 u1
    unfold L_X0_layOn_2
    refine aw_iload_n (i := 2) dX0_layOn_2 3 rfl rfl 2 rfl ?_
    refine aw_aload_n (i := 0) dX0_layOn_3 4 rfl rfl 0 rfl ?_
    refine aw_callV (M2 := m_X0_cells) (cv := q_cI) dX0_layOn_4 7 rfl (k_X0_cells l G o1 q1 u1) wd_37 wv_X0_cells pk_X0_cells rfl rfl ⟨by decide, by decide⟩ ⟨Nat.zero_le _, Nat.zero_le _⟩ at_2 (ok_2 q1) rfl rfl rfl (Nat.le_of_ble_eq_true rfl) (fun x2 u2 => ?_)
    show qAW l G m_X0_layOn (q_mq G q_cU) 7 [(0, .ref (q_ad G 2 o1)), (1, .ref (q_ad G 2 o2)), (2, .int x1)] [.int x2, .int x1] u2 _
    refine aw_iconst (x := 4) dX0_layOn_7 8 rfl rfl ?_
    refine aw_idiv dX0_layOn_8 9 rfl (by decide) ?_
    refine aw_icmp_ge dX0_layOn_9 12 rfl 100 rfl (fun h1 => ?_) (fun h1 => ?_)
    · exact aw_conv [] rfl (he1 u2)
    · refine aw_aload_n (i := 0) dX0_layOn_12 13 rfl rfl 0 rfl ?_
      refine aw_iload_n (i := 2) dX0_layOn_13 14 rfl rfl 2 rfl ?_
      refine aw_aload_n (i := 1) dX0_layOn_14 15 rfl rfl 1 rfl ?_
      refine aw_callV (M2 := m_X0_underCell) (cv := q_cI) dX0_layOn_15 18 rfl (k_X0_underCell l G o1 x1 o2 q1 q2 u2) wd_46 wv_X0_underCell pk_X0_underCell rfl rfl ⟨by decide, by decide⟩ ⟨Nat.zero_le _, Nat.zero_le _⟩ at_2 (ok_2 q1) rfl rfl rfl (Nat.le_of_ble_eq_true rfl) (fun x3 u3 => ?_)
      show qAW l G m_X0_layOn (q_mq G q_cU) 18 [(0, .ref (q_ad G 2 o1)), (1, .ref (q_ad G 2 o2)), (2, .int x1)] [.int x3] u3 _
      refine aw_istore_n dX0_layOn_18 19 rfl rfl [(3, .int x3), (0, .ref (q_ad G 2 o1)), (1, .ref (q_ad G 2 o2)), (2, .int x1)] (by decide) rfl ?_
      refine aw_iconst (x := 0) dX0_layOn_19 20 rfl rfl ?_
      refine aw_istore dX0_layOn_20 22 rfl [(4, .int 0), (3, .int x3), (0, .ref (q_ad G 2 o1)), (1, .ref (q_ad G 2 o2)), (2, .int x1)] (by decide) rfl ?_
      refine aw_conv [2, 3, 4, 1, 0] rfl (TL_X0_layOn_22 l G o1 o2 x1 x3 q1 q2 _ ?_ _ 0 u3)
      · intro u8
        refine aw_aload_n (i := 0) dX0_layOn_69 70 rfl rfl 0 rfl ?_
        refine gf_X0_7 dX0_layOn_70 73 rfl wd_17 (ok_2 q1) ?_
        refine gfN_X4_0 dX0_layOn_73 76 rfl "SeaCells" (ns_19) (ok_5 q1) ?_
        refine aw_iload_n (i := 2) dX0_layOn_76 77 rfl rfl 2 rfl ?_
        refine aw_aload_n (i := 1) dX0_layOn_77 78 rfl rfl 1 rfl ?_
        refine gf_X0_1 dX0_layOn_78 81 rfl wd_19 (ok_2 q2) ?_
        refine aw_iload_n (i := 3) dX0_layOn_81 82 rfl rfl 3 rfl ?_
        refine aw_iald dX0_layOn_82 83 rfl at_38 (al_38 _) (ok_38 q2) (fun h7 => ?_)
        refine aw_iast dX0_layOn_83 84 rfl at_45 (al_45 _) (ok_45 q1) (fun h8 => ?_)
        refine aw_ltm (fun u9 => ?_)
        refine aw_aload_n (i := 0) dX0_layOn_84 85 rfl rfl 0 rfl ?_
        refine gf_X0_7 dX0_layOn_85 88 rfl wd_17 (ok_2 q1) ?_
        refine gfN_X4_1 dX0_layOn_88 91 rfl "SeaCells" (ns_20) (ok_5 q1) ?_
        refine aw_iload_n (i := 2) dX0_layOn_91 92 rfl rfl 2 rfl ?_
        refine aw_iconst (x := 0) dX0_layOn_92 93 rfl rfl ?_
        refine aw_iast dX0_layOn_93 94 rfl at_46 (al_46 _) (ok_46 q1) (fun h9 => ?_)
        refine aw_ltm (fun u10 => ?_)
        refine aw_iincx (i := 2) dX0_layOn_94 97 rfl 2 rfl 1 rfl (fun x7 => [(2, .int x7), (0, .ref (q_ad G 2 o1)), (1, .ref (q_ad G 2 o2)), (3, .int x3)]) (by decide) (fun _ => rfl) (fun x7 => ?_)
        refine aw_goto dX0_layOn_97 2 rfl ?_
        exact aw_conv [1, 2, 0] rfl (ih x7 u10)
set_option maxRecDepth 100000 in
set_option maxHeartbeats 4000000 in
theorem k_X0_layOn (l : Launch) (G : qG) (o1 : Nat) (o2 : Nat) (ho1 : o1 < 7) (ho2 : o2 < 7) (u0 : qM) : qCt l G m_X0_layOn q_cU [.ref (q_ad G 2 o1), .ref (q_ad G 2 o2)] u0 (f_X0_layOn o1 o2 u0) := by
  refine q_entry pk_X0_layOn (Nat.le_of_ble_eq_true rfl) ?_
  show qAW l G m_X0_layOn (q_mq G q_cU) 0 [(0, .ref (q_ad G 2 o1)), (1, .ref (q_ad G 2 o2))] [] u0 (f_X0_layOn o1 o2 u0)
  unfold f_X0_layOn
  refine aw_iconst (x := 0) dX0_layOn_0 1 rfl rfl ?_
  refine aw_istore_n dX0_layOn_1 2 rfl rfl [(2, .int 0), (0, .ref (q_ad G 2 o1)), (1, .ref (q_ad G 2 o2))] (by decide) rfl ?_
  refine aw_conv [1, 2, 0] rfl (TL_X0_layOn_2 l G o1 o2 ho1 ho2 _ ?_ _ 0 u0)
  · intro u11
    exact aw_vret dX0_layOn_100 rfl
theorem dJ9_floorDiv_7cf53_0 : decode cJ9_floorDiv_7cf53 0 = .ok (.iload_n 0, 1) := by decide +kernel
theorem dJ9_floorDiv_7cf53_1 : decode cJ9_floorDiv_7cf53 1 = .ok (.iload_n 1, 1) := by decide +kernel
theorem dJ9_floorDiv_7cf53_2 : decode cJ9_floorDiv_7cf53 2 = .ok (.idiv, 1) := by decide +kernel
theorem dJ9_floorDiv_7cf53_3 : decode cJ9_floorDiv_7cf53 3 = .ok (.istore_n 2, 1) := by decide +kernel
theorem dJ9_floorDiv_7cf53_4 : decode cJ9_floorDiv_7cf53 4 = .ok (.iload_n 0, 1) := by decide +kernel
theorem dJ9_floorDiv_7cf53_5 : decode cJ9_floorDiv_7cf53 5 = .ok (.iload_n 1, 1) := by decide +kernel
theorem dJ9_floorDiv_7cf53_6 : decode cJ9_floorDiv_7cf53 6 = .ok (.ixor, 1) := by decide +kernel
theorem dJ9_floorDiv_7cf53_7 : decode cJ9_floorDiv_7cf53 7 = .ok (.ifCond .ge 14, 3) := by decide +kernel
theorem dJ9_floorDiv_7cf53_10 : decode cJ9_floorDiv_7cf53 10 = .ok (.iload_n 2, 1) := by decide +kernel
theorem dJ9_floorDiv_7cf53_11 : decode cJ9_floorDiv_7cf53 11 = .ok (.iload_n 1, 1) := by decide +kernel
theorem dJ9_floorDiv_7cf53_12 : decode cJ9_floorDiv_7cf53 12 = .ok (.imul, 1) := by decide +kernel
theorem dJ9_floorDiv_7cf53_13 : decode cJ9_floorDiv_7cf53 13 = .ok (.iload_n 0, 1) := by decide +kernel
theorem dJ9_floorDiv_7cf53_14 : decode cJ9_floorDiv_7cf53 14 = .ok (.if_icmp .eq 7, 3) := by decide +kernel
theorem dJ9_floorDiv_7cf53_17 : decode cJ9_floorDiv_7cf53 17 = .ok (.iload_n 2, 1) := by decide +kernel
theorem dJ9_floorDiv_7cf53_18 : decode cJ9_floorDiv_7cf53 18 = .ok (.iconst 1, 1) := by decide +kernel
theorem dJ9_floorDiv_7cf53_19 : decode cJ9_floorDiv_7cf53 19 = .ok (.isub, 1) := by decide +kernel
theorem dJ9_floorDiv_7cf53_20 : decode cJ9_floorDiv_7cf53 20 = .ok (.ireturn, 1) := by decide +kernel
theorem dJ9_floorDiv_7cf53_21 : decode cJ9_floorDiv_7cf53 21 = .ok (.iload_n 2, 1) := by decide +kernel
theorem dJ9_floorDiv_7cf53_22 : decode cJ9_floorDiv_7cf53 22 = .ok (.ireturn, 1) := by decide +kernel
noncomputable def f_J9_floorDiv_7cf53 (x1 : Int32) (x2 : Int32) (u0 : qM) : Option (Int32 × qM) :=
  q_ck (q_nz x2) (q_lt (x1 / x2) (fun (x3 : Int32) => q_jn (fun  (u1 : qM) => some (x3, u1)) (fun j1 => if (0 : Int32) ≤ (x1 ^^^ x2) then j1 u0 else if (x3 * x2) = x1 then j1 u0 else some (x3 - 1, u0))))
set_option maxRecDepth 100000 in
set_option maxHeartbeats 4000000 in
theorem k_J9_floorDiv_7cf53 (l : Launch) (G : qG) (x1 : Int32) (x2 : Int32)  (u0 : qM) : qCt l G m_J9_floorDiv_7cf53 q_cI [.int x1, .int x2] u0 (f_J9_floorDiv_7cf53 x1 x2 u0) := by
  refine q_entry pk_J9_floorDiv_7cf53 (Nat.le_of_ble_eq_true rfl) ?_
  show qAW l G m_J9_floorDiv_7cf53 (q_mq G q_cI) 0 [(0, .int x1), (1, .int x2)] [] u0 (f_J9_floorDiv_7cf53 x1 x2 u0)
  unfold f_J9_floorDiv_7cf53
  refine aw_iload_n (i := 0) dJ9_floorDiv_7cf53_0 1 rfl rfl 0 rfl ?_
  refine aw_iload_n (i := 1) dJ9_floorDiv_7cf53_1 2 rfl rfl 1 rfl ?_
  refine aw_ck (fun h1 => ?_)
  refine aw_idiv dJ9_floorDiv_7cf53_2 3 rfl (of_decide_eq_true h1) ?_
  refine aw_lti (fun x3 => ?_)
  refine aw_istore_n dJ9_floorDiv_7cf53_3 4 rfl rfl [(2, .int x3), (0, .int x1), (1, .int x2)] (by decide) rfl ?_
  refine aw_iload_n (i := 0) dJ9_floorDiv_7cf53_4 5 rfl rfl 1 rfl ?_
  refine aw_iload_n (i := 1) dJ9_floorDiv_7cf53_5 6 rfl rfl 2 rfl ?_
  refine aw_ixor dJ9_floorDiv_7cf53_6 7 rfl ?_
  refine aw_jn (fun k => ∀  (u1 : qM), qAW l G m_J9_floorDiv_7cf53 (q_mq G q_cI) 21 [(2, .int x3)] [] u1 (k u1)) ?_ ?_
  · intro u1
    refine aw_iload_n (i := 2) dJ9_floorDiv_7cf53_21 22 rfl rfl 0 rfl ?_
    exact aw_iret dJ9_floorDiv_7cf53_22 rfl
  · intro j1 hj1
    refine aw_if_ge dJ9_floorDiv_7cf53_7 10 rfl 21 rfl (fun h2 => ?_) (fun h2 => ?_)
    · exact aw_conv [0] rfl (hj1 u0)
    · refine aw_iload_n (i := 2) dJ9_floorDiv_7cf53_10 11 rfl rfl 0 rfl ?_
      refine aw_iload_n (i := 1) dJ9_floorDiv_7cf53_11 12 rfl rfl 2 rfl ?_
      refine aw_imul dJ9_floorDiv_7cf53_12 13 rfl ?_
      refine aw_iload_n (i := 0) dJ9_floorDiv_7cf53_13 14 rfl rfl 1 rfl ?_
      refine aw_icmp_eq dJ9_floorDiv_7cf53_14 17 rfl 21 rfl (fun h3 => ?_) (fun h3 => ?_)
      · exact aw_conv [0] rfl (hj1 u0)
      · refine aw_iload_n (i := 2) dJ9_floorDiv_7cf53_17 18 rfl rfl 0 rfl ?_
        refine aw_iconst (x := 1) dJ9_floorDiv_7cf53_18 19 rfl rfl ?_
        refine aw_isub dJ9_floorDiv_7cf53_19 20 rfl ?_
        exact aw_iret dJ9_floorDiv_7cf53_20 rfl
theorem dX0_giveUp_0 : decode cX0_giveUp 0 = .ok (.iconst 0, 1) := by decide +kernel
theorem dX0_giveUp_1 : decode cX0_giveUp 1 = .ok (.istore_n 2, 1) := by decide +kernel
theorem dX0_giveUp_2 : decode cX0_giveUp 2 = .ok (.iconst 0, 1) := by decide +kernel
theorem dX0_giveUp_3 : decode cX0_giveUp 3 = .ok (.istore_n 3, 1) := by decide +kernel
theorem dX0_giveUp_4 : decode cX0_giveUp 4 = .ok (.iload_n 3, 1) := by decide +kernel
theorem dX0_giveUp_5 : decode cX0_giveUp 5 = .ok (.aload_n 0, 1) := by decide +kernel
theorem dX0_giveUp_6 : decode cX0_giveUp 6 = .ok (.invokevirtual 153, 3) := by decide +kernel
theorem dX0_giveUp_9 : decode cX0_giveUp 9 = .ok (.iconst 4, 1) := by decide +kernel
theorem dX0_giveUp_10 : decode cX0_giveUp 10 = .ok (.idiv, 1) := by decide +kernel
theorem dX0_giveUp_11 : decode cX0_giveUp 11 = .ok (.if_icmp .ge 126, 3) := by decide +kernel
theorem dX0_giveUp_14 : decode cX0_giveUp 14 = .ok (.aload_n 0, 1) := by decide +kernel
theorem dX0_giveUp_15 : decode cX0_giveUp 15 = .ok (.iload_n 3, 1) := by decide +kernel
theorem dX0_giveUp_16 : decode cX0_giveUp 16 = .ok (.aload_n 1, 1) := by decide +kernel
theorem dX0_giveUp_17 : decode cX0_giveUp 17 = .ok (.invokevirtual 186, 3) := by decide +kernel
theorem dX0_giveUp_20 : decode cX0_giveUp 20 = .ok (.istore 4, 2) := by decide +kernel
theorem dX0_giveUp_22 : decode cX0_giveUp 22 = .ok (.aload_n 0, 1) := by decide +kernel
theorem dX0_giveUp_23 : decode cX0_giveUp 23 = .ok (.getfield 45, 3) := by decide +kernel
theorem dX0_giveUp_26 : decode cX0_giveUp 26 = .ok (.getfield 156, 3) := by decide +kernel
theorem dX0_giveUp_29 : decode cX0_giveUp 29 = .ok (.iload_n 3, 1) := by decide +kernel
theorem dX0_giveUp_30 : decode cX0_giveUp 30 = .ok (.iaload, 1) := by decide +kernel
theorem dX0_giveUp_31 : decode cX0_giveUp 31 = .ok (.istore 5, 2) := by decide +kernel
theorem dX0_giveUp_33 : decode cX0_giveUp 33 = .ok (.iconst 0, 1) := by decide +kernel
theorem dX0_giveUp_34 : decode cX0_giveUp 34 = .ok (.istore 6, 2) := by decide +kernel
theorem dX0_giveUp_36 : decode cX0_giveUp 36 = .ok (.iload 6, 2) := by decide +kernel
theorem dX0_giveUp_38 : decode cX0_giveUp 38 = .ok (.iconst 4, 1) := by decide +kernel
theorem dX0_giveUp_39 : decode cX0_giveUp 39 = .ok (.if_icmp .ge 26, 3) := by decide +kernel
theorem dX0_giveUp_42 : decode cX0_giveUp 42 = .ok (.iload 5, 2) := by decide +kernel
theorem dX0_giveUp_44 : decode cX0_giveUp 44 = .ok (.aload_n 0, 1) := by decide +kernel
theorem dX0_giveUp_45 : decode cX0_giveUp 45 = .ok (.getfield 15, 3) := by decide +kernel
theorem dX0_giveUp_48 : decode cX0_giveUp 48 = .ok (.aload_n 0, 1) := by decide +kernel
theorem dX0_giveUp_49 : decode cX0_giveUp 49 = .ok (.iload_n 3, 1) := by decide +kernel
theorem dX0_giveUp_50 : decode cX0_giveUp 50 = .ok (.iload 6, 2) := by decide +kernel
theorem dX0_giveUp_52 : decode cX0_giveUp 52 = .ok (.invokevirtual 190, 3) := by decide +kernel
theorem dX0_giveUp_55 : decode cX0_giveUp 55 = .ok (.iaload, 1) := by decide +kernel
theorem dX0_giveUp_56 : decode cX0_giveUp 56 = .ok (.iadd, 1) := by decide +kernel
theorem dX0_giveUp_57 : decode cX0_giveUp 57 = .ok (.istore 5, 2) := by decide +kernel
theorem dX0_giveUp_59 : decode cX0_giveUp 59 = .ok (.iinc 6 1, 3) := by decide +kernel
theorem dX0_giveUp_62 : decode cX0_giveUp 62 = .ok (.goto (-26), 3) := by decide +kernel
theorem dX0_giveUp_65 : decode cX0_giveUp 65 = .ok (.iconst 0, 1) := by decide +kernel
theorem dX0_giveUp_66 : decode cX0_giveUp 66 = .ok (.ldc 196, 2) := by decide +kernel
theorem dX0_giveUp_68 : decode cX0_giveUp 68 = .ok (.iload 5, 2) := by decide +kernel
theorem dX0_giveUp_70 : decode cX0_giveUp 70 = .ok (.iconst 4, 1) := by decide +kernel
theorem dX0_giveUp_71 : decode cX0_giveUp 71 = .ok (.invokestatic 197, 3) := by decide +kernel
theorem dX0_giveUp_74 : decode cX0_giveUp 74 = .ok (.invokestatic 200, 3) := by decide +kernel
theorem dX0_giveUp_77 : decode cX0_giveUp 77 = .ok (.invokestatic 203, 3) := by decide +kernel
theorem dX0_giveUp_80 : decode cX0_giveUp 80 = .ok (.istore 6, 2) := by decide +kernel
theorem dX0_giveUp_82 : decode cX0_giveUp 82 = .ok (.iload_n 2, 1) := by decide +kernel
theorem dX0_giveUp_83 : decode cX0_giveUp 83 = .ok (.iload 6, 2) := by decide +kernel
theorem dX0_giveUp_85 : decode cX0_giveUp 85 = .ok (.aload_n 1, 1) := by decide +kernel
theorem dX0_giveUp_86 : decode cX0_giveUp 86 = .ok (.getfield 15, 3) := by decide +kernel
theorem dX0_giveUp_89 : decode cX0_giveUp 89 = .ok (.iload 4, 2) := by decide +kernel
theorem dX0_giveUp_91 : decode cX0_giveUp 91 = .ok (.iaload, 1) := by decide +kernel
theorem dX0_giveUp_92 : decode cX0_giveUp 92 = .ok (.isub, 1) := by decide +kernel
theorem dX0_giveUp_93 : decode cX0_giveUp 93 = .ok (.iadd, 1) := by decide +kernel
theorem dX0_giveUp_94 : decode cX0_giveUp 94 = .ok (.istore_n 2, 1) := by decide +kernel
theorem dX0_giveUp_95 : decode cX0_giveUp 95 = .ok (.aload_n 1, 1) := by decide +kernel
theorem dX0_giveUp_96 : decode cX0_giveUp 96 = .ok (.getfield 15, 3) := by decide +kernel
theorem dX0_giveUp_99 : decode cX0_giveUp 99 = .ok (.iload 4, 2) := by decide +kernel
theorem dX0_giveUp_101 : decode cX0_giveUp 101 = .ok (.iload 6, 2) := by decide +kernel
theorem dX0_giveUp_103 : decode cX0_giveUp 103 = .ok (.iastore, 1) := by decide +kernel
theorem dX0_giveUp_104 : decode cX0_giveUp 104 = .ok (.aload_n 0, 1) := by decide +kernel
theorem dX0_giveUp_105 : decode cX0_giveUp 105 = .ok (.getfield 45, 3) := by decide +kernel
theorem dX0_giveUp_108 : decode cX0_giveUp 108 = .ok (.getfield 193, 3) := by decide +kernel
theorem dX0_giveUp_111 : decode cX0_giveUp 111 = .ok (.iload_n 3, 1) := by decide +kernel
theorem dX0_giveUp_112 : decode cX0_giveUp 112 = .ok (.iload 6, 2) := by decide +kernel
theorem dX0_giveUp_114 : decode cX0_giveUp 114 = .ok (.iastore, 1) := by decide +kernel
theorem dX0_giveUp_115 : decode cX0_giveUp 115 = .ok (.aload_n 0, 1) := by decide +kernel
theorem dX0_giveUp_116 : decode cX0_giveUp 116 = .ok (.getfield 45, 3) := by decide +kernel
theorem dX0_giveUp_119 : decode cX0_giveUp 119 = .ok (.getfield 156, 3) := by decide +kernel
theorem dX0_giveUp_122 : decode cX0_giveUp 122 = .ok (.iload_n 3, 1) := by decide +kernel
theorem dX0_giveUp_123 : decode cX0_giveUp 123 = .ok (.iload 5, 2) := by decide +kernel
theorem dX0_giveUp_125 : decode cX0_giveUp 125 = .ok (.iconst 4, 1) := by decide +kernel
theorem dX0_giveUp_126 : decode cX0_giveUp 126 = .ok (.iload 6, 2) := by decide +kernel
theorem dX0_giveUp_128 : decode cX0_giveUp 128 = .ok (.imul, 1) := by decide +kernel
theorem dX0_giveUp_129 : decode cX0_giveUp 129 = .ok (.isub, 1) := by decide +kernel
theorem dX0_giveUp_130 : decode cX0_giveUp 130 = .ok (.iastore, 1) := by decide +kernel
theorem dX0_giveUp_131 : decode cX0_giveUp 131 = .ok (.iinc 3 1, 3) := by decide +kernel
theorem dX0_giveUp_134 : decode cX0_giveUp 134 = .ok (.goto (-130), 3) := by decide +kernel
theorem dX0_giveUp_137 : decode cX0_giveUp 137 = .ok (.iload_n 2, 1) := by decide +kernel
theorem dX0_giveUp_138 : decode cX0_giveUp 138 = .ok (.ireturn, 1) := by decide +kernel
noncomputable def L_X0_giveUp_36 (o1 : Nat) (o2 : Nat) (x1 : Int32) (x2 : Int32) (x4 : Int32) : Nat → Int32 → Int32 → qM → (Int32 → qM → Option (Int32 × qM)) → Option (Int32 × qM)
  | 0, _, _, _, _ => none
  | n + 1, x6, x7, u4, e1 => if 4 ≤ x7 then e1 x6 u4 else q_bd (f_X0_fineCell o1 x2 x7 u4) (fun (x8 : Int32) (u5 : qM) => q_ck (q_in x8 48) (q_lt (x6 + (u5.1 38 o1 (Int32.toNatClampNeg x8))) (fun (x9 : Int32) => q_lt (x7 + 1) (fun (x10 : Int32) => L_X0_giveUp_36 o1 o2 x1 x2 x4 n x9 x10 u5 e1))))
noncomputable def L_X0_giveUp_4 (o1 : Nat) (o2 : Nat) : Nat → Int32 → Int32 → qM → (Int32 → qM → Option (Int32 × qM)) → Option (Int32 × qM)
  | 0, _, _, _, _ => none
  | n + 1, x1, x2, u1, e1 => q_bd (f_X0_cells o1 u1) (fun (x3 : Int32) (u2 : qM) => if (x3 / 4) ≤ x2 then e1 x1 u2 else q_bd (f_X0_underCell o1 x2 o2 u2) (fun (x4 : Int32) (u3 : qM) => q_ck (q_in x2 12) (q_lt (u3.1 46 o1 (Int32.toNatClampNeg x2)) (fun (x5 : Int32) => L_X0_giveUp_36 o1 o2 x1 x2 x4 q_fu x5 0 u3 (fun x11 u6 => q_bd (f_J9_floorDiv_7cf53 x11 4 u6) (fun (x12 : Int32) (u7 : qM) => q_lt ((if 0 < (if x12 < 100000 then x12 else 100000) then (if x12 < 100000 then x12 else 100000) else 0)) (fun (x13 : Int32) => q_ck (q_in x4 48) (q_lt (x1 + (x13 - (u7.1 38 o2 (Int32.toNatClampNeg x4)))) (fun (x14 : Int32) => q_ck (q_in x4 48) (q_lt (q_si u7 38 o2 (Int32.toNatClampNeg x4) x13) (fun (u8 : qM) => q_ck (q_in x2 12) (q_lt (q_si u8 45 o1 (Int32.toNatClampNeg x2) x13) (fun (u9 : qM) => q_ck (q_in x2 12) (q_lt (q_si u9 46 o1 (Int32.toNatClampNeg x2) (x11 - (4 * x13))) (fun (u10 : qM) => q_lt (x2 + 1) (fun (x15 : Int32) => L_X0_giveUp_4 o1 o2 n x14 x15 u10 e1))))))))))))))))
noncomputable def f_X0_giveUp (o1 : Nat) (o2 : Nat) (u0 : qM) : Option (Int32 × qM) :=
  L_X0_giveUp_4 o1 o2 q_fu 0 0 u0 (fun x16 u11 => some (x16, u11))
set_option maxRecDepth 100000 in
set_option maxHeartbeats 4000000 in
theorem TL_X0_giveUp_36 (l : Launch) (G : qG) (o1 : Nat) (o2 : Nat) (x1 : Int32) (x2 : Int32) (x4 : Int32) (q3 : o1 < 7) (q4 : o2 < 7) (e1 : Int32 → qM → Option (Int32 × qM)) (he1 : ∀ (y1 : Int32) (v : qM), qAW l G m_X0_giveUp (q_mq G q_cI) 65 [(0, .ref (q_ad G 2 o1)), (1, .ref (q_ad G 2 o2)), (2, .int x1), (3, .int x2), (4, .int x4), (5, .int y1)] [] v (e1 y1 v)) : ∀ (n : Nat) (x6 : Int32) (x7 : Int32) (u4 : qM), qAW l G m_X0_giveUp (q_mq G q_cI) 36 [(0, .ref (q_ad G 2 o1)), (1, .ref (q_ad G 2 o2)), (2, .int x1), (3, .int x2), (4, .int x4), (5, .int x6), (6, .int x7)] [] u4 (L_X0_giveUp_36 o1 o2 x1 x2 x4 n x6 x7 u4 e1) := by
  intro n
  induction n with
  | zero => intros; exact aw_none
  | succ n ih =>
    intro x6 x7 u4
    unfold L_X0_giveUp_36
    refine aw_iload (i := 6) dX0_giveUp_36 38 rfl 6 rfl ?_
    refine aw_iconst (x := 4) dX0_giveUp_38 39 rfl rfl ?_
    refine aw_icmp_ge dX0_giveUp_39 42 rfl 65 rfl (fun h3 => ?_) (fun h3 => ?_)
    · exact aw_conv [0, 1, 2, 3, 4, 5] rfl (he1 x6 u4)
    · refine aw_iload (i := 5) dX0_giveUp_42 44 rfl 5 rfl ?_
      refine aw_aload_n (i := 0) dX0_giveUp_44 45 rfl rfl 0 rfl ?_
      refine gf_X0_1 dX0_giveUp_45 48 rfl wd_19 (ok_2 q3) ?_
      refine aw_aload_n (i := 0) dX0_giveUp_48 49 rfl rfl 0 rfl ?_
      refine aw_iload_n (i := 3) dX0_giveUp_49 50 rfl rfl 3 rfl ?_
      refine aw_iload (i := 6) dX0_giveUp_50 52 rfl 6 rfl ?_
      refine aw_callV (M2 := m_X0_fineCell) (cv := q_cI) dX0_giveUp_52 55 rfl (k_X0_fineCell l G o1 x2 x7 q3 u4) wd_47 wv_X0_fineCell pk_X0_fineCell rfl rfl ⟨by decide, by decide⟩ ⟨Nat.zero_le _, Nat.zero_le _⟩ at_2 (ok_2 q3) rfl rfl rfl (Nat.le_of_ble_eq_true rfl) (fun x8 u5 => ?_)
      show qAW l G m_X0_giveUp (q_mq G q_cI) 55 [(0, .ref (q_ad G 2 o1)), (1, .ref (q_ad G 2 o2)), (2, .int x1), (3, .int x2), (4, .int x4), (5, .int x6), (6, .int x7)] [.int x8, .ref (q_ad G 38 o1), .int x6] u5 _
      refine aw_iald dX0_giveUp_55 56 rfl at_38 (al_38 _) (ok_38 q3) (fun h4 => ?_)
      refine aw_iadd dX0_giveUp_56 57 rfl ?_
      refine aw_lti (fun x9 => ?_)
      refine aw_istore dX0_giveUp_57 59 rfl [(5, .int x9), (0, .ref (q_ad G 2 o1)), (1, .ref (q_ad G 2 o2)), (2, .int x1), (3, .int x2), (4, .int x4), (6, .int x7)] (by decide) rfl ?_
      refine aw_iincx (i := 6) dX0_giveUp_59 62 rfl 6 rfl 1 rfl (fun x10 => [(6, .int x10), (5, .int x9), (0, .ref (q_ad G 2 o1)), (1, .ref (q_ad G 2 o2)), (2, .int x1), (3, .int x2), (4, .int x4)]) (by decide) (fun _ => rfl) (fun x10 => ?_)
      refine aw_goto dX0_giveUp_62 36 rfl ?_
      exact aw_conv [2, 3, 4, 5, 6, 1, 0] rfl (ih x9 x10 u5)
set_option maxRecDepth 100000 in
set_option maxHeartbeats 4000000 in
theorem TL_X0_giveUp_4 (l : Launch) (G : qG) (o1 : Nat) (o2 : Nat) (q1 : o1 < 7) (q2 : o2 < 7) (e1 : Int32 → qM → Option (Int32 × qM)) (he1 : ∀ (y1 : Int32) (v : qM), qAW l G m_X0_giveUp (q_mq G q_cI) 137 [(2, .int y1)] [] v (e1 y1 v)) : ∀ (n : Nat) (x1 : Int32) (x2 : Int32) (u1 : qM), qAW l G m_X0_giveUp (q_mq G q_cI) 4 [(0, .ref (q_ad G 2 o1)), (1, .ref (q_ad G 2 o2)), (2, .int x1), (3, .int x2)] [] u1 (L_X0_giveUp_4 o1 o2 n x1 x2 u1 e1) := by
  intro n
  induction n with
  | zero => intros; exact aw_none
  | succ n ih =>
    intro x1 x2 u1
    unfold L_X0_giveUp_4
    refine aw_iload_n (i := 3) dX0_giveUp_4 5 rfl rfl 3 rfl ?_
    refine aw_aload_n (i := 0) dX0_giveUp_5 6 rfl rfl 0 rfl ?_
    refine aw_callV (M2 := m_X0_cells) (cv := q_cI) dX0_giveUp_6 9 rfl (k_X0_cells l G o1 q1 u1) wd_37 wv_X0_cells pk_X0_cells rfl rfl ⟨by decide, by decide⟩ ⟨Nat.zero_le _, Nat.zero_le _⟩ at_2 (ok_2 q1) rfl rfl rfl (Nat.le_of_ble_eq_true rfl) (fun x3 u2 => ?_)
    show qAW l G m_X0_giveUp (q_mq G q_cI) 9 [(0, .ref (q_ad G 2 o1)), (1, .ref (q_ad G 2 o2)), (2, .int x1), (3, .int x2)] [.int x3, .int x2] u2 _
    refine aw_iconst (x := 4) dX0_giveUp_9 10 rfl rfl ?_
    refine aw_idiv dX0_giveUp_10 11 rfl (by decide) ?_
    refine aw_icmp_ge dX0_giveUp_11 14 rfl 137 rfl (fun h1 => ?_) (fun h1 => ?_)
    · exact aw_conv [2] rfl (he1 x1 u2)
    · refine aw_aload_n (i := 0) dX0_giveUp_14 15 rfl rfl 0 rfl ?_
      refine aw_iload_n (i := 3) dX0_giveUp_15 16 rfl rfl 3 rfl ?_
      refine aw_aload_n (i := 1) dX0_giveUp_16 17 rfl rfl 1 rfl ?_
      refine aw_callV (M2 := m_X0_underCell) (cv := q_cI) dX0_giveUp_17 20 rfl (k_X0_underCell l G o1 x2 o2 q1 q2 u2) wd_46 wv_X0_underCell pk_X0_underCell rfl rfl ⟨by decide, by decide⟩ ⟨Nat.zero_le _, Nat.zero_le _⟩ at_2 (ok_2 q1) rfl rfl rfl (Nat.le_of_ble_eq_true rfl) (fun x4 u3 => ?_)
      show qAW l G m_X0_giveUp (q_mq G q_cI) 20 [(0, .ref (q_ad G 2 o1)), (1, .ref (q_ad G 2 o2)), (2, .int x1), (3, .int x2)] [.int x4] u3 _
      refine aw_istore dX0_giveUp_20 22 rfl [(4, .int x4), (0, .ref (q_ad G 2 o1)), (1, .ref (q_ad G 2 o2)), (2, .int x1), (3, .int x2)] (by decide) rfl ?_
      refine aw_aload_n (i := 0) dX0_giveUp_22 23 rfl rfl 1 rfl ?_
      refine gf_X0_7 dX0_giveUp_23 26 rfl wd_17 (ok_2 q1) ?_
      refine gfN_X4_1 dX0_giveUp_26 29 rfl "SeaCells" (ns_20) (ok_5 q1) ?_
      refine aw_iload_n (i := 3) dX0_giveUp_29 30 rfl rfl 4 rfl ?_
      refine aw_iald dX0_giveUp_30 31 rfl at_46 (al_46 _) (ok_46 q1) (fun h2 => ?_)
      refine aw_lti (fun x5 => ?_)
      refine aw_istore dX0_giveUp_31 33 rfl [(5, .int x5), (4, .int x4), (0, .ref (q_ad G 2 o1)), (1, .ref (q_ad G 2 o2)), (2, .int x1), (3, .int x2)] (by decide) rfl ?_
      refine aw_iconst (x := 0) dX0_giveUp_33 34 rfl rfl ?_
      refine aw_istore dX0_giveUp_34 36 rfl [(6, .int 0), (5, .int x5), (4, .int x4), (0, .ref (q_ad G 2 o1)), (1, .ref (q_ad G 2 o2)), (2, .int x1), (3, .int x2)] (by decide) rfl ?_
      refine aw_conv [3, 4, 5, 6, 2, 1, 0] rfl (TL_X0_giveUp_36 l G o1 o2 x1 x2 x4 q1 q2 _ ?_ _ x5 0 u3)
      · intro x11 u6
        refine aw_iconst (x := 0) dX0_giveUp_65 66 rfl rfl ?_
        refine aw_ldc (x := 100000) dX0_giveUp_66 68 rfl wd_48 ?_
        refine aw_iload (i := 5) dX0_giveUp_68 70 rfl 5 rfl ?_
        refine aw_iconst (x := 4) dX0_giveUp_70 71 rfl rfl ?_
        refine aw_callS (M2 := m_J9_floorDiv_7cf53) (cv := q_cI) dX0_giveUp_71 74 rfl (k_J9_floorDiv_7cf53 l G x11 4  u6) wd_49 wv_J9_floorDiv_7cf53 pk_J9_floorDiv_7cf53 rfl ⟨by decide, by decide⟩ ⟨Nat.zero_le _, Nat.zero_le _⟩ rfl (Nat.le_of_ble_eq_true rfl) (fun x12 u7 => ?_)
        show qAW l G m_X0_giveUp (q_mq G q_cI) 74 [(0, .ref (q_ad G 2 o1)), (1, .ref (q_ad G 2 o2)), (2, .int x1), (3, .int x2), (4, .int x4), (5, .int x11)] [.int x12, .int 100000, .int 0] u7 _
        refine aw_min dX0_giveUp_74 77 rfl wd_50 wd_51 wd_52 wd_53 (Nat.le_of_ble_eq_true rfl) (Nat.le_of_ble_eq_true rfl) (Nat.zero_le _) (Nat.zero_le _) ?_
        refine aw_max dX0_giveUp_77 80 rfl wd_54 wd_55 wd_52 wd_56 (Nat.le_of_ble_eq_true rfl) (Nat.le_of_ble_eq_true rfl) (Nat.zero_le _) (Nat.zero_le _) ?_
        refine aw_lti (fun x13 => ?_)
        refine aw_istore dX0_giveUp_80 82 rfl [(6, .int x13), (0, .ref (q_ad G 2 o1)), (1, .ref (q_ad G 2 o2)), (2, .int x1), (3, .int x2), (4, .int x4), (5, .int x11)] (by decide) rfl ?_
        refine aw_iload_n (i := 2) dX0_giveUp_82 83 rfl rfl 3 rfl ?_
        refine aw_iload (i := 6) dX0_giveUp_83 85 rfl 0 rfl ?_
        refine aw_aload_n (i := 1) dX0_giveUp_85 86 rfl rfl 2 rfl ?_
        refine gf_X0_1 dX0_giveUp_86 89 rfl wd_19 (ok_2 q2) ?_
        refine aw_iload (i := 4) dX0_giveUp_89 91 rfl 5 rfl ?_
        refine aw_iald dX0_giveUp_91 92 rfl at_38 (al_38 _) (ok_38 q2) (fun h5 => ?_)
        refine aw_isub dX0_giveUp_92 93 rfl ?_
        refine aw_iadd dX0_giveUp_93 94 rfl ?_
        refine aw_lti (fun x14 => ?_)
        refine aw_istore_n dX0_giveUp_94 95 rfl rfl [(2, .int x14), (6, .int x13), (0, .ref (q_ad G 2 o1)), (1, .ref (q_ad G 2 o2)), (3, .int x2), (4, .int x4), (5, .int x11)] (by decide) rfl ?_
        refine aw_aload_n (i := 1) dX0_giveUp_95 96 rfl rfl 3 rfl ?_
        refine gf_X0_1 dX0_giveUp_96 99 rfl wd_19 (ok_2 q2) ?_
        refine aw_iload (i := 4) dX0_giveUp_99 101 rfl 5 rfl ?_
        refine aw_iload (i := 6) dX0_giveUp_101 103 rfl 1 rfl ?_
        refine aw_iast dX0_giveUp_103 104 rfl at_38 (al_38 _) (ok_38 q2) (fun h6 => ?_)
        refine aw_ltm (fun u8 => ?_)
        refine aw_aload_n (i := 0) dX0_giveUp_104 105 rfl rfl 2 rfl ?_
        refine gf_X0_7 dX0_giveUp_105 108 rfl wd_17 (ok_2 q1) ?_
        refine gfN_X4_0 dX0_giveUp_108 111 rfl "SeaCells" (ns_19) (ok_5 q1) ?_
        refine aw_iload_n (i := 3) dX0_giveUp_111 112 rfl rfl 4 rfl ?_
        refine aw_iload (i := 6) dX0_giveUp_112 114 rfl 1 rfl ?_
        refine aw_iast dX0_giveUp_114 115 rfl at_45 (al_45 _) (ok_45 q1) (fun h7 => ?_)
        refine aw_ltm (fun u9 => ?_)
        refine aw_aload_n (i := 0) dX0_giveUp_115 116 rfl rfl 2 rfl ?_
        refine gf_X0_7 dX0_giveUp_116 119 rfl wd_17 (ok_2 q1) ?_
        refine gfN_X4_1 dX0_giveUp_119 122 rfl "SeaCells" (ns_20) (ok_5 q1) ?_
        refine aw_iload_n (i := 3) dX0_giveUp_122 123 rfl rfl 4 rfl ?_
        refine aw_iload (i := 5) dX0_giveUp_123 125 rfl 6 rfl ?_
        refine aw_iconst (x := 4) dX0_giveUp_125 126 rfl rfl ?_
        refine aw_iload (i := 6) dX0_giveUp_126 128 rfl 1 rfl ?_
        refine aw_imul dX0_giveUp_128 129 rfl ?_
        refine aw_isub dX0_giveUp_129 130 rfl ?_
        refine aw_iast dX0_giveUp_130 131 rfl at_46 (al_46 _) (ok_46 q1) (fun h8 => ?_)
        refine aw_ltm (fun u10 => ?_)
        refine aw_iincx (i := 3) dX0_giveUp_131 134 rfl 4 rfl 1 rfl (fun x15 => [(3, .int x15), (2, .int x14), (6, .int x13), (0, .ref (q_ad G 2 o1)), (1, .ref (q_ad G 2 o2)), (4, .int x4), (5, .int x11)]) (by decide) (fun _ => rfl) (fun x15 => ?_)
        refine aw_goto dX0_giveUp_134 4 rfl ?_
        exact aw_conv [3, 4, 1, 0] rfl (ih x14 x15 u10)
set_option maxRecDepth 100000 in
set_option maxHeartbeats 4000000 in
theorem k_X0_giveUp (l : Launch) (G : qG) (o1 : Nat) (o2 : Nat) (ho1 : o1 < 7) (ho2 : o2 < 7) (u0 : qM) : qCt l G m_X0_giveUp q_cI [.ref (q_ad G 2 o1), .ref (q_ad G 2 o2)] u0 (f_X0_giveUp o1 o2 u0) := by
  refine q_entry pk_X0_giveUp (Nat.le_of_ble_eq_true rfl) ?_
  show qAW l G m_X0_giveUp (q_mq G q_cI) 0 [(0, .ref (q_ad G 2 o1)), (1, .ref (q_ad G 2 o2))] [] u0 (f_X0_giveUp o1 o2 u0)
  unfold f_X0_giveUp
  refine aw_iconst (x := 0) dX0_giveUp_0 1 rfl rfl ?_
  refine aw_istore_n dX0_giveUp_1 2 rfl rfl [(2, .int 0), (0, .ref (q_ad G 2 o1)), (1, .ref (q_ad G 2 o2))] (by decide) rfl ?_
  refine aw_iconst (x := 0) dX0_giveUp_2 3 rfl rfl ?_
  refine aw_istore_n dX0_giveUp_3 4 rfl rfl [(3, .int 0), (2, .int 0), (0, .ref (q_ad G 2 o1)), (1, .ref (q_ad G 2 o2))] (by decide) rfl ?_
  refine aw_conv [2, 3, 1, 0] rfl (TL_X0_giveUp_4 l G o1 o2 ho1 ho2 _ ?_ _ 0 0 u0)
  · intro x16 u11
    refine aw_iload_n (i := 2) dX0_giveUp_137 138 rfl rfl 0 rfl ?_
    exact aw_iret dX0_giveUp_138 rfl
