theorem dX11_lose_0 : decode cX11_lose 0 = .ok (.iload_n 1, 1) := by decide +kernel
theorem dX11_lose_1 : decode cX11_lose 1 = .ok (.invokestatic 305, 3) := by decide +kernel
theorem dX11_lose_4 : decode cX11_lose 4 = .ok (.ifCond .ne 5, 3) := by decide +kernel
theorem dX11_lose_7 : decode cX11_lose 7 = .ok (.iconst (-1), 1) := by decide +kernel
theorem dX11_lose_8 : decode cX11_lose 8 = .ok (.ireturn, 1) := by decide +kernel
theorem dX11_lose_9 : decode cX11_lose 9 = .ok (.aload_n 0, 1) := by decide +kernel
theorem dX11_lose_10 : decode cX11_lose 10 = .ok (.iload_n 1, 1) := by decide +kernel
theorem dX11_lose_11 : decode cX11_lose 11 = .ok (.iload_n 2, 1) := by decide +kernel
theorem dX11_lose_12 : decode cX11_lose 12 = .ok (.invokevirtual 308, 3) := by decide +kernel
theorem dX11_lose_15 : decode cX11_lose 15 = .ok (.ifCond .ne 6, 3) := by decide +kernel
theorem dX11_lose_18 : decode cX11_lose 18 = .ok (.bipush (-4), 2) := by decide +kernel
theorem dX11_lose_20 : decode cX11_lose 20 = .ok (.ireturn, 1) := by decide +kernel
theorem dX11_lose_21 : decode cX11_lose 21 = .ok (.aload_n 0, 1) := by decide +kernel
theorem dX11_lose_22 : decode cX11_lose 22 = .ok (.getfield 153, 3) := by decide +kernel
theorem dX11_lose_25 : decode cX11_lose 25 = .ok (.bipush 48, 2) := by decide +kernel
theorem dX11_lose_27 : decode cX11_lose 27 = .ok (.iload_n 1, 1) := by decide +kernel
theorem dX11_lose_28 : decode cX11_lose 28 = .ok (.imul, 1) := by decide +kernel
theorem dX11_lose_29 : decode cX11_lose 29 = .ok (.aload_n 0, 1) := by decide +kernel
theorem dX11_lose_30 : decode cX11_lose 30 = .ok (.getfield 147, 3) := by decide +kernel
theorem dX11_lose_33 : decode cX11_lose 33 = .ok (.iload_n 1, 1) := by decide +kernel
theorem dX11_lose_34 : decode cX11_lose 34 = .ok (.iaload, 1) := by decide +kernel
theorem dX11_lose_35 : decode cX11_lose 35 = .ok (.iadd, 1) := by decide +kernel
theorem dX11_lose_36 : decode cX11_lose 36 = .ok (.iconst 1, 1) := by decide +kernel
theorem dX11_lose_37 : decode cX11_lose 37 = .ok (.isub, 1) := by decide +kernel
theorem dX11_lose_38 : decode cX11_lose 38 = .ok (.iload_n 2, 1) := by decide +kernel
theorem dX11_lose_39 : decode cX11_lose 39 = .ok (.isub, 1) := by decide +kernel
theorem dX11_lose_40 : decode cX11_lose 40 = .ok (.iconst 1, 1) := by decide +kernel
theorem dX11_lose_41 : decode cX11_lose 41 = .ok (.bastore, 1) := by decide +kernel
theorem dX11_lose_42 : decode cX11_lose 42 = .ok (.iconst 1, 1) := by decide +kernel
theorem dX11_lose_43 : decode cX11_lose 43 = .ok (.ireturn, 1) := by decide +kernel
noncomputable def f_X11_lose (x1 : Int32) (x2 : Int32) (u0 : qM) : Option (Int32 × qM) :=
  q_bd (f_X11_isEight x1 u0) (fun (x3 : Int32) (u1 : qM) => if x3 = 0 then some ((-1), u1) else q_bd (f_X11_has x1 x2 u1) (fun (x4 : Int32) (u2 : qM) => if x4 = 0 then some ((-4), u2) else q_ck (q_in x1 8) (q_ck (q_in ((((48 * x1) + (u2.1 110 0 (Int32.toNatClampNeg x1))) - 1) - x2) 384) (q_lt (q_si u2 112 0 (Int32.toNatClampNeg ((((48 * x1) + (u2.1 110 0 (Int32.toNatClampNeg x1))) - 1) - x2)) (vp_nar .boolean 1)) (fun (u3 : qM) => some (1, u3))))))
set_option maxRecDepth 100000 in
set_option maxHeartbeats 4000000 in
theorem k_X11_lose (l : Launch) (G : qG) (x1 : Int32) (x2 : Int32)  (u0 : qM) : qCt l G m_X11_lose q_cI [.ref (q_ad G 11 0), .int x1, .int x2] u0 (f_X11_lose x1 x2 u0) := by
  refine q_entry pk_X11_lose (Nat.le_of_ble_eq_true rfl) ?_
  show qAW l G m_X11_lose (q_mq G q_cI) 0 [(0, .ref (q_ad G 11 0)), (1, .int x1), (2, .int x2)] [] u0 (f_X11_lose x1 x2 u0)
  unfold f_X11_lose
  refine aw_iload_n (i := 1) dX11_lose_0 1 rfl rfl 1 rfl ?_
  refine aw_callS (M2 := m_X11_isEight) (cv := q_cI) dX11_lose_1 4 rfl (k_X11_isEight l G x1  u0) wd_309 wv_X11_isEight pk_X11_isEight rfl ⟨by decide, by decide⟩ ⟨Nat.zero_le _, Nat.zero_le _⟩ rfl (Nat.le_of_ble_eq_true rfl) (fun x3 u1 => ?_)
  show qAW l G m_X11_lose (q_mq G q_cI) 4 [(0, .ref (q_ad G 11 0)), (1, .int x1), (2, .int x2)] [.int x3] u1 _
  refine aw_if_ne dX11_lose_4 7 rfl 9 rfl (fun h1 => ?_) (fun h1 => ?_)
  · refine aw_aload_n (i := 0) dX11_lose_9 10 rfl rfl 0 rfl ?_
    refine aw_iload_n (i := 1) dX11_lose_10 11 rfl rfl 1 rfl ?_
    refine aw_iload_n (i := 2) dX11_lose_11 12 rfl rfl 2 rfl ?_
    refine aw_callV (M2 := m_X11_has) (cv := q_cI) dX11_lose_12 15 rfl (k_X11_has l G x1 x2  u1) wd_310 wv_X11_has pk_X11_has rfl rfl ⟨by decide, by decide⟩ ⟨Nat.zero_le _, Nat.zero_le _⟩ at_11 (ok_11 (by decide)) rfl rfl rfl (Nat.le_of_ble_eq_true rfl) (fun x4 u2 => ?_)
    show qAW l G m_X11_lose (q_mq G q_cI) 15 [(0, .ref (q_ad G 11 0)), (1, .int x1), (2, .int x2)] [.int x4] u2 _
    refine aw_if_ne dX11_lose_15 18 rfl 21 rfl (fun h2 => ?_) (fun h2 => ?_)
    · refine aw_aload_n (i := 0) dX11_lose_21 22 rfl rfl 0 rfl ?_
      refine gf_X11_52 dX11_lose_22 25 rfl wd_291 (ok_11 (by decide)) ?_
      refine aw_bipush (x := 48) dX11_lose_25 27 rfl rfl ?_
      refine aw_iload_n (i := 1) dX11_lose_27 28 rfl rfl 1 rfl ?_
      refine aw_imul dX11_lose_28 29 rfl ?_
      refine aw_aload_n (i := 0) dX11_lose_29 30 rfl rfl 0 rfl ?_
      refine gf_X11_50 dX11_lose_30 33 rfl wd_289 (ok_11 (by decide)) ?_
      refine aw_iload_n (i := 1) dX11_lose_33 34 rfl rfl 1 rfl ?_
      refine aw_iald dX11_lose_34 35 rfl at_110 (al_110 _) (ok_110 (by decide)) (fun h3 => ?_)
      refine aw_iadd dX11_lose_35 36 rfl ?_
      refine aw_iconst (x := 1) dX11_lose_36 37 rfl rfl ?_
      refine aw_isub dX11_lose_37 38 rfl ?_
      refine aw_iload_n (i := 2) dX11_lose_38 39 rfl rfl 2 rfl ?_
      refine aw_isub dX11_lose_39 40 rfl ?_
      refine aw_iconst (x := 1) dX11_lose_40 41 rfl rfl ?_
      refine aw_zast dX11_lose_41 42 rfl at_112 (al_112 _) (ok_112 (by decide)) (fun h4 => ?_)
      refine aw_ltm (fun u3 => ?_)
      refine aw_iconst (x := 1) dX11_lose_42 43 rfl rfl ?_
      exact aw_iret dX11_lose_43 rfl
    · refine aw_bipush (x := (-4)) dX11_lose_18 20 rfl rfl ?_
      exact aw_iret dX11_lose_20 rfl
  · refine aw_iconst (x := (-1)) dX11_lose_7 8 rfl rfl ?_
    exact aw_iret dX11_lose_8 rfl
theorem dX11_sums_0 : decode cX11_sums 0 = .ok (.iconst 0, 1) := by decide +kernel
theorem dX11_sums_1 : decode cX11_sums 1 = .ok (.istore_n 3, 1) := by decide +kernel
theorem dX11_sums_2 : decode cX11_sums 2 = .ok (.aload_n 0, 1) := by decide +kernel
theorem dX11_sums_3 : decode cX11_sums 3 = .ok (.iconst 0, 1) := by decide +kernel
theorem dX11_sums_4 : decode cX11_sums 4 = .ok (.putfield 311, 3) := by decide +kernel
theorem dX11_sums_7 : decode cX11_sums 7 = .ok (.aload_n 0, 1) := by decide +kernel
theorem dX11_sums_8 : decode cX11_sums 8 = .ok (.iconst 0, 1) := by decide +kernel
theorem dX11_sums_9 : decode cX11_sums 9 = .ok (.putfield 314, 3) := by decide +kernel
theorem dX11_sums_12 : decode cX11_sums 12 = .ok (.iconst 0, 1) := by decide +kernel
theorem dX11_sums_13 : decode cX11_sums 13 = .ok (.istore 4, 2) := by decide +kernel
theorem dX11_sums_15 : decode cX11_sums 15 = .ok (.iload 4, 2) := by decide +kernel
theorem dX11_sums_17 : decode cX11_sums 17 = .ok (.aload_n 0, 1) := by decide +kernel
theorem dX11_sums_18 : decode cX11_sums 18 = .ok (.getfield 147, 3) := by decide +kernel
theorem dX11_sums_21 : decode cX11_sums 21 = .ok (.iload_n 1, 1) := by decide +kernel
theorem dX11_sums_22 : decode cX11_sums 22 = .ok (.iaload, 1) := by decide +kernel
theorem dX11_sums_23 : decode cX11_sums 23 = .ok (.if_icmp .ge 98, 3) := by decide +kernel
theorem dX11_sums_26 : decode cX11_sums 26 = .ok (.aload_n 0, 1) := by decide +kernel
theorem dX11_sums_27 : decode cX11_sums 27 = .ok (.getfield 153, 3) := by decide +kernel
theorem dX11_sums_30 : decode cX11_sums 30 = .ok (.bipush 48, 2) := by decide +kernel
theorem dX11_sums_32 : decode cX11_sums 32 = .ok (.iload_n 1, 1) := by decide +kernel
theorem dX11_sums_33 : decode cX11_sums 33 = .ok (.imul, 1) := by decide +kernel
theorem dX11_sums_34 : decode cX11_sums 34 = .ok (.iload 4, 2) := by decide +kernel
theorem dX11_sums_36 : decode cX11_sums 36 = .ok (.iadd, 1) := by decide +kernel
theorem dX11_sums_37 : decode cX11_sums 37 = .ok (.baload, 1) := by decide +kernel
theorem dX11_sums_38 : decode cX11_sums 38 = .ok (.ifCond .ne 77, 3) := by decide +kernel
theorem dX11_sums_41 : decode cX11_sums 41 = .ok (.aload_n 0, 1) := by decide +kernel
theorem dX11_sums_42 : decode cX11_sums 42 = .ok (.getfield 150, 3) := by decide +kernel
theorem dX11_sums_45 : decode cX11_sums 45 = .ok (.bipush 48, 2) := by decide +kernel
theorem dX11_sums_47 : decode cX11_sums 47 = .ok (.iload_n 1, 1) := by decide +kernel
theorem dX11_sums_48 : decode cX11_sums 48 = .ok (.imul, 1) := by decide +kernel
theorem dX11_sums_49 : decode cX11_sums 49 = .ok (.iload 4, 2) := by decide +kernel
theorem dX11_sums_51 : decode cX11_sums 51 = .ok (.iadd, 1) := by decide +kernel
theorem dX11_sums_52 : decode cX11_sums 52 = .ok (.iaload, 1) := by decide +kernel
theorem dX11_sums_53 : decode cX11_sums 53 = .ok (.istore 5, 2) := by decide +kernel
theorem dX11_sums_55 : decode cX11_sums 55 = .ok (.aload_n 0, 1) := by decide +kernel
theorem dX11_sums_56 : decode cX11_sums 56 = .ok (.dup, 1) := by decide +kernel
theorem dX11_sums_57 : decode cX11_sums 57 = .ok (.getfield 311, 3) := by decide +kernel
theorem dX11_sums_60 : decode cX11_sums 60 = .ok (.iload 4, 2) := by decide +kernel
theorem dX11_sums_62 : decode cX11_sums 62 = .ok (.iload_n 2, 1) := by decide +kernel
theorem dX11_sums_63 : decode cX11_sums 63 = .ok (.irem, 1) := by decide +kernel
theorem dX11_sums_64 : decode cX11_sums 64 = .ok (.iload_n 2, 1) := by decide +kernel
theorem dX11_sums_65 : decode cX11_sums 65 = .ok (.iconst 2, 1) := by decide +kernel
theorem dX11_sums_66 : decode cX11_sums 66 = .ok (.idiv, 1) := by decide +kernel
theorem dX11_sums_67 : decode cX11_sums 67 = .ok (.if_icmp .ge 8, 3) := by decide +kernel
theorem dX11_sums_70 : decode cX11_sums 70 = .ok (.iload 5, 2) := by decide +kernel
theorem dX11_sums_72 : decode cX11_sums 72 = .ok (.goto 6, 3) := by decide +kernel
theorem dX11_sums_75 : decode cX11_sums 75 = .ok (.iload 5, 2) := by decide +kernel
theorem dX11_sums_77 : decode cX11_sums 77 = .ok (.ineg, 1) := by decide +kernel
theorem dX11_sums_78 : decode cX11_sums 78 = .ok (.iadd, 1) := by decide +kernel
theorem dX11_sums_79 : decode cX11_sums 79 = .ok (.putfield 311, 3) := by decide +kernel
theorem dX11_sums_82 : decode cX11_sums 82 = .ok (.aload_n 0, 1) := by decide +kernel
theorem dX11_sums_83 : decode cX11_sums 83 = .ok (.dup, 1) := by decide +kernel
theorem dX11_sums_84 : decode cX11_sums 84 = .ok (.getfield 314, 3) := by decide +kernel
theorem dX11_sums_87 : decode cX11_sums 87 = .ok (.iload 4, 2) := by decide +kernel
theorem dX11_sums_89 : decode cX11_sums 89 = .ok (.iload_n 2, 1) := by decide +kernel
theorem dX11_sums_90 : decode cX11_sums 90 = .ok (.iconst 4, 1) := by decide +kernel
theorem dX11_sums_91 : decode cX11_sums 91 = .ok (.idiv, 1) := by decide +kernel
theorem dX11_sums_92 : decode cX11_sums 92 = .ok (.iadd, 1) := by decide +kernel
theorem dX11_sums_93 : decode cX11_sums 93 = .ok (.iload_n 2, 1) := by decide +kernel
theorem dX11_sums_94 : decode cX11_sums 94 = .ok (.irem, 1) := by decide +kernel
theorem dX11_sums_95 : decode cX11_sums 95 = .ok (.iload_n 2, 1) := by decide +kernel
theorem dX11_sums_96 : decode cX11_sums 96 = .ok (.iconst 2, 1) := by decide +kernel
theorem dX11_sums_97 : decode cX11_sums 97 = .ok (.idiv, 1) := by decide +kernel
theorem dX11_sums_98 : decode cX11_sums 98 = .ok (.if_icmp .ge 8, 3) := by decide +kernel
theorem dX11_sums_101 : decode cX11_sums 101 = .ok (.iload 5, 2) := by decide +kernel
theorem dX11_sums_103 : decode cX11_sums 103 = .ok (.goto 6, 3) := by decide +kernel
theorem dX11_sums_106 : decode cX11_sums 106 = .ok (.iload 5, 2) := by decide +kernel
theorem dX11_sums_108 : decode cX11_sums 108 = .ok (.ineg, 1) := by decide +kernel
theorem dX11_sums_109 : decode cX11_sums 109 = .ok (.iadd, 1) := by decide +kernel
theorem dX11_sums_110 : decode cX11_sums 110 = .ok (.putfield 314, 3) := by decide +kernel
theorem dX11_sums_113 : decode cX11_sums 113 = .ok (.iconst 1, 1) := by decide +kernel
theorem dX11_sums_114 : decode cX11_sums 114 = .ok (.istore_n 3, 1) := by decide +kernel
theorem dX11_sums_115 : decode cX11_sums 115 = .ok (.iinc 4 1, 3) := by decide +kernel
theorem dX11_sums_118 : decode cX11_sums 118 = .ok (.goto (-103), 3) := by decide +kernel
theorem dX11_sums_121 : decode cX11_sums 121 = .ok (.iload_n 3, 1) := by decide +kernel
theorem dX11_sums_122 : decode cX11_sums 122 = .ok (.ireturn, 1) := by decide +kernel
noncomputable def L_X11_sums_15 (x1 : Int32) (x2 : Int32) : Nat → Int32 → Int32 → qM → (Int32 → qM → Option (Int32 × qM)) → Option (Int32 × qM)
  | 0, _, _, _, _ => none
  | n + 1, x3, x4, u3, e1 => q_ck (q_in x1 8) (if (u3.1 110 0 (Int32.toNatClampNeg x1)) ≤ x4 then e1 x3 u3 else q_ck (q_in ((48 * x1) + x4) 384) (q_jn (fun (x5 : Int32) (u4 : qM) => q_lt (x4 + 1) (fun (x6 : Int32) => L_X11_sums_15 x1 x2 n x5 x6 u4 e1)) (fun j1 => if (u3.1 112 0 (Int32.toNatClampNeg ((48 * x1) + x4))) = 0 then q_ck (q_in ((48 * x1) + x4) 384) (q_lt (u3.1 111 0 (Int32.toNatClampNeg ((48 * x1) + x4))) (fun (x7 : Int32) => q_ck (q_nz x2) (q_jn (fun (x8 : Int32) (u5 : qM) => q_lt (q_si u5 11 0 53 ((u3.1 11 0 53) + x8)) (fun (u6 : qM) => q_ck (q_nz x2) (q_jn (fun (x9 : Int32) (u7 : qM) => q_lt (q_si u7 11 0 54 ((u6.1 11 0 54) + x9)) (fun (u8 : qM) => j1 1 u8)) (fun j3 => if (x2 / 2) ≤ ((x4 + (x2 / 4)) - (x4 + (x2 / 4)) / x2 * x2) then j3 (-x7) u6 else j3 x7 u6)))) (fun j2 => if (x2 / 2) ≤ (x4 - x4 / x2 * x2) then j2 (-x7) u3 else j2 x7 u3)))) else j1 x3 u3)))
noncomputable def f_X11_sums (x1 : Int32) (x2 : Int32) (u0 : qM) : Option (Int32 × qM) :=
  q_lt (q_si u0 11 0 53 0) (fun (u1 : qM) => q_lt (q_si u1 11 0 54 0) (fun (u2 : qM) => L_X11_sums_15 x1 x2 q_fu 0 0 u2 (fun x10 u9 => q_ck (q_b x10) (some (x10, u9)))))
set_option maxRecDepth 100000 in
set_option maxHeartbeats 4000000 in
theorem TL_X11_sums_15 (l : Launch) (G : qG) (x1 : Int32) (x2 : Int32)  (e1 : Int32 → qM → Option (Int32 × qM)) (he1 : ∀ (y1 : Int32) (v : qM), qAW l G m_X11_sums (q_mq G q_cI) 121 [(3, .int y1)] [] v (e1 y1 v)) : ∀ (n : Nat) (x3 : Int32) (x4 : Int32) (u3 : qM), qAW l G m_X11_sums (q_mq G q_cI) 15 [(0, .ref (q_ad G 11 0)), (1, .int x1), (2, .int x2), (3, .int x3), (4, .int x4)] [] u3 (L_X11_sums_15 x1 x2 n x3 x4 u3 e1) := by
  intro n
  induction n with
  | zero => intros; exact aw_none
  | succ n ih =>
    intro x3 x4 u3
    unfold L_X11_sums_15
    refine aw_iload (i := 4) dX11_sums_15 17 rfl 4 rfl ?_
    refine aw_aload_n (i := 0) dX11_sums_17 18 rfl rfl 0 rfl ?_
    refine gf_X11_50 dX11_sums_18 21 rfl wd_289 (ok_11 (by decide)) ?_
    refine aw_iload_n (i := 1) dX11_sums_21 22 rfl rfl 1 rfl ?_
    refine aw_iald dX11_sums_22 23 rfl at_110 (al_110 _) (ok_110 (by decide)) (fun h1 => ?_)
    refine aw_icmp_ge dX11_sums_23 26 rfl 121 rfl (fun h2 => ?_) (fun h2 => ?_)
    · exact aw_conv [3] rfl (he1 x3 u3)
    · refine aw_aload_n (i := 0) dX11_sums_26 27 rfl rfl 0 rfl ?_
      refine gf_X11_52 dX11_sums_27 30 rfl wd_291 (ok_11 (by decide)) ?_
      refine aw_bipush (x := 48) dX11_sums_30 32 rfl rfl ?_
      refine aw_iload_n (i := 1) dX11_sums_32 33 rfl rfl 1 rfl ?_
      refine aw_imul dX11_sums_33 34 rfl ?_
      refine aw_iload (i := 4) dX11_sums_34 36 rfl 4 rfl ?_
      refine aw_iadd dX11_sums_36 37 rfl ?_
      refine aw_zald dX11_sums_37 38 rfl at_112 (al_112 _) (ok_112 (by decide)) (fun h3 => ?_)
      refine aw_jn (fun k => ∀ (x5 : Int32) (u4 : qM), qAW l G m_X11_sums (q_mq G q_cI) 115 [(0, .ref (q_ad G 11 0)), (1, .int x1), (2, .int x2), (3, .int x5), (4, .int x4)] [] u4 (k x5 u4)) ?_ ?_
      · intro x5 u4
        refine aw_iincx (i := 4) dX11_sums_115 118 rfl 4 rfl 1 rfl (fun x6 => [(4, .int x6), (0, .ref (q_ad G 11 0)), (1, .int x1), (2, .int x2), (3, .int x5)]) (by decide) (fun _ => rfl) (fun x6 => ?_)
        refine aw_goto dX11_sums_118 15 rfl ?_
        exact aw_conv [1, 2, 3, 4, 0] rfl (ih x5 x6 u4)
      · intro j1 hj1
        refine aw_if_ne dX11_sums_38 41 rfl 115 rfl (fun h4 => ?_) (fun h4 => ?_)
        · exact hj1 x3 u3
        · refine aw_aload_n (i := 0) dX11_sums_41 42 rfl rfl 0 rfl ?_
          refine gf_X11_51 dX11_sums_42 45 rfl wd_290 (ok_11 (by decide)) ?_
          refine aw_bipush (x := 48) dX11_sums_45 47 rfl rfl ?_
          refine aw_iload_n (i := 1) dX11_sums_47 48 rfl rfl 1 rfl ?_
          refine aw_imul dX11_sums_48 49 rfl ?_
          refine aw_iload (i := 4) dX11_sums_49 51 rfl 4 rfl ?_
          refine aw_iadd dX11_sums_51 52 rfl ?_
          refine aw_iald dX11_sums_52 53 rfl at_111 (al_111 _) (ok_111 (by decide)) (fun h5 => ?_)
          refine aw_lti (fun x7 => ?_)
          refine aw_istore dX11_sums_53 55 rfl [(5, .int x7), (0, .ref (q_ad G 11 0)), (1, .int x1), (2, .int x2), (3, .int x3), (4, .int x4)] (by decide) rfl ?_
          refine aw_aload_n (i := 0) dX11_sums_55 56 rfl rfl 1 rfl ?_
          refine aw_dup dX11_sums_56 57 rfl rfl ?_
          refine gf_X11_53 dX11_sums_57 60 rfl wd_311 (ok_11 (by decide)) ?_
          refine aw_iload (i := 4) dX11_sums_60 62 rfl 5 rfl ?_
          refine aw_iload_n (i := 2) dX11_sums_62 63 rfl rfl 3 rfl ?_
          refine aw_ck (fun h6 => ?_)
          refine aw_irem dX11_sums_63 64 rfl (of_decide_eq_true h6) ?_
          refine aw_iload_n (i := 2) dX11_sums_64 65 rfl rfl 3 rfl ?_
          refine aw_iconst (x := 2) dX11_sums_65 66 rfl rfl ?_
          refine aw_idiv dX11_sums_66 67 rfl (by decide) ?_
          refine aw_jn (fun k => ∀ (x8 : Int32) (u5 : qM), qAW l G m_X11_sums (q_mq G q_cI) 78 [(0, .ref (q_ad G 11 0)), (1, .int x1), (2, .int x2), (4, .int x4), (5, .int x7)] [.int x8, .int (u3.1 11 0 53), .ref (q_ad G 11 0)] u5 (k x8 u5)) ?_ ?_
          · intro x8 u5
            refine aw_iadd dX11_sums_78 79 rfl ?_
            refine pf_X11_53 dX11_sums_79 82 rfl wd_311 (ok_11 (by decide)) ?_
            refine aw_ltm (fun u6 => ?_)
            refine aw_aload_n (i := 0) dX11_sums_82 83 rfl rfl 0 rfl ?_
            refine aw_dup dX11_sums_83 84 rfl rfl ?_
            refine gf_X11_54 dX11_sums_84 87 rfl wd_312 (ok_11 (by decide)) ?_
            refine aw_iload (i := 4) dX11_sums_87 89 rfl 3 rfl ?_
            refine aw_iload_n (i := 2) dX11_sums_89 90 rfl rfl 2 rfl ?_
            refine aw_iconst (x := 4) dX11_sums_90 91 rfl rfl ?_
            refine aw_idiv dX11_sums_91 92 rfl (by decide) ?_
            refine aw_iadd dX11_sums_92 93 rfl ?_
            refine aw_iload_n (i := 2) dX11_sums_93 94 rfl rfl 2 rfl ?_
            refine aw_ck (fun h8 => ?_)
            refine aw_irem dX11_sums_94 95 rfl (of_decide_eq_true h8) ?_
            refine aw_iload_n (i := 2) dX11_sums_95 96 rfl rfl 2 rfl ?_
            refine aw_iconst (x := 2) dX11_sums_96 97 rfl rfl ?_
            refine aw_idiv dX11_sums_97 98 rfl (by decide) ?_
            refine aw_jn (fun k => ∀ (x9 : Int32) (u7 : qM), qAW l G m_X11_sums (q_mq G q_cI) 109 [(0, .ref (q_ad G 11 0)), (1, .int x1), (2, .int x2), (4, .int x4)] [.int x9, .int (u6.1 11 0 54), .ref (q_ad G 11 0)] u7 (k x9 u7)) ?_ ?_
            · intro x9 u7
              refine aw_iadd dX11_sums_109 110 rfl ?_
              refine pf_X11_54 dX11_sums_110 113 rfl wd_312 (ok_11 (by decide)) ?_
              refine aw_ltm (fun u8 => ?_)
              refine aw_iconst (x := 1) dX11_sums_113 114 rfl rfl ?_
              refine aw_istore_n dX11_sums_114 115 rfl rfl [(3, .int 1), (0, .ref (q_ad G 11 0)), (1, .int x1), (2, .int x2), (4, .int x4)] (by decide) rfl ?_
              exact aw_conv [1, 2, 3, 0, 4] rfl (hj1 1 u8)
            · intro j3 hj3
              refine aw_icmp_ge dX11_sums_98 101 rfl 106 rfl (fun h9 => ?_) (fun h9 => ?_)
              · refine aw_iload (i := 5) dX11_sums_106 108 rfl 4 rfl ?_
                refine aw_ineg dX11_sums_108 109 rfl ?_
                exact aw_conv [0, 1, 2, 3] rfl (hj3 (-x7) u6)
              · refine aw_iload (i := 5) dX11_sums_101 103 rfl 4 rfl ?_
                refine aw_goto dX11_sums_103 109 rfl ?_
                exact aw_conv [0, 1, 2, 3] rfl (hj3 x7 u6)
          · intro j2 hj2
            refine aw_icmp_ge dX11_sums_67 70 rfl 75 rfl (fun h7 => ?_) (fun h7 => ?_)
            · refine aw_iload (i := 5) dX11_sums_75 77 rfl 0 rfl ?_
              refine aw_ineg dX11_sums_77 78 rfl ?_
              exact aw_conv [1, 2, 3, 5, 0] rfl (hj2 (-x7) u3)
            · refine aw_iload (i := 5) dX11_sums_70 72 rfl 0 rfl ?_
              refine aw_goto dX11_sums_72 78 rfl ?_
              exact aw_conv [1, 2, 3, 5, 0] rfl (hj2 x7 u3)
set_option maxRecDepth 100000 in
set_option maxHeartbeats 4000000 in
theorem k_X11_sums (l : Launch) (G : qG) (x1 : Int32) (x2 : Int32)  (u0 : qM) : qCt l G m_X11_sums q_cI [.ref (q_ad G 11 0), .int x1, .int x2] u0 (f_X11_sums x1 x2 u0) := by
  refine q_entry pk_X11_sums (Nat.le_of_ble_eq_true rfl) ?_
  show qAW l G m_X11_sums (q_mq G q_cI) 0 [(0, .ref (q_ad G 11 0)), (1, .int x1), (2, .int x2)] [] u0 (f_X11_sums x1 x2 u0)
  unfold f_X11_sums
  refine aw_iconst (x := 0) dX11_sums_0 1 rfl rfl ?_
  refine aw_istore_n dX11_sums_1 2 rfl rfl [(3, .int 0), (0, .ref (q_ad G 11 0)), (1, .int x1), (2, .int x2)] (by decide) rfl ?_
  refine aw_aload_n (i := 0) dX11_sums_2 3 rfl rfl 1 rfl ?_
  refine aw_iconst (x := 0) dX11_sums_3 4 rfl rfl ?_
  refine pf_X11_53 dX11_sums_4 7 rfl wd_311 (ok_11 (by decide)) ?_
  refine aw_ltm (fun u1 => ?_)
  refine aw_aload_n (i := 0) dX11_sums_7 8 rfl rfl 1 rfl ?_
  refine aw_iconst (x := 0) dX11_sums_8 9 rfl rfl ?_
  refine pf_X11_54 dX11_sums_9 12 rfl wd_312 (ok_11 (by decide)) ?_
  refine aw_ltm (fun u2 => ?_)
  refine aw_iconst (x := 0) dX11_sums_12 13 rfl rfl ?_
  refine aw_istore dX11_sums_13 15 rfl [(4, .int 0), (3, .int 0), (0, .ref (q_ad G 11 0)), (1, .int x1), (2, .int x2)] (by decide) rfl ?_
  refine aw_conv [2, 3, 4, 1, 0] rfl (TL_X11_sums_15 l G x1 x2  _ ?_ _ 0 0 u2)
  · intro x10 u9
    refine aw_iload_n (i := 3) dX11_sums_121 122 rfl rfl 0 rfl ?_
    refine aw_ck (fun h10 => ?_)
    exact aw_zret dX11_sums_122 rfl h10
theorem dX11_strong_0 : decode cX11_strong 0 = .ok (.aload_n 0, 1) := by decide +kernel
theorem dX11_strong_1 : decode cX11_strong 1 = .ok (.getfield 311, 3) := by decide +kernel
theorem dX11_strong_4 : decode cX11_strong 4 = .ok (.i2l, 1) := by decide +kernel
theorem dX11_strong_5 : decode cX11_strong 5 = .ok (.aload_n 0, 1) := by decide +kernel
theorem dX11_strong_6 : decode cX11_strong 6 = .ok (.getfield 311, 3) := by decide +kernel
theorem dX11_strong_9 : decode cX11_strong 9 = .ok (.i2l, 1) := by decide +kernel
theorem dX11_strong_10 : decode cX11_strong 10 = .ok (.lmul, 1) := by decide +kernel
theorem dX11_strong_11 : decode cX11_strong 11 = .ok (.aload_n 0, 1) := by decide +kernel
theorem dX11_strong_12 : decode cX11_strong 12 = .ok (.getfield 314, 3) := by decide +kernel
theorem dX11_strong_15 : decode cX11_strong 15 = .ok (.i2l, 1) := by decide +kernel
theorem dX11_strong_16 : decode cX11_strong 16 = .ok (.aload_n 0, 1) := by decide +kernel
theorem dX11_strong_17 : decode cX11_strong 17 = .ok (.getfield 314, 3) := by decide +kernel
theorem dX11_strong_20 : decode cX11_strong 20 = .ok (.i2l, 1) := by decide +kernel
theorem dX11_strong_21 : decode cX11_strong 21 = .ok (.lmul, 1) := by decide +kernel
theorem dX11_strong_22 : decode cX11_strong 22 = .ok (.ladd, 1) := by decide +kernel
theorem dX11_strong_23 : decode cX11_strong 23 = .ok (.lreturn, 1) := by decide +kernel
noncomputable def f_X11_strong  (u0 : qM) : Option (Int64 × qM) :=
  some (((Int32.toInt64 (u0.1 11 0 53)) * (Int32.toInt64 (u0.1 11 0 53))) + ((Int32.toInt64 (u0.1 11 0 54)) * (Int32.toInt64 (u0.1 11 0 54))), u0)
set_option maxRecDepth 100000 in
set_option maxHeartbeats 4000000 in
theorem k_X11_strong (l : Launch) (G : qG)   (u0 : qM) : qCt l G m_X11_strong q_cL [.ref (q_ad G 11 0)] u0 (f_X11_strong  u0) := by
  refine q_entry pk_X11_strong (Nat.le_of_ble_eq_true rfl) ?_
  show qAW l G m_X11_strong (q_mq G q_cL) 0 [(0, .ref (q_ad G 11 0))] [] u0 (f_X11_strong  u0)
  unfold f_X11_strong
  refine aw_aload_n (i := 0) dX11_strong_0 1 rfl rfl 0 rfl ?_
  refine gf_X11_53 dX11_strong_1 4 rfl wd_311 (ok_11 (by decide)) ?_
  refine aw_i2l dX11_strong_4 5 rfl ?_
  refine aw_aload_n (i := 0) dX11_strong_5 6 rfl rfl 0 rfl ?_
  refine gf_X11_53 dX11_strong_6 9 rfl wd_311 (ok_11 (by decide)) ?_
  refine aw_i2l dX11_strong_9 10 rfl ?_
  refine aw_lmul dX11_strong_10 11 rfl ?_
  refine aw_aload_n (i := 0) dX11_strong_11 12 rfl rfl 0 rfl ?_
  refine gf_X11_54 dX11_strong_12 15 rfl wd_312 (ok_11 (by decide)) ?_
  refine aw_i2l dX11_strong_15 16 rfl ?_
  refine aw_aload_n (i := 0) dX11_strong_16 17 rfl rfl 0 rfl ?_
  refine gf_X11_54 dX11_strong_17 20 rfl wd_312 (ok_11 (by decide)) ?_
  refine aw_i2l dX11_strong_20 21 rfl ?_
  refine aw_lmul dX11_strong_21 22 rfl ?_
  refine aw_ladd dX11_strong_22 23 rfl ?_
  exact aw_lret dX11_strong_23 rfl
theorem dX11_tone_0 : decode cX11_tone 0 = .ok (.iload_n 1, 1) := by decide +kernel
theorem dX11_tone_1 : decode cX11_tone 1 = .ok (.invokestatic 305, 3) := by decide +kernel
theorem dX11_tone_4 : decode cX11_tone 4 = .ok (.ifCond .eq 19, 3) := by decide +kernel
theorem dX11_tone_7 : decode cX11_tone 7 = .ok (.iload_n 2, 1) := by decide +kernel
theorem dX11_tone_8 : decode cX11_tone 8 = .ok (.iconst 4, 1) := by decide +kernel
theorem dX11_tone_9 : decode cX11_tone 9 = .ok (.bipush 48, 2) := by decide +kernel
theorem dX11_tone_11 : decode cX11_tone 11 = .ok (.invokestatic 182, 3) := by decide +kernel
theorem dX11_tone_14 : decode cX11_tone 14 = .ok (.ifCond .eq 9, 3) := by decide +kernel
theorem dX11_tone_17 : decode cX11_tone 17 = .ok (.iload_n 2, 1) := by decide +kernel
theorem dX11_tone_18 : decode cX11_tone 18 = .ok (.iconst 4, 1) := by decide +kernel
theorem dX11_tone_19 : decode cX11_tone 19 = .ok (.irem, 1) := by decide +kernel
theorem dX11_tone_20 : decode cX11_tone 20 = .ok (.ifCond .eq 5, 3) := by decide +kernel
theorem dX11_tone_23 : decode cX11_tone 23 = .ok (.iconst (-1), 1) := by decide +kernel
theorem dX11_tone_24 : decode cX11_tone 24 = .ok (.ireturn, 1) := by decide +kernel
theorem dX11_tone_25 : decode cX11_tone 25 = .ok (.aload_n 0, 1) := by decide +kernel
theorem dX11_tone_26 : decode cX11_tone 26 = .ok (.getfield 141, 3) := by decide +kernel
theorem dX11_tone_29 : decode cX11_tone 29 = .ok (.iload_n 1, 1) := by decide +kernel
theorem dX11_tone_30 : decode cX11_tone 30 = .ok (.iaload, 1) := by decide +kernel
theorem dX11_tone_31 : decode cX11_tone 31 = .ok (.ifCond .ge 6, 3) := by decide +kernel
theorem dX11_tone_34 : decode cX11_tone 34 = .ok (.bipush (-4), 2) := by decide +kernel
theorem dX11_tone_36 : decode cX11_tone 36 = .ok (.ireturn, 1) := by decide +kernel
theorem dX11_tone_37 : decode cX11_tone 37 = .ok (.aload_n 0, 1) := by decide +kernel
theorem dX11_tone_38 : decode cX11_tone 38 = .ok (.iload_n 1, 1) := by decide +kernel
theorem dX11_tone_39 : decode cX11_tone 39 = .ok (.iload_n 2, 1) := by decide +kernel
theorem dX11_tone_40 : decode cX11_tone 40 = .ok (.invokevirtual 317, 3) := by decide +kernel
theorem dX11_tone_43 : decode cX11_tone 43 = .ok (.ifCond .ne 9, 3) := by decide +kernel
theorem dX11_tone_46 : decode cX11_tone 46 = .ok (.aload_n 0, 1) := by decide +kernel
theorem dX11_tone_47 : decode cX11_tone 47 = .ok (.iconst 4, 1) := by decide +kernel
theorem dX11_tone_48 : decode cX11_tone 48 = .ok (.invokevirtual 190, 3) := by decide +kernel
theorem dX11_tone_51 : decode cX11_tone 51 = .ok (.ireturn, 1) := by decide +kernel
theorem dX11_tone_52 : decode cX11_tone 52 = .ok (.aload_n 0, 1) := by decide +kernel
theorem dX11_tone_53 : decode cX11_tone 53 = .ok (.iconst 1, 1) := by decide +kernel
theorem dX11_tone_54 : decode cX11_tone 54 = .ok (.putfield 320, 3) := by decide +kernel
theorem dX11_tone_57 : decode cX11_tone 57 = .ok (.aload_n 0, 1) := by decide +kernel
theorem dX11_tone_58 : decode cX11_tone 58 = .ok (.aload_n 0, 1) := by decide +kernel
theorem dX11_tone_59 : decode cX11_tone 59 = .ok (.getfield 311, 3) := by decide +kernel
theorem dX11_tone_62 : decode cX11_tone 62 = .ok (.putfield 324, 3) := by decide +kernel
theorem dX11_tone_65 : decode cX11_tone 65 = .ok (.aload_n 0, 1) := by decide +kernel
theorem dX11_tone_66 : decode cX11_tone 66 = .ok (.aload_n 0, 1) := by decide +kernel
theorem dX11_tone_67 : decode cX11_tone 67 = .ok (.getfield 314, 3) := by decide +kernel
theorem dX11_tone_70 : decode cX11_tone 70 = .ok (.putfield 327, 3) := by decide +kernel
theorem dX11_tone_73 : decode cX11_tone 73 = .ok (.aload_n 0, 1) := by decide +kernel
theorem dX11_tone_74 : decode cX11_tone 74 = .ok (.aload_n 0, 1) := by decide +kernel
theorem dX11_tone_75 : decode cX11_tone 75 = .ok (.invokevirtual 330, 3) := by decide +kernel
theorem dX11_tone_78 : decode cX11_tone 78 = .ok (.putfield 334, 3) := by decide +kernel
theorem dX11_tone_81 : decode cX11_tone 81 = .ok (.iconst 1, 1) := by decide +kernel
theorem dX11_tone_82 : decode cX11_tone 82 = .ok (.ireturn, 1) := by decide +kernel
noncomputable def f_X11_tone (x1 : Int32) (x2 : Int32) (u0 : qM) : Option (Int32 × qM) :=
  q_bd (f_X11_isEight x1 u0) (fun (x3 : Int32) (u1 : qM) => q_jn (fun  (u2 : qM) => some ((-1), u2)) (fun j1 => if x3 = 0 then j1 u1 else q_bd (f_X11_in x2 4 48 u1) (fun (x4 : Int32) (u3 : qM) => if x4 = 0 then j1 u3 else if (x2 - x2 / 4 * 4) = 0 then q_ck (q_in x1 8) (if (0 : Int32) ≤ (u3.1 108 0 (Int32.toNatClampNeg x1)) then q_bd (f_X11_sums x1 x2 u3) (fun (x5 : Int32) (u4 : qM) => if x5 = 0 then q_bd (f_X11_meets 4 u4) (fun (x6 : Int32) (u10 : qM) => some (x6, u10)) else q_lt (q_si u4 11 0 55 1) (fun (u5 : qM) => q_lt (q_si u5 11 0 56 (u5.1 11 0 53)) (fun (u6 : qM) => q_lt (q_si u6 11 0 57 (u6.1 11 0 54)) (fun (u7 : qM) => q_bd (f_X11_strong  u7) (fun (w1 : Int64) (u8 : qM) => q_lt (q_sl u8 11 0 3 w1) (fun (u9 : qM) => some (1, u9))))))) else some ((-4), u3)) else j1 u3)))
set_option maxRecDepth 100000 in
set_option maxHeartbeats 4000000 in
theorem k_X11_tone (l : Launch) (G : qG) (x1 : Int32) (x2 : Int32)  (u0 : qM) : qCt l G m_X11_tone q_cI [.ref (q_ad G 11 0), .int x1, .int x2] u0 (f_X11_tone x1 x2 u0) := by
  refine q_entry pk_X11_tone (Nat.le_of_ble_eq_true rfl) ?_
  show qAW l G m_X11_tone (q_mq G q_cI) 0 [(0, .ref (q_ad G 11 0)), (1, .int x1), (2, .int x2)] [] u0 (f_X11_tone x1 x2 u0)
  unfold f_X11_tone
  refine aw_iload_n (i := 1) dX11_tone_0 1 rfl rfl 1 rfl ?_
  refine aw_callS (M2 := m_X11_isEight) (cv := q_cI) dX11_tone_1 4 rfl (k_X11_isEight l G x1  u0) wd_309 wv_X11_isEight pk_X11_isEight rfl ⟨by decide, by decide⟩ ⟨Nat.zero_le _, Nat.zero_le _⟩ rfl (Nat.le_of_ble_eq_true rfl) (fun x3 u1 => ?_)
  show qAW l G m_X11_tone (q_mq G q_cI) 4 [(0, .ref (q_ad G 11 0)), (1, .int x1), (2, .int x2)] [.int x3] u1 _
  refine aw_jn (fun k => ∀  (u2 : qM), qAW l G m_X11_tone (q_mq G q_cI) 23 [] [] u2 (k u2)) ?_ ?_
  · intro u2
    refine aw_iconst (x := (-1)) dX11_tone_23 24 rfl rfl ?_
    exact aw_iret dX11_tone_24 rfl
  · intro j1 hj1
    refine aw_if_eq dX11_tone_4 7 rfl 23 rfl (fun h1 => ?_) (fun h1 => ?_)
    · exact aw_conv [] rfl (hj1 u1)
    · refine aw_iload_n (i := 2) dX11_tone_7 8 rfl rfl 2 rfl ?_
      refine aw_iconst (x := 4) dX11_tone_8 9 rfl rfl ?_
      refine aw_bipush (x := 48) dX11_tone_9 11 rfl rfl ?_
      refine aw_callS (M2 := m_X11_in) (cv := q_cI) dX11_tone_11 14 rfl (k_X11_in l G x2 4 48  u1) wd_226 wv_X11_in pk_X11_in rfl ⟨by decide, by decide⟩ ⟨Nat.zero_le _, Nat.zero_le _⟩ rfl (Nat.le_of_ble_eq_true rfl) (fun x4 u3 => ?_)
      show qAW l G m_X11_tone (q_mq G q_cI) 14 [(0, .ref (q_ad G 11 0)), (1, .int x1), (2, .int x2)] [.int x4] u3 _
      refine aw_if_eq dX11_tone_14 17 rfl 23 rfl (fun h2 => ?_) (fun h2 => ?_)
      · exact aw_conv [] rfl (hj1 u3)
      · refine aw_iload_n (i := 2) dX11_tone_17 18 rfl rfl 2 rfl ?_
        refine aw_iconst (x := 4) dX11_tone_18 19 rfl rfl ?_
        refine aw_irem dX11_tone_19 20 rfl (by decide) ?_
        refine aw_if_eq dX11_tone_20 23 rfl 25 rfl (fun h3 => ?_) (fun h3 => ?_)
        · refine aw_aload_n (i := 0) dX11_tone_25 26 rfl rfl 0 rfl ?_
          refine gf_X11_48 dX11_tone_26 29 rfl wd_255 (ok_11 (by decide)) ?_
          refine aw_iload_n (i := 1) dX11_tone_29 30 rfl rfl 1 rfl ?_
          refine aw_iald dX11_tone_30 31 rfl at_108 (al_108 _) (ok_108 (by decide)) (fun h4 => ?_)
          refine aw_if_ge dX11_tone_31 34 rfl 37 rfl (fun h5 => ?_) (fun h5 => ?_)
          · refine aw_aload_n (i := 0) dX11_tone_37 38 rfl rfl 0 rfl ?_
            refine aw_iload_n (i := 1) dX11_tone_38 39 rfl rfl 1 rfl ?_
            refine aw_iload_n (i := 2) dX11_tone_39 40 rfl rfl 2 rfl ?_
            refine aw_callV (M2 := m_X11_sums) (cv := q_cI) dX11_tone_40 43 rfl (k_X11_sums l G x1 x2  u3) wd_313 wv_X11_sums pk_X11_sums rfl rfl ⟨by decide, by decide⟩ ⟨Nat.zero_le _, Nat.zero_le _⟩ at_11 (ok_11 (by decide)) rfl rfl rfl (Nat.le_of_ble_eq_true rfl) (fun x5 u4 => ?_)
            show qAW l G m_X11_tone (q_mq G q_cI) 43 [(0, .ref (q_ad G 11 0)), (1, .int x1), (2, .int x2)] [.int x5] u4 _
            refine aw_if_ne dX11_tone_43 46 rfl 52 rfl (fun h6 => ?_) (fun h6 => ?_)
            · refine aw_aload_n (i := 0) dX11_tone_52 53 rfl rfl 0 rfl ?_
              refine aw_iconst (x := 1) dX11_tone_53 54 rfl rfl ?_
              refine pf_X11_55 dX11_tone_54 57 rfl wd_314 (ok_11 (by decide)) (by decide) ?_
              refine aw_ltm (fun u5 => ?_)
              refine aw_aload_n (i := 0) dX11_tone_57 58 rfl rfl 0 rfl ?_
              refine aw_aload_n (i := 0) dX11_tone_58 59 rfl rfl 0 rfl ?_
              refine gf_X11_53 dX11_tone_59 62 rfl wd_311 (ok_11 (by decide)) ?_
              refine pf_X11_56 dX11_tone_62 65 rfl wd_315 (ok_11 (by decide)) ?_
              refine aw_ltm (fun u6 => ?_)
              refine aw_aload_n (i := 0) dX11_tone_65 66 rfl rfl 0 rfl ?_
              refine aw_aload_n (i := 0) dX11_tone_66 67 rfl rfl 0 rfl ?_
              refine gf_X11_54 dX11_tone_67 70 rfl wd_312 (ok_11 (by decide)) ?_
              refine pf_X11_57 dX11_tone_70 73 rfl wd_316 (ok_11 (by decide)) ?_
              refine aw_ltm (fun u7 => ?_)
              refine aw_aload_n (i := 0) dX11_tone_73 74 rfl rfl 0 rfl ?_
              refine aw_aload_n (i := 0) dX11_tone_74 75 rfl rfl 0 rfl ?_
              refine aw_callV (M2 := m_X11_strong) (cv := q_cL) dX11_tone_75 78 rfl (k_X11_strong l G   u7) wd_317 wv_X11_strong pk_X11_strong rfl rfl ⟨by decide, by decide⟩ ⟨Nat.zero_le _, Nat.zero_le _⟩ at_11 (ok_11 (by decide)) rfl rfl rfl (Nat.le_of_ble_eq_true rfl) (fun w1 u8 => ?_)
              show qAW l G m_X11_tone (q_mq G q_cI) 78 [(0, .ref (q_ad G 11 0)), (1, .int x1), (2, .int x2)] [.long w1, .ref (q_ad G 11 0)] u8 _
              refine pf_X11_3 dX11_tone_78 81 rfl wd_318 (ok_11 (by decide)) ?_
              refine aw_ltm (fun u9 => ?_)
              refine aw_iconst (x := 1) dX11_tone_81 82 rfl rfl ?_
              exact aw_iret dX11_tone_82 rfl
            · refine aw_aload_n (i := 0) dX11_tone_46 47 rfl rfl 0 rfl ?_
              refine aw_iconst (x := 4) dX11_tone_47 48 rfl rfl ?_
              refine aw_callV (M2 := m_X11_meets) (cv := q_cI) dX11_tone_48 51 rfl (k_X11_meets l G 4  u4) wd_229 wv_X11_meets pk_X11_meets rfl rfl ⟨by decide, by decide⟩ ⟨Nat.zero_le _, Nat.zero_le _⟩ at_11 (ok_11 (by decide)) rfl rfl rfl (Nat.le_of_ble_eq_true rfl) (fun x6 u10 => ?_)
              show qAW l G m_X11_tone (q_mq G q_cI) 51 [(0, .ref (q_ad G 11 0)), (1, .int x1), (2, .int x2)] [.int x6] u10 _
              exact aw_iret dX11_tone_51 rfl
          · refine aw_bipush (x := (-4)) dX11_tone_34 36 rfl rfl ?_
            exact aw_iret dX11_tone_36 rfl
        · exact aw_conv [] rfl (hj1 u3)
theorem dX11_theTone_0 : decode cX11_theTone 0 = .ok (.iload_n 1, 1) := by decide +kernel
theorem dX11_theTone_1 : decode cX11_theTone 1 = .ok (.invokestatic 305, 3) := by decide +kernel
theorem dX11_theTone_4 : decode cX11_theTone 4 = .ok (.ifCond .ne 5, 3) := by decide +kernel
theorem dX11_theTone_7 : decode cX11_theTone 7 = .ok (.iconst (-1), 1) := by decide +kernel
theorem dX11_theTone_8 : decode cX11_theTone 8 = .ok (.ireturn, 1) := by decide +kernel
theorem dX11_theTone_9 : decode cX11_theTone 9 = .ok (.aload_n 0, 1) := by decide +kernel
theorem dX11_theTone_10 : decode cX11_theTone 10 = .ok (.getfield 141, 3) := by decide +kernel
theorem dX11_theTone_13 : decode cX11_theTone 13 = .ok (.iload_n 1, 1) := by decide +kernel
theorem dX11_theTone_14 : decode cX11_theTone 14 = .ok (.iaload, 1) := by decide +kernel
theorem dX11_theTone_15 : decode cX11_theTone 15 = .ok (.ifCond .ge 6, 3) := by decide +kernel
theorem dX11_theTone_18 : decode cX11_theTone 18 = .ok (.bipush (-4), 2) := by decide +kernel
theorem dX11_theTone_20 : decode cX11_theTone 20 = .ok (.ireturn, 1) := by decide +kernel
theorem dX11_theTone_21 : decode cX11_theTone 21 = .ok (.bipush (-9), 2) := by decide +kernel
theorem dX11_theTone_23 : decode cX11_theTone 23 = .ok (.istore_n 2, 1) := by decide +kernel
theorem dX11_theTone_24 : decode cX11_theTone 24 = .ok (.lconst 0, 1) := by decide +kernel
theorem dX11_theTone_25 : decode cX11_theTone 25 = .ok (.lstore_n 3, 1) := by decide +kernel
theorem dX11_theTone_26 : decode cX11_theTone 26 = .ok (.iconst 4, 1) := by decide +kernel
theorem dX11_theTone_27 : decode cX11_theTone 27 = .ok (.istore 5, 2) := by decide +kernel
theorem dX11_theTone_29 : decode cX11_theTone 29 = .ok (.iload 5, 2) := by decide +kernel
theorem dX11_theTone_31 : decode cX11_theTone 31 = .ok (.bipush 48, 2) := by decide +kernel
theorem dX11_theTone_33 : decode cX11_theTone 33 = .ok (.if_icmp .gt 46, 3) := by decide +kernel
theorem dX11_theTone_36 : decode cX11_theTone 36 = .ok (.aload_n 0, 1) := by decide +kernel
theorem dX11_theTone_37 : decode cX11_theTone 37 = .ok (.iload_n 1, 1) := by decide +kernel
theorem dX11_theTone_38 : decode cX11_theTone 38 = .ok (.iload 5, 2) := by decide +kernel
theorem dX11_theTone_40 : decode cX11_theTone 40 = .ok (.invokevirtual 317, 3) := by decide +kernel
theorem dX11_theTone_43 : decode cX11_theTone 43 = .ok (.ifCond .ne 9, 3) := by decide +kernel
theorem dX11_theTone_46 : decode cX11_theTone 46 = .ok (.aload_n 0, 1) := by decide +kernel
theorem dX11_theTone_47 : decode cX11_theTone 47 = .ok (.iconst 4, 1) := by decide +kernel
theorem dX11_theTone_48 : decode cX11_theTone 48 = .ok (.invokevirtual 190, 3) := by decide +kernel
theorem dX11_theTone_51 : decode cX11_theTone 51 = .ok (.ireturn, 1) := by decide +kernel
theorem dX11_theTone_52 : decode cX11_theTone 52 = .ok (.iload_n 2, 1) := by decide +kernel
theorem dX11_theTone_53 : decode cX11_theTone 53 = .ok (.ifCond .lt 12, 3) := by decide +kernel
theorem dX11_theTone_56 : decode cX11_theTone 56 = .ok (.aload_n 0, 1) := by decide +kernel
theorem dX11_theTone_57 : decode cX11_theTone 57 = .ok (.invokevirtual 330, 3) := by decide +kernel
theorem dX11_theTone_60 : decode cX11_theTone 60 = .ok (.lload_n 3, 1) := by decide +kernel
theorem dX11_theTone_61 : decode cX11_theTone 61 = .ok (.lcmp, 1) := by decide +kernel
theorem dX11_theTone_62 : decode cX11_theTone 62 = .ok (.ifCond .le 11, 3) := by decide +kernel
theorem dX11_theTone_65 : decode cX11_theTone 65 = .ok (.iload 5, 2) := by decide +kernel
theorem dX11_theTone_67 : decode cX11_theTone 67 = .ok (.istore_n 2, 1) := by decide +kernel
theorem dX11_theTone_68 : decode cX11_theTone 68 = .ok (.aload_n 0, 1) := by decide +kernel
theorem dX11_theTone_69 : decode cX11_theTone 69 = .ok (.invokevirtual 330, 3) := by decide +kernel
theorem dX11_theTone_72 : decode cX11_theTone 72 = .ok (.lstore_n 3, 1) := by decide +kernel
theorem dX11_theTone_73 : decode cX11_theTone 73 = .ok (.iinc 5 4, 3) := by decide +kernel
theorem dX11_theTone_76 : decode cX11_theTone 76 = .ok (.goto (-47), 3) := by decide +kernel
theorem dX11_theTone_79 : decode cX11_theTone 79 = .ok (.iload_n 2, 1) := by decide +kernel
theorem dX11_theTone_80 : decode cX11_theTone 80 = .ok (.ireturn, 1) := by decide +kernel
noncomputable def L_X11_theTone_29 (x1 : Int32) : Nat → Int32 → Int64 → Int32 → qM → (Int32 → qM → Option (Int32 × qM)) → (qM → Option (Int32 × qM)) → Option (Int32 × qM)
  | 0, _, _, _, _, _, _ => none
  | n + 1, x3, w1, x4, u2, e1, e2 => if 48 < x4 then e1 x3 u2 else q_bd (f_X11_sums x1 x4 u2) (fun (x5 : Int32) (u3 : qM) => if x5 = 0 then e2 u3 else q_jn (fun (x6 : Int32) (w2 : Int64) (u4 : qM) => q_lt (x4 + 4) (fun (x7 : Int32) => L_X11_theTone_29 x1 n x6 w2 x7 u4 e1 e2)) (fun j1 => q_jn (fun  (u5 : qM) => q_bd (f_X11_strong  u5) (fun (w3 : Int64) (u6 : qM) => j1 x4 w3 u6)) (fun j2 => if x3 < 0 then j2 u3 else q_bd (f_X11_strong  u3) (fun (w4 : Int64) (u7 : qM) => if (lg_cmp w4 w1) ≤ 0 then j1 x3 w1 u7 else j2 u7))))
noncomputable def f_X11_theTone (x1 : Int32) (u0 : qM) : Option (Int32 × qM) :=
  q_bd (f_X11_isEight x1 u0) (fun (x2 : Int32) (u1 : qM) => if x2 = 0 then some ((-1), u1) else q_ck (q_in x1 8) (if (0 : Int32) ≤ (u1.1 108 0 (Int32.toNatClampNeg x1)) then L_X11_theTone_29 x1 q_fu (-9) 0 4 u1 (fun x8 u8 => some (x8, u8)) (fun u9 => q_bd (f_X11_meets 4 u9) (fun (x9 : Int32) (u10 : qM) => some (x9, u10))) else some ((-4), u1)))
set_option maxRecDepth 100000 in
set_option maxHeartbeats 4000000 in
theorem TL_X11_theTone_29 (l : Launch) (G : qG) (x1 : Int32)  (e1 : Int32 → qM → Option (Int32 × qM)) (e2 : qM → Option (Int32 × qM)) (he1 : ∀ (y1 : Int32) (v : qM), qAW l G m_X11_theTone (q_mq G q_cI) 79 [(2, .int y1)] [] v (e1 y1 v)) (he2 : ∀  (v : qM), qAW l G m_X11_theTone (q_mq G q_cI) 46 [(0, .ref (q_ad G 11 0))] [] v (e2 v)) : ∀ (n : Nat) (x3 : Int32) (w1 : Int64) (x4 : Int32) (u2 : qM), qAW l G m_X11_theTone (q_mq G q_cI) 29 [(0, .ref (q_ad G 11 0)), (1, .int x1), (2, .int x3), (3, .long w1), (5, .int x4)] [] u2 (L_X11_theTone_29 x1 n x3 w1 x4 u2 e1 e2) := by
  intro n
  induction n with
  | zero => intros; exact aw_none
  | succ n ih =>
    intro x3 w1 x4 u2
    unfold L_X11_theTone_29
    refine aw_iload (i := 5) dX11_theTone_29 31 rfl 4 rfl ?_
    refine aw_bipush (x := 48) dX11_theTone_31 33 rfl rfl ?_
    refine aw_icmp_gt dX11_theTone_33 36 rfl 79 rfl (fun h4 => ?_) (fun h4 => ?_)
    · exact aw_conv [2] rfl (he1 x3 u2)
    · refine aw_aload_n (i := 0) dX11_theTone_36 37 rfl rfl 0 rfl ?_
      refine aw_iload_n (i := 1) dX11_theTone_37 38 rfl rfl 1 rfl ?_
      refine aw_iload (i := 5) dX11_theTone_38 40 rfl 4 rfl ?_
      refine aw_callV (M2 := m_X11_sums) (cv := q_cI) dX11_theTone_40 43 rfl (k_X11_sums l G x1 x4  u2) wd_313 wv_X11_sums pk_X11_sums rfl rfl ⟨by decide, by decide⟩ ⟨Nat.zero_le _, Nat.zero_le _⟩ at_11 (ok_11 (by decide)) rfl rfl rfl (Nat.le_of_ble_eq_true rfl) (fun x5 u3 => ?_)
      show qAW l G m_X11_theTone (q_mq G q_cI) 43 [(0, .ref (q_ad G 11 0)), (1, .int x1), (2, .int x3), (3, .long w1), (5, .int x4)] [.int x5] u3 _
      refine aw_if_ne dX11_theTone_43 46 rfl 52 rfl (fun h5 => ?_) (fun h5 => ?_)
      · refine aw_iload_n (i := 2) dX11_theTone_52 53 rfl rfl 2 rfl ?_
        refine aw_jn (fun k => ∀ (x6 : Int32) (w2 : Int64) (u4 : qM), qAW l G m_X11_theTone (q_mq G q_cI) 73 [(0, .ref (q_ad G 11 0)), (1, .int x1), (2, .int x6), (3, .long w2), (5, .int x4)] [] u4 (k x6 w2 u4)) ?_ ?_
        · intro x6 w2 u4
          refine aw_iincx (i := 5) dX11_theTone_73 76 rfl 4 rfl 4 rfl (fun x7 => [(5, .int x7), (0, .ref (q_ad G 11 0)), (1, .int x1), (2, .int x6), (3, .long w2)]) (by decide) (fun _ => rfl) (fun x7 => ?_)
          refine aw_goto dX11_theTone_76 29 rfl ?_
          exact aw_conv [1, 2, 3, 4, 0] rfl (ih x6 w2 x7 u4)
        · intro j1 hj1
          refine aw_jn (fun k => ∀  (u5 : qM), qAW l G m_X11_theTone (q_mq G q_cI) 65 [(0, .ref (q_ad G 11 0)), (1, .int x1), (5, .int x4)] [] u5 (k u5)) ?_ ?_
          · intro u5
            refine aw_iload (i := 5) dX11_theTone_65 67 rfl 2 rfl ?_
            refine aw_istore_n dX11_theTone_67 68 rfl rfl [(2, .int x4), (0, .ref (q_ad G 11 0)), (1, .int x1), (5, .int x4)] (by decide) rfl ?_
            refine aw_aload_n (i := 0) dX11_theTone_68 69 rfl rfl 1 rfl ?_
            refine aw_callV (M2 := m_X11_strong) (cv := q_cL) dX11_theTone_69 72 rfl (k_X11_strong l G   u5) wd_317 wv_X11_strong pk_X11_strong rfl rfl ⟨by decide, by decide⟩ ⟨Nat.zero_le _, Nat.zero_le _⟩ at_11 (ok_11 (by decide)) rfl rfl rfl (Nat.le_of_ble_eq_true rfl) (fun w3 u6 => ?_)
            show qAW l G m_X11_theTone (q_mq G q_cI) 72 [(2, .int x4), (0, .ref (q_ad G 11 0)), (1, .int x1), (5, .int x4)] [.long w3] u6 _
            refine aw_lstore_n dX11_theTone_72 73 rfl rfl [(3, .long w3), (2, .int x4), (0, .ref (q_ad G 11 0)), (1, .int x1), (5, .int x4)] (by decide) rfl ?_
            exact aw_conv [2, 3, 1, 0, 4] rfl (hj1 x4 w3 u6)
          · intro j2 hj2
            refine aw_if_lt dX11_theTone_53 56 rfl 65 rfl (fun h6 => ?_) (fun h6 => ?_)
            · exact aw_conv [0, 1, 4] rfl (hj2 u3)
            · refine aw_aload_n (i := 0) dX11_theTone_56 57 rfl rfl 0 rfl ?_
              refine aw_callV (M2 := m_X11_strong) (cv := q_cL) dX11_theTone_57 60 rfl (k_X11_strong l G   u3) wd_317 wv_X11_strong pk_X11_strong rfl rfl ⟨by decide, by decide⟩ ⟨Nat.zero_le _, Nat.zero_le _⟩ at_11 (ok_11 (by decide)) rfl rfl rfl (Nat.le_of_ble_eq_true rfl) (fun w4 u7 => ?_)
              show qAW l G m_X11_theTone (q_mq G q_cI) 60 [(0, .ref (q_ad G 11 0)), (1, .int x1), (2, .int x3), (3, .long w1), (5, .int x4)] [.long w4] u7 _
              refine aw_lload_n (i := 3) dX11_theTone_60 61 rfl rfl 3 rfl ?_
              refine aw_lcmp dX11_theTone_61 62 rfl ?_
              refine aw_if_le dX11_theTone_62 65 rfl 73 rfl (fun h7 => ?_) (fun h7 => ?_)
              · exact hj1 x3 w1 u7
              · exact aw_conv [0, 1, 4] rfl (hj2 u7)
      · exact aw_conv [0] rfl (he2 u3)
set_option maxRecDepth 100000 in
set_option maxHeartbeats 4000000 in
theorem k_X11_theTone (l : Launch) (G : qG) (x1 : Int32)  (u0 : qM) : qCt l G m_X11_theTone q_cI [.ref (q_ad G 11 0), .int x1] u0 (f_X11_theTone x1 u0) := by
  refine q_entry pk_X11_theTone (Nat.le_of_ble_eq_true rfl) ?_
  show qAW l G m_X11_theTone (q_mq G q_cI) 0 [(0, .ref (q_ad G 11 0)), (1, .int x1)] [] u0 (f_X11_theTone x1 u0)
  unfold f_X11_theTone
  refine aw_iload_n (i := 1) dX11_theTone_0 1 rfl rfl 1 rfl ?_
  refine aw_callS (M2 := m_X11_isEight) (cv := q_cI) dX11_theTone_1 4 rfl (k_X11_isEight l G x1  u0) wd_309 wv_X11_isEight pk_X11_isEight rfl ⟨by decide, by decide⟩ ⟨Nat.zero_le _, Nat.zero_le _⟩ rfl (Nat.le_of_ble_eq_true rfl) (fun x2 u1 => ?_)
  show qAW l G m_X11_theTone (q_mq G q_cI) 4 [(0, .ref (q_ad G 11 0)), (1, .int x1)] [.int x2] u1 _
  refine aw_if_ne dX11_theTone_4 7 rfl 9 rfl (fun h1 => ?_) (fun h1 => ?_)
  · refine aw_aload_n (i := 0) dX11_theTone_9 10 rfl rfl 0 rfl ?_
    refine gf_X11_48 dX11_theTone_10 13 rfl wd_255 (ok_11 (by decide)) ?_
    refine aw_iload_n (i := 1) dX11_theTone_13 14 rfl rfl 1 rfl ?_
    refine aw_iald dX11_theTone_14 15 rfl at_108 (al_108 _) (ok_108 (by decide)) (fun h2 => ?_)
    refine aw_if_ge dX11_theTone_15 18 rfl 21 rfl (fun h3 => ?_) (fun h3 => ?_)
    · refine aw_bipush (x := (-9)) dX11_theTone_21 23 rfl rfl ?_
      refine aw_istore_n dX11_theTone_23 24 rfl rfl [(2, .int (-9)), (0, .ref (q_ad G 11 0)), (1, .int x1)] (by decide) rfl ?_
      refine aw_lconst (x := 0) dX11_theTone_24 25 rfl rfl ?_
      refine aw_lstore_n dX11_theTone_25 26 rfl rfl [(3, .long 0), (2, .int (-9)), (0, .ref (q_ad G 11 0)), (1, .int x1)] (by decide) rfl ?_
      refine aw_iconst (x := 4) dX11_theTone_26 27 rfl rfl ?_
      refine aw_istore dX11_theTone_27 29 rfl [(5, .int 4), (3, .long 0), (2, .int (-9)), (0, .ref (q_ad G 11 0)), (1, .int x1)] (by decide) rfl ?_
      refine aw_conv [3, 4, 2, 1, 0] rfl (TL_X11_theTone_29 l G x1  _ _ ?_ ?_ _ (-9) 0 4 u1)
      · intro x8 u8
        refine aw_iload_n (i := 2) dX11_theTone_79 80 rfl rfl 0 rfl ?_
        exact aw_iret dX11_theTone_80 rfl
      · intro u9
        refine aw_aload_n (i := 0) dX11_theTone_46 47 rfl rfl 0 rfl ?_
        refine aw_iconst (x := 4) dX11_theTone_47 48 rfl rfl ?_
        refine aw_callV (M2 := m_X11_meets) (cv := q_cI) dX11_theTone_48 51 rfl (k_X11_meets l G 4  u9) wd_229 wv_X11_meets pk_X11_meets rfl rfl ⟨by decide, by decide⟩ ⟨Nat.zero_le _, Nat.zero_le _⟩ at_11 (ok_11 (by decide)) rfl rfl rfl (Nat.le_of_ble_eq_true rfl) (fun x9 u10 => ?_)
        show qAW l G m_X11_theTone (q_mq G q_cI) 51 [(0, .ref (q_ad G 11 0))] [.int x9] u10 _
        exact aw_iret dX11_theTone_51 rfl
    · refine aw_bipush (x := (-4)) dX11_theTone_18 20 rfl rfl ?_
      exact aw_iret dX11_theTone_20 rfl
  · refine aw_iconst (x := (-1)) dX11_theTone_7 8 rfl rfl ?_
    exact aw_iret dX11_theTone_8 rfl
theorem dX11_part_0 : decode cX11_part 0 = .ok (.aload_n 0, 1) := by decide +kernel
theorem dX11_part_1 : decode cX11_part 1 = .ok (.getfield 320, 3) := by decide +kernel
theorem dX11_part_4 : decode cX11_part 4 = .ok (.ifCond .eq 26, 3) := by decide +kernel
theorem dX11_part_7 : decode cX11_part 7 = .ok (.aload_n 0, 1) := by decide +kernel
theorem dX11_part_8 : decode cX11_part 8 = .ok (.iload_n 1, 1) := by decide +kernel
theorem dX11_part_9 : decode cX11_part 9 = .ok (.ifCond .eq 10, 3) := by decide +kernel
theorem dX11_part_12 : decode cX11_part 12 = .ok (.aload_n 0, 1) := by decide +kernel
theorem dX11_part_13 : decode cX11_part 13 = .ok (.getfield 327, 3) := by decide +kernel
theorem dX11_part_16 : decode cX11_part 16 = .ok (.goto 7, 3) := by decide +kernel
theorem dX11_part_19 : decode cX11_part 19 = .ok (.aload_n 0, 1) := by decide +kernel
theorem dX11_part_20 : decode cX11_part 20 = .ok (.getfield 324, 3) := by decide +kernel
theorem dX11_part_23 : decode cX11_part 23 = .ok (.iconst 1, 1) := by decide +kernel
theorem dX11_part_24 : decode cX11_part 24 = .ok (.invokevirtual 202, 3) := by decide +kernel
theorem dX11_part_27 : decode cX11_part 27 = .ok (.goto 5, 3) := by decide +kernel
theorem dX11_part_30 : decode cX11_part 30 = .ok (.bipush (-4), 2) := by decide +kernel
theorem dX11_part_32 : decode cX11_part 32 = .ok (.ireturn, 1) := by decide +kernel
noncomputable def f_X11_part (x1 : Int32) (u0 : qM) : Option (Int32 × qM) :=
  q_jn (fun (x2 : Int32) (u1 : qM) => some (x2, u1)) (fun j1 => if (u0.1 11 0 55) = 0 then j1 (-4) u0 else q_jn (fun (x3 : Int32) (u2 : qM) => q_bd (f_X11_ask x3 1 u2) (fun (x4 : Int32) (u3 : qM) => j1 x4 u3)) (fun j2 => if x1 = 0 then j2 (u0.1 11 0 56) u0 else j2 (u0.1 11 0 57) u0))
set_option maxRecDepth 100000 in
set_option maxHeartbeats 4000000 in
theorem k_X11_part (l : Launch) (G : qG) (x1 : Int32)  (u0 : qM) : qCt l G m_X11_part q_cI [.ref (q_ad G 11 0), .int x1] u0 (f_X11_part x1 u0) := by
  refine q_entry pk_X11_part (Nat.le_of_ble_eq_true rfl) ?_
  show qAW l G m_X11_part (q_mq G q_cI) 0 [(0, .ref (q_ad G 11 0)), (1, .int x1)] [] u0 (f_X11_part x1 u0)
  unfold f_X11_part
  refine aw_aload_n (i := 0) dX11_part_0 1 rfl rfl 0 rfl ?_
  refine gf_X11_55 dX11_part_1 4 rfl wd_314 (ok_11 (by decide)) ?_
  refine aw_jn (fun k => ∀ (x2 : Int32) (u1 : qM), qAW l G m_X11_part (q_mq G q_cI) 32 [] [.int x2] u1 (k x2 u1)) ?_ ?_
  · intro x2 u1
    exact aw_iret dX11_part_32 rfl
  · intro j1 hj1
    refine aw_if_eq dX11_part_4 7 rfl 30 rfl (fun h1 => ?_) (fun h1 => ?_)
    · refine aw_bipush (x := (-4)) dX11_part_30 32 rfl rfl ?_
      exact aw_conv [] rfl (hj1 (-4) u0)
    · refine aw_aload_n (i := 0) dX11_part_7 8 rfl rfl 0 rfl ?_
      refine aw_iload_n (i := 1) dX11_part_8 9 rfl rfl 1 rfl ?_
      refine aw_jn (fun k => ∀ (x3 : Int32) (u2 : qM), qAW l G m_X11_part (q_mq G q_cI) 23 [] [.int x3, .ref (q_ad G 11 0)] u2 (k x3 u2)) ?_ ?_
      · intro x3 u2
        refine aw_iconst (x := 1) dX11_part_23 24 rfl rfl ?_
        refine aw_callV (M2 := m_X11_ask) (cv := q_cI) dX11_part_24 27 rfl (k_X11_ask l G x3 1  u2) wd_236 wv_X11_ask pk_X11_ask rfl rfl ⟨by decide, by decide⟩ ⟨Nat.zero_le _, Nat.zero_le _⟩ at_11 (ok_11 (by decide)) rfl rfl rfl (Nat.le_of_ble_eq_true rfl) (fun x4 u3 => ?_)
        show qAW l G m_X11_part (q_mq G q_cI) 27 [] [.int x4] u3 _
        refine aw_goto dX11_part_27 32 rfl ?_
        exact hj1 x4 u3
      · intro j2 hj2
        refine aw_if_eq dX11_part_9 12 rfl 19 rfl (fun h2 => ?_) (fun h2 => ?_)
        · refine aw_aload_n (i := 0) dX11_part_19 20 rfl rfl 0 rfl ?_
          refine gf_X11_56 dX11_part_20 23 rfl wd_315 (ok_11 (by decide)) ?_
          exact aw_conv [] rfl (hj2 (u0.1 11 0 56) u0)
        · refine aw_aload_n (i := 0) dX11_part_12 13 rfl rfl 0 rfl ?_
          refine gf_X11_57 dX11_part_13 16 rfl wd_316 (ok_11 (by decide)) ?_
          refine aw_goto dX11_part_16 23 rfl ?_
          exact aw_conv [] rfl (hj2 (u0.1 11 0 57) u0)
theorem dX11_beneath_0 : decode cX11_beneath 0 = .ok (.aload_n 0, 1) := by decide +kernel
theorem dX11_beneath_1 : decode cX11_beneath 1 = .ok (.getfield 41, 3) := by decide +kernel
theorem dX11_beneath_4 : decode cX11_beneath 4 = .ok (.iload_n 1, 1) := by decide +kernel
theorem dX11_beneath_5 : decode cX11_beneath 5 = .ok (.iaload, 1) := by decide +kernel
theorem dX11_beneath_6 : decode cX11_beneath 6 = .ok (.iconst 2, 1) := by decide +kernel
theorem dX11_beneath_7 : decode cX11_beneath 7 = .ok (.idiv, 1) := by decide +kernel
theorem dX11_beneath_8 : decode cX11_beneath 8 = .ok (.istore_n 3, 1) := by decide +kernel
theorem dX11_beneath_9 : decode cX11_beneath 9 = .ok (.aload_n 0, 1) := by decide +kernel
theorem dX11_beneath_10 : decode cX11_beneath 10 = .ok (.getfield 111, 3) := by decide +kernel
theorem dX11_beneath_13 : decode cX11_beneath 13 = .ok (.iload_n 1, 1) := by decide +kernel
theorem dX11_beneath_14 : decode cX11_beneath 14 = .ok (.iaload, 1) := by decide +kernel
theorem dX11_beneath_15 : decode cX11_beneath 15 = .ok (.iload_n 2, 1) := by decide +kernel
theorem dX11_beneath_16 : decode cX11_beneath 16 = .ok (.iload_n 3, 1) := by decide +kernel
theorem dX11_beneath_17 : decode cX11_beneath 17 = .ok (.idiv, 1) := by decide +kernel
theorem dX11_beneath_18 : decode cX11_beneath 18 = .ok (.iadd, 1) := by decide +kernel
theorem dX11_beneath_19 : decode cX11_beneath 19 = .ok (.aload_n 0, 1) := by decide +kernel
theorem dX11_beneath_20 : decode cX11_beneath 20 = .ok (.getfield 41, 3) := by decide +kernel
theorem dX11_beneath_23 : decode cX11_beneath 23 = .ok (.aload_n 0, 1) := by decide +kernel
theorem dX11_beneath_24 : decode cX11_beneath 24 = .ok (.getfield 105, 3) := by decide +kernel
theorem dX11_beneath_27 : decode cX11_beneath 27 = .ok (.iload_n 1, 1) := by decide +kernel
theorem dX11_beneath_28 : decode cX11_beneath 28 = .ok (.iaload, 1) := by decide +kernel
theorem dX11_beneath_29 : decode cX11_beneath 29 = .ok (.iaload, 1) := by decide +kernel
theorem dX11_beneath_30 : decode cX11_beneath 30 = .ok (.imul, 1) := by decide +kernel
theorem dX11_beneath_31 : decode cX11_beneath 31 = .ok (.aload_n 0, 1) := by decide +kernel
theorem dX11_beneath_32 : decode cX11_beneath 32 = .ok (.getfield 108, 3) := by decide +kernel
theorem dX11_beneath_35 : decode cX11_beneath 35 = .ok (.iload_n 1, 1) := by decide +kernel
theorem dX11_beneath_36 : decode cX11_beneath 36 = .ok (.iaload, 1) := by decide +kernel
theorem dX11_beneath_37 : decode cX11_beneath 37 = .ok (.iadd, 1) := by decide +kernel
theorem dX11_beneath_38 : decode cX11_beneath 38 = .ok (.iload_n 2, 1) := by decide +kernel
theorem dX11_beneath_39 : decode cX11_beneath 39 = .ok (.iload_n 3, 1) := by decide +kernel
theorem dX11_beneath_40 : decode cX11_beneath 40 = .ok (.irem, 1) := by decide +kernel
theorem dX11_beneath_41 : decode cX11_beneath 41 = .ok (.iadd, 1) := by decide +kernel
theorem dX11_beneath_42 : decode cX11_beneath 42 = .ok (.ireturn, 1) := by decide +kernel
noncomputable def f_X11_beneath (x1 : Int32) (x2 : Int32) (u0 : qM) : Option (Int32 × qM) :=
  q_ck (q_in x1 8) (q_lt ((u0.1 75 0 (Int32.toNatClampNeg x1)) / 2) (fun (x3 : Int32) => q_ck (q_in x1 8) (q_ck (q_nz x3) (q_ck (q_in x1 8) (q_ck (q_in (u0.1 96 0 (Int32.toNatClampNeg x1)) 8) (q_ck (q_in x1 8) (q_ck (q_nz x3) (some (((((u0.1 98 0 (Int32.toNatClampNeg x1)) + (x2 / x3)) * (u0.1 75 0 (Int32.toNatClampNeg (u0.1 96 0 (Int32.toNatClampNeg x1))))) + (u0.1 97 0 (Int32.toNatClampNeg x1))) + (x2 - x2 / x3 * x3), u0)))))))))
set_option maxRecDepth 100000 in
set_option maxHeartbeats 4000000 in
theorem k_X11_beneath (l : Launch) (G : qG) (x1 : Int32) (x2 : Int32)  (u0 : qM) : qCt l G m_X11_beneath q_cI [.ref (q_ad G 11 0), .int x1, .int x2] u0 (f_X11_beneath x1 x2 u0) := by
  refine q_entry pk_X11_beneath (Nat.le_of_ble_eq_true rfl) ?_
  show qAW l G m_X11_beneath (q_mq G q_cI) 0 [(0, .ref (q_ad G 11 0)), (1, .int x1), (2, .int x2)] [] u0 (f_X11_beneath x1 x2 u0)
  unfold f_X11_beneath
  refine aw_aload_n (i := 0) dX11_beneath_0 1 rfl rfl 0 rfl ?_
  refine gf_X11_15 dX11_beneath_1 4 rfl wd_246 (ok_11 (by decide)) ?_
  refine aw_iload_n (i := 1) dX11_beneath_4 5 rfl rfl 1 rfl ?_
  refine aw_iald dX11_beneath_5 6 rfl at_75 (al_75 _) (ok_75 (by decide)) (fun h1 => ?_)
  refine aw_iconst (x := 2) dX11_beneath_6 7 rfl rfl ?_
  refine aw_idiv dX11_beneath_7 8 rfl (by decide) ?_
  refine aw_lti (fun x3 => ?_)
  refine aw_istore_n dX11_beneath_8 9 rfl rfl [(3, .int x3), (0, .ref (q_ad G 11 0)), (1, .int x1), (2, .int x2)] (by decide) rfl ?_
  refine aw_aload_n (i := 0) dX11_beneath_9 10 rfl rfl 1 rfl ?_
  refine gf_X11_38 dX11_beneath_10 13 rfl wd_319 (ok_11 (by decide)) ?_
  refine aw_iload_n (i := 1) dX11_beneath_13 14 rfl rfl 2 rfl ?_
  refine aw_iald dX11_beneath_14 15 rfl at_98 (al_98 _) (ok_98 (by decide)) (fun h2 => ?_)
  refine aw_iload_n (i := 2) dX11_beneath_15 16 rfl rfl 3 rfl ?_
  refine aw_iload_n (i := 3) dX11_beneath_16 17 rfl rfl 0 rfl ?_
  refine aw_ck (fun h3 => ?_)
  refine aw_idiv dX11_beneath_17 18 rfl (of_decide_eq_true h3) ?_
  refine aw_iadd dX11_beneath_18 19 rfl ?_
  refine aw_aload_n (i := 0) dX11_beneath_19 20 rfl rfl 1 rfl ?_
  refine gf_X11_15 dX11_beneath_20 23 rfl wd_246 (ok_11 (by decide)) ?_
  refine aw_aload_n (i := 0) dX11_beneath_23 24 rfl rfl 1 rfl ?_
  refine gf_X11_36 dX11_beneath_24 27 rfl wd_253 (ok_11 (by decide)) ?_
  refine aw_iload_n (i := 1) dX11_beneath_27 28 rfl rfl 2 rfl ?_
  refine aw_iald dX11_beneath_28 29 rfl at_96 (al_96 _) (ok_96 (by decide)) (fun h4 => ?_)
  refine aw_iald dX11_beneath_29 30 rfl at_75 (al_75 _) (ok_75 (by decide)) (fun h5 => ?_)
  refine aw_imul dX11_beneath_30 31 rfl ?_
  refine aw_aload_n (i := 0) dX11_beneath_31 32 rfl rfl 1 rfl ?_
  refine gf_X11_37 dX11_beneath_32 35 rfl wd_320 (ok_11 (by decide)) ?_
  refine aw_iload_n (i := 1) dX11_beneath_35 36 rfl rfl 2 rfl ?_
  refine aw_iald dX11_beneath_36 37 rfl at_97 (al_97 _) (ok_97 (by decide)) (fun h6 => ?_)
  refine aw_iadd dX11_beneath_37 38 rfl ?_
  refine aw_iload_n (i := 2) dX11_beneath_38 39 rfl rfl 3 rfl ?_
  refine aw_iload_n (i := 3) dX11_beneath_39 40 rfl rfl 0 rfl ?_
  refine aw_ck (fun h7 => ?_)
  refine aw_irem dX11_beneath_40 41 rfl (of_decide_eq_true h7) ?_
  refine aw_iadd dX11_beneath_41 42 rfl ?_
  exact aw_iret dX11_beneath_42 rfl
theorem dX11_fine_0 : decode cX11_fine 0 = .ok (.aload_n 0, 1) := by decide +kernel
theorem dX11_fine_1 : decode cX11_fine 1 = .ok (.getfield 41, 3) := by decide +kernel
theorem dX11_fine_4 : decode cX11_fine 4 = .ok (.iload_n 1, 1) := by decide +kernel
theorem dX11_fine_5 : decode cX11_fine 5 = .ok (.iaload, 1) := by decide +kernel
theorem dX11_fine_6 : decode cX11_fine 6 = .ok (.iconst 2, 1) := by decide +kernel
theorem dX11_fine_7 : decode cX11_fine 7 = .ok (.idiv, 1) := by decide +kernel
theorem dX11_fine_8 : decode cX11_fine 8 = .ok (.istore 4, 2) := by decide +kernel
theorem dX11_fine_10 : decode cX11_fine 10 = .ok (.iconst 2, 1) := by decide +kernel
theorem dX11_fine_11 : decode cX11_fine 11 = .ok (.iload_n 2, 1) := by decide +kernel
theorem dX11_fine_12 : decode cX11_fine 12 = .ok (.iload 4, 2) := by decide +kernel
theorem dX11_fine_14 : decode cX11_fine 14 = .ok (.idiv, 1) := by decide +kernel
theorem dX11_fine_15 : decode cX11_fine 15 = .ok (.imul, 1) := by decide +kernel
theorem dX11_fine_16 : decode cX11_fine 16 = .ok (.iload_n 3, 1) := by decide +kernel
theorem dX11_fine_17 : decode cX11_fine 17 = .ok (.iconst 2, 1) := by decide +kernel
theorem dX11_fine_18 : decode cX11_fine 18 = .ok (.idiv, 1) := by decide +kernel
theorem dX11_fine_19 : decode cX11_fine 19 = .ok (.iadd, 1) := by decide +kernel
theorem dX11_fine_20 : decode cX11_fine 20 = .ok (.aload_n 0, 1) := by decide +kernel
theorem dX11_fine_21 : decode cX11_fine 21 = .ok (.getfield 41, 3) := by decide +kernel
theorem dX11_fine_24 : decode cX11_fine 24 = .ok (.iload_n 1, 1) := by decide +kernel
theorem dX11_fine_25 : decode cX11_fine 25 = .ok (.iaload, 1) := by decide +kernel
theorem dX11_fine_26 : decode cX11_fine 26 = .ok (.imul, 1) := by decide +kernel
theorem dX11_fine_27 : decode cX11_fine 27 = .ok (.iconst 2, 1) := by decide +kernel
theorem dX11_fine_28 : decode cX11_fine 28 = .ok (.iload_n 2, 1) := by decide +kernel
theorem dX11_fine_29 : decode cX11_fine 29 = .ok (.iload 4, 2) := by decide +kernel
theorem dX11_fine_31 : decode cX11_fine 31 = .ok (.irem, 1) := by decide +kernel
theorem dX11_fine_32 : decode cX11_fine 32 = .ok (.imul, 1) := by decide +kernel
theorem dX11_fine_33 : decode cX11_fine 33 = .ok (.iadd, 1) := by decide +kernel
theorem dX11_fine_34 : decode cX11_fine 34 = .ok (.iload_n 3, 1) := by decide +kernel
theorem dX11_fine_35 : decode cX11_fine 35 = .ok (.iconst 2, 1) := by decide +kernel
theorem dX11_fine_36 : decode cX11_fine 36 = .ok (.irem, 1) := by decide +kernel
theorem dX11_fine_37 : decode cX11_fine 37 = .ok (.iadd, 1) := by decide +kernel
theorem dX11_fine_38 : decode cX11_fine 38 = .ok (.ireturn, 1) := by decide +kernel
noncomputable def f_X11_fine (x1 : Int32) (x2 : Int32) (x3 : Int32) (u0 : qM) : Option (Int32 × qM) :=
  q_ck (q_in x1 8) (q_lt ((u0.1 75 0 (Int32.toNatClampNeg x1)) / 2) (fun (x4 : Int32) => q_ck (q_nz x4) (q_ck (q_in x1 8) (q_ck (q_nz x4) (some (((((2 * (x2 / x4)) + (x3 / 2)) * (u0.1 75 0 (Int32.toNatClampNeg x1))) + (2 * (x2 - x2 / x4 * x4))) + (x3 - x3 / 2 * 2), u0))))))
set_option maxRecDepth 100000 in
set_option maxHeartbeats 4000000 in
theorem k_X11_fine (l : Launch) (G : qG) (x1 : Int32) (x2 : Int32) (x3 : Int32)  (u0 : qM) : qCt l G m_X11_fine q_cI [.ref (q_ad G 11 0), .int x1, .int x2, .int x3] u0 (f_X11_fine x1 x2 x3 u0) := by
  refine q_entry pk_X11_fine (Nat.le_of_ble_eq_true rfl) ?_
  show qAW l G m_X11_fine (q_mq G q_cI) 0 [(0, .ref (q_ad G 11 0)), (1, .int x1), (2, .int x2), (3, .int x3)] [] u0 (f_X11_fine x1 x2 x3 u0)
  unfold f_X11_fine
  refine aw_aload_n (i := 0) dX11_fine_0 1 rfl rfl 0 rfl ?_
  refine gf_X11_15 dX11_fine_1 4 rfl wd_246 (ok_11 (by decide)) ?_
  refine aw_iload_n (i := 1) dX11_fine_4 5 rfl rfl 1 rfl ?_
  refine aw_iald dX11_fine_5 6 rfl at_75 (al_75 _) (ok_75 (by decide)) (fun h1 => ?_)
  refine aw_iconst (x := 2) dX11_fine_6 7 rfl rfl ?_
  refine aw_idiv dX11_fine_7 8 rfl (by decide) ?_
  refine aw_lti (fun x4 => ?_)
  refine aw_istore dX11_fine_8 10 rfl [(4, .int x4), (0, .ref (q_ad G 11 0)), (1, .int x1), (2, .int x2), (3, .int x3)] (by decide) rfl ?_
  refine aw_iconst (x := 2) dX11_fine_10 11 rfl rfl ?_
  refine aw_iload_n (i := 2) dX11_fine_11 12 rfl rfl 3 rfl ?_
  refine aw_iload (i := 4) dX11_fine_12 14 rfl 0 rfl ?_
  refine aw_ck (fun h2 => ?_)
  refine aw_idiv dX11_fine_14 15 rfl (of_decide_eq_true h2) ?_
  refine aw_imul dX11_fine_15 16 rfl ?_
  refine aw_iload_n (i := 3) dX11_fine_16 17 rfl rfl 4 rfl ?_
  refine aw_iconst (x := 2) dX11_fine_17 18 rfl rfl ?_
  refine aw_idiv dX11_fine_18 19 rfl (by decide) ?_
  refine aw_iadd dX11_fine_19 20 rfl ?_
  refine aw_aload_n (i := 0) dX11_fine_20 21 rfl rfl 1 rfl ?_
  refine gf_X11_15 dX11_fine_21 24 rfl wd_246 (ok_11 (by decide)) ?_
  refine aw_iload_n (i := 1) dX11_fine_24 25 rfl rfl 2 rfl ?_
  refine aw_iald dX11_fine_25 26 rfl at_75 (al_75 _) (ok_75 (by decide)) (fun h3 => ?_)
  refine aw_imul dX11_fine_26 27 rfl ?_
  refine aw_iconst (x := 2) dX11_fine_27 28 rfl rfl ?_
  refine aw_iload_n (i := 2) dX11_fine_28 29 rfl rfl 3 rfl ?_
  refine aw_iload (i := 4) dX11_fine_29 31 rfl 0 rfl ?_
  refine aw_ck (fun h4 => ?_)
  refine aw_irem dX11_fine_31 32 rfl (of_decide_eq_true h4) ?_
  refine aw_imul dX11_fine_32 33 rfl ?_
  refine aw_iadd dX11_fine_33 34 rfl ?_
  refine aw_iload_n (i := 3) dX11_fine_34 35 rfl rfl 4 rfl ?_
  refine aw_iconst (x := 2) dX11_fine_35 36 rfl rfl ?_
  refine aw_irem dX11_fine_36 37 rfl (by decide) ?_
  refine aw_iadd dX11_fine_37 38 rfl ?_
  exact aw_iret dX11_fine_38 rfl
theorem dX11_nest_0 : decode cX11_nest 0 = .ok (.iload_n 1, 1) := by decide +kernel
theorem dX11_nest_1 : decode cX11_nest 1 = .ok (.invokestatic 186, 3) := by decide +kernel
theorem dX11_nest_4 : decode cX11_nest 4 = .ok (.ifCond .eq 44, 3) := by decide +kernel
theorem dX11_nest_7 : decode cX11_nest 7 = .ok (.iload_n 2, 1) := by decide +kernel
theorem dX11_nest_8 : decode cX11_nest 8 = .ok (.invokestatic 186, 3) := by decide +kernel
theorem dX11_nest_11 : decode cX11_nest 11 = .ok (.ifCond .eq 37, 3) := by decide +kernel
theorem dX11_nest_14 : decode cX11_nest 14 = .ok (.iload_n 1, 1) := by decide +kernel
theorem dX11_nest_15 : decode cX11_nest 15 = .ok (.iload_n 2, 1) := by decide +kernel
theorem dX11_nest_16 : decode cX11_nest 16 = .ok (.if_icmp .eq 32, 3) := by decide +kernel
theorem dX11_nest_19 : decode cX11_nest 19 = .ok (.iload 5, 2) := by decide +kernel
theorem dX11_nest_21 : decode cX11_nest 21 = .ok (.iconst 1, 1) := by decide +kernel
theorem dX11_nest_22 : decode cX11_nest 22 = .ok (.iconst 4, 1) := by decide +kernel
theorem dX11_nest_23 : decode cX11_nest 23 = .ok (.invokestatic 182, 3) := by decide +kernel
theorem dX11_nest_26 : decode cX11_nest 26 = .ok (.ifCond .eq 22, 3) := by decide +kernel
theorem dX11_nest_29 : decode cX11_nest 29 = .ok (.iload 6, 2) := by decide +kernel
theorem dX11_nest_31 : decode cX11_nest 31 = .ok (.iconst 1, 1) := by decide +kernel
theorem dX11_nest_32 : decode cX11_nest 32 = .ok (.iconst 3, 1) := by decide +kernel
theorem dX11_nest_33 : decode cX11_nest 33 = .ok (.invokestatic 182, 3) := by decide +kernel
theorem dX11_nest_36 : decode cX11_nest 36 = .ok (.ifCond .eq 12, 3) := by decide +kernel
theorem dX11_nest_39 : decode cX11_nest 39 = .ok (.iload_n 3, 1) := by decide +kernel
theorem dX11_nest_40 : decode cX11_nest 40 = .ok (.ifCond .lt 8, 3) := by decide +kernel
theorem dX11_nest_43 : decode cX11_nest 43 = .ok (.iload 4, 2) := by decide +kernel
theorem dX11_nest_45 : decode cX11_nest 45 = .ok (.ifCond .ge 5, 3) := by decide +kernel
theorem dX11_nest_48 : decode cX11_nest 48 = .ok (.iconst (-1), 1) := by decide +kernel
theorem dX11_nest_49 : decode cX11_nest 49 = .ok (.ireturn, 1) := by decide +kernel
theorem dX11_nest_50 : decode cX11_nest 50 = .ok (.aload_n 0, 1) := by decide +kernel
theorem dX11_nest_51 : decode cX11_nest 51 = .ok (.iload_n 2, 1) := by decide +kernel
theorem dX11_nest_52 : decode cX11_nest 52 = .ok (.invokevirtual 237, 3) := by decide +kernel
theorem dX11_nest_55 : decode cX11_nest 55 = .ok (.istore 7, 2) := by decide +kernel
theorem dX11_nest_57 : decode cX11_nest 57 = .ok (.iload 7, 2) := by decide +kernel
theorem dX11_nest_59 : decode cX11_nest 59 = .ok (.ifCond .ge 6, 3) := by decide +kernel
theorem dX11_nest_62 : decode cX11_nest 62 = .ok (.iload 7, 2) := by decide +kernel
theorem dX11_nest_64 : decode cX11_nest 64 = .ok (.ireturn, 1) := by decide +kernel
theorem dX11_nest_65 : decode cX11_nest 65 = .ok (.iload_n 3, 1) := by decide +kernel
theorem dX11_nest_66 : decode cX11_nest 66 = .ok (.aload_n 0, 1) := by decide +kernel
theorem dX11_nest_67 : decode cX11_nest 67 = .ok (.getfield 41, 3) := by decide +kernel
theorem dX11_nest_70 : decode cX11_nest 70 = .ok (.iload_n 2, 1) := by decide +kernel
theorem dX11_nest_71 : decode cX11_nest 71 = .ok (.iaload, 1) := by decide +kernel
theorem dX11_nest_72 : decode cX11_nest 72 = .ok (.iload 5, 2) := by decide +kernel
theorem dX11_nest_74 : decode cX11_nest 74 = .ok (.isub, 1) := by decide +kernel
theorem dX11_nest_75 : decode cX11_nest 75 = .ok (.if_icmp .gt 17, 3) := by decide +kernel
theorem dX11_nest_78 : decode cX11_nest 78 = .ok (.iload 4, 2) := by decide +kernel
theorem dX11_nest_80 : decode cX11_nest 80 = .ok (.aload_n 0, 1) := by decide +kernel
theorem dX11_nest_81 : decode cX11_nest 81 = .ok (.getfield 44, 3) := by decide +kernel
theorem dX11_nest_84 : decode cX11_nest 84 = .ok (.iload_n 2, 1) := by decide +kernel
theorem dX11_nest_85 : decode cX11_nest 85 = .ok (.iaload, 1) := by decide +kernel
theorem dX11_nest_86 : decode cX11_nest 86 = .ok (.iload 6, 2) := by decide +kernel
theorem dX11_nest_88 : decode cX11_nest 88 = .ok (.isub, 1) := by decide +kernel
theorem dX11_nest_89 : decode cX11_nest 89 = .ok (.if_icmp .le 5, 3) := by decide +kernel
theorem dX11_nest_92 : decode cX11_nest 92 = .ok (.iconst (-1), 1) := by decide +kernel
theorem dX11_nest_93 : decode cX11_nest 93 = .ok (.ireturn, 1) := by decide +kernel
theorem dX11_nest_94 : decode cX11_nest 94 = .ok (.aload_n 0, 1) := by decide +kernel
theorem dX11_nest_95 : decode cX11_nest 95 = .ok (.iload_n 2, 1) := by decide +kernel
theorem dX11_nest_96 : decode cX11_nest 96 = .ok (.iload_n 1, 1) := by decide +kernel
theorem dX11_nest_97 : decode cX11_nest 97 = .ok (.invokevirtual 296, 3) := by decide +kernel
theorem dX11_nest_100 : decode cX11_nest 100 = .ok (.ifCond .eq 6, 3) := by decide +kernel
theorem dX11_nest_103 : decode cX11_nest 103 = .ok (.bipush (-4), 2) := by decide +kernel
theorem dX11_nest_105 : decode cX11_nest 105 = .ok (.ireturn, 1) := by decide +kernel
theorem dX11_nest_106 : decode cX11_nest 106 = .ok (.aload_n 0, 1) := by decide +kernel
theorem dX11_nest_107 : decode cX11_nest 107 = .ok (.iload_n 1, 1) := by decide +kernel
theorem dX11_nest_108 : decode cX11_nest 108 = .ok (.invokevirtual 229, 3) := by decide +kernel
theorem dX11_nest_111 : decode cX11_nest 111 = .ok (.aload_n 0, 1) := by decide +kernel
theorem dX11_nest_112 : decode cX11_nest 112 = .ok (.iload_n 1, 1) := by decide +kernel
theorem dX11_nest_113 : decode cX11_nest 113 = .ok (.iconst 2, 1) := by decide +kernel
theorem dX11_nest_114 : decode cX11_nest 114 = .ok (.iconst 2, 1) := by decide +kernel
theorem dX11_nest_115 : decode cX11_nest 115 = .ok (.iload 5, 2) := by decide +kernel
theorem dX11_nest_117 : decode cX11_nest 117 = .ok (.imul, 1) := by decide +kernel
theorem dX11_nest_118 : decode cX11_nest 118 = .ok (.iconst 2, 1) := by decide +kernel
theorem dX11_nest_119 : decode cX11_nest 119 = .ok (.iload 6, 2) := by decide +kernel
theorem dX11_nest_121 : decode cX11_nest 121 = .ok (.imul, 1) := by decide +kernel
theorem dX11_nest_122 : decode cX11_nest 122 = .ok (.invokevirtual 233, 3) := by decide +kernel
theorem dX11_nest_125 : decode cX11_nest 125 = .ok (.aload_n 0, 1) := by decide +kernel
theorem dX11_nest_126 : decode cX11_nest 126 = .ok (.getfield 105, 3) := by decide +kernel
theorem dX11_nest_129 : decode cX11_nest 129 = .ok (.iload_n 1, 1) := by decide +kernel
theorem dX11_nest_130 : decode cX11_nest 130 = .ok (.iload_n 2, 1) := by decide +kernel
theorem dX11_nest_131 : decode cX11_nest 131 = .ok (.iastore, 1) := by decide +kernel
theorem dX11_nest_132 : decode cX11_nest 132 = .ok (.aload_n 0, 1) := by decide +kernel
theorem dX11_nest_133 : decode cX11_nest 133 = .ok (.getfield 108, 3) := by decide +kernel
theorem dX11_nest_136 : decode cX11_nest 136 = .ok (.iload_n 1, 1) := by decide +kernel
theorem dX11_nest_137 : decode cX11_nest 137 = .ok (.iload_n 3, 1) := by decide +kernel
theorem dX11_nest_138 : decode cX11_nest 138 = .ok (.iastore, 1) := by decide +kernel
theorem dX11_nest_139 : decode cX11_nest 139 = .ok (.aload_n 0, 1) := by decide +kernel
theorem dX11_nest_140 : decode cX11_nest 140 = .ok (.getfield 111, 3) := by decide +kernel
theorem dX11_nest_143 : decode cX11_nest 143 = .ok (.iload_n 1, 1) := by decide +kernel
theorem dX11_nest_144 : decode cX11_nest 144 = .ok (.iload 4, 2) := by decide +kernel
theorem dX11_nest_146 : decode cX11_nest 146 = .ok (.iastore, 1) := by decide +kernel
theorem dX11_nest_147 : decode cX11_nest 147 = .ok (.iconst 0, 1) := by decide +kernel
theorem dX11_nest_148 : decode cX11_nest 148 = .ok (.istore 8, 2) := by decide +kernel
theorem dX11_nest_150 : decode cX11_nest 150 = .ok (.iload 8, 2) := by decide +kernel
theorem dX11_nest_152 : decode cX11_nest 152 = .ok (.iload 5, 2) := by decide +kernel
theorem dX11_nest_154 : decode cX11_nest 154 = .ok (.iload 6, 2) := by decide +kernel
theorem dX11_nest_156 : decode cX11_nest 156 = .ok (.imul, 1) := by decide +kernel
theorem dX11_nest_157 : decode cX11_nest 157 = .ok (.if_icmp .ge 109, 3) := by decide +kernel
theorem dX11_nest_160 : decode cX11_nest 160 = .ok (.bipush 48, 2) := by decide +kernel
theorem dX11_nest_162 : decode cX11_nest 162 = .ok (.iload_n 2, 1) := by decide +kernel
theorem dX11_nest_163 : decode cX11_nest 163 = .ok (.imul, 1) := by decide +kernel
theorem dX11_nest_164 : decode cX11_nest 164 = .ok (.aload_n 0, 1) := by decide +kernel
theorem dX11_nest_165 : decode cX11_nest 165 = .ok (.iload_n 1, 1) := by decide +kernel
theorem dX11_nest_166 : decode cX11_nest 166 = .ok (.iload 8, 2) := by decide +kernel
theorem dX11_nest_168 : decode cX11_nest 168 = .ok (.invokevirtual 337, 3) := by decide +kernel
theorem dX11_nest_171 : decode cX11_nest 171 = .ok (.iadd, 1) := by decide +kernel
theorem dX11_nest_172 : decode cX11_nest 172 = .ok (.istore 9, 2) := by decide +kernel
theorem dX11_nest_174 : decode cX11_nest 174 = .ok (.aload_n 0, 1) := by decide +kernel
theorem dX11_nest_175 : decode cX11_nest 175 = .ok (.getfield 114, 3) := by decide +kernel
theorem dX11_nest_178 : decode cX11_nest 178 = .ok (.bipush 48, 2) := by decide +kernel
theorem dX11_nest_180 : decode cX11_nest 180 = .ok (.iload_n 1, 1) := by decide +kernel
theorem dX11_nest_181 : decode cX11_nest 181 = .ok (.imul, 1) := by decide +kernel
theorem dX11_nest_182 : decode cX11_nest 182 = .ok (.iload 8, 2) := by decide +kernel
theorem dX11_nest_184 : decode cX11_nest 184 = .ok (.iadd, 1) := by decide +kernel
theorem dX11_nest_185 : decode cX11_nest 185 = .ok (.aload_n 0, 1) := by decide +kernel
theorem dX11_nest_186 : decode cX11_nest 186 = .ok (.getfield 92, 3) := by decide +kernel
theorem dX11_nest_189 : decode cX11_nest 189 = .ok (.iload 9, 2) := by decide +kernel
theorem dX11_nest_191 : decode cX11_nest 191 = .ok (.iaload, 1) := by decide +kernel
theorem dX11_nest_192 : decode cX11_nest 192 = .ok (.iastore, 1) := by decide +kernel
theorem dX11_nest_193 : decode cX11_nest 193 = .ok (.iconst 0, 1) := by decide +kernel
theorem dX11_nest_194 : decode cX11_nest 194 = .ok (.istore 10, 2) := by decide +kernel
theorem dX11_nest_196 : decode cX11_nest 196 = .ok (.iload 10, 2) := by decide +kernel
theorem dX11_nest_198 : decode cX11_nest 198 = .ok (.iconst 4, 1) := by decide +kernel
theorem dX11_nest_199 : decode cX11_nest 199 = .ok (.if_icmp .ge 61, 3) := by decide +kernel
theorem dX11_nest_202 : decode cX11_nest 202 = .ok (.aload_n 0, 1) := by decide +kernel
theorem dX11_nest_203 : decode cX11_nest 203 = .ok (.getfield 89, 3) := by decide +kernel
theorem dX11_nest_206 : decode cX11_nest 206 = .ok (.bipush 48, 2) := by decide +kernel
theorem dX11_nest_208 : decode cX11_nest 208 = .ok (.iload_n 1, 1) := by decide +kernel
theorem dX11_nest_209 : decode cX11_nest 209 = .ok (.imul, 1) := by decide +kernel
theorem dX11_nest_210 : decode cX11_nest 210 = .ok (.aload_n 0, 1) := by decide +kernel
theorem dX11_nest_211 : decode cX11_nest 211 = .ok (.iload_n 1, 1) := by decide +kernel
theorem dX11_nest_212 : decode cX11_nest 212 = .ok (.iload 8, 2) := by decide +kernel
theorem dX11_nest_214 : decode cX11_nest 214 = .ok (.iload 10, 2) := by decide +kernel
theorem dX11_nest_216 : decode cX11_nest 216 = .ok (.invokevirtual 340, 3) := by decide +kernel
theorem dX11_nest_219 : decode cX11_nest 219 = .ok (.iadd, 1) := by decide +kernel
theorem dX11_nest_220 : decode cX11_nest 220 = .ok (.aload_n 0, 1) := by decide +kernel
theorem dX11_nest_221 : decode cX11_nest 221 = .ok (.getfield 89, 3) := by decide +kernel
theorem dX11_nest_224 : decode cX11_nest 224 = .ok (.iload 9, 2) := by decide +kernel
theorem dX11_nest_226 : decode cX11_nest 226 = .ok (.iaload, 1) := by decide +kernel
theorem dX11_nest_227 : decode cX11_nest 227 = .ok (.iastore, 1) := by decide +kernel
theorem dX11_nest_228 : decode cX11_nest 228 = .ok (.aload_n 0, 1) := by decide +kernel
theorem dX11_nest_229 : decode cX11_nest 229 = .ok (.getfield 92, 3) := by decide +kernel
theorem dX11_nest_232 : decode cX11_nest 232 = .ok (.bipush 48, 2) := by decide +kernel
theorem dX11_nest_234 : decode cX11_nest 234 = .ok (.iload_n 1, 1) := by decide +kernel
theorem dX11_nest_235 : decode cX11_nest 235 = .ok (.imul, 1) := by decide +kernel
theorem dX11_nest_236 : decode cX11_nest 236 = .ok (.aload_n 0, 1) := by decide +kernel
theorem dX11_nest_237 : decode cX11_nest 237 = .ok (.iload_n 1, 1) := by decide +kernel
theorem dX11_nest_238 : decode cX11_nest 238 = .ok (.iload 8, 2) := by decide +kernel
theorem dX11_nest_240 : decode cX11_nest 240 = .ok (.iload 10, 2) := by decide +kernel
theorem dX11_nest_242 : decode cX11_nest 242 = .ok (.invokevirtual 340, 3) := by decide +kernel
theorem dX11_nest_245 : decode cX11_nest 245 = .ok (.iadd, 1) := by decide +kernel
theorem dX11_nest_246 : decode cX11_nest 246 = .ok (.aload_n 0, 1) := by decide +kernel
theorem dX11_nest_247 : decode cX11_nest 247 = .ok (.getfield 92, 3) := by decide +kernel
theorem dX11_nest_250 : decode cX11_nest 250 = .ok (.iload 9, 2) := by decide +kernel
theorem dX11_nest_252 : decode cX11_nest 252 = .ok (.iaload, 1) := by decide +kernel
theorem dX11_nest_253 : decode cX11_nest 253 = .ok (.iastore, 1) := by decide +kernel
theorem dX11_nest_254 : decode cX11_nest 254 = .ok (.iinc 10 1, 3) := by decide +kernel
theorem dX11_nest_257 : decode cX11_nest 257 = .ok (.goto (-61), 3) := by decide +kernel
theorem dX11_nest_260 : decode cX11_nest 260 = .ok (.iinc 8 1, 3) := by decide +kernel
theorem dX11_nest_263 : decode cX11_nest 263 = .ok (.goto (-113), 3) := by decide +kernel
theorem dX11_nest_266 : decode cX11_nest 266 = .ok (.iconst 4, 1) := by decide +kernel
theorem dX11_nest_267 : decode cX11_nest 267 = .ok (.iload 5, 2) := by decide +kernel
theorem dX11_nest_269 : decode cX11_nest 269 = .ok (.imul, 1) := by decide +kernel
theorem dX11_nest_270 : decode cX11_nest 270 = .ok (.iload 6, 2) := by decide +kernel
theorem dX11_nest_272 : decode cX11_nest 272 = .ok (.imul, 1) := by decide +kernel
theorem dX11_nest_273 : decode cX11_nest 273 = .ok (.ireturn, 1) := by decide +kernel
noncomputable def L_X11_nest_196 (x1 : Int32) (x2 : Int32) (x5 : Int32) (x6 : Int32) (x13 : Int32) (x15 : Int32) : Nat → Int32 → qM → (qM → Option (Int32 × qM)) → Option (Int32 × qM)
  | 0, _, _, _ => none
  | n + 1, x16, u17, e1 => if 4 ≤ x16 then e1 u17 else q_bd (f_X11_fine x1 x13 x16 u17) (fun (x17 : Int32) (u18 : qM) => q_ck (q_in x15 384) (q_ck (q_in ((48 * x1) + x17) 384) (q_lt (q_si u18 91 0 (Int32.toNatClampNeg ((48 * x1) + x17)) (u18.1 91 0 (Int32.toNatClampNeg x15))) (fun (u19 : qM) => q_bd (f_X11_fine x1 x13 x16 u19) (fun (x18 : Int32) (u20 : qM) => q_ck (q_in x15 384) (q_ck (q_in ((48 * x1) + x18) 384) (q_lt (q_si u20 92 0 (Int32.toNatClampNeg ((48 * x1) + x18)) (u20.1 92 0 (Int32.toNatClampNeg x15))) (fun (u21 : qM) => q_lt (x16 + 1) (fun (x19 : Int32) => L_X11_nest_196 x1 x2 x5 x6 x13 x15 n x19 u21 e1)))))))))
noncomputable def L_X11_nest_150 (x1 : Int32) (x2 : Int32) (x5 : Int32) (x6 : Int32) : Nat → Int32 → qM → (qM → Option (Int32 × qM)) → Option (Int32 × qM)
  | 0, _, _, _ => none
  | n + 1, x13, u14, e1 => if (x5 * x6) ≤ x13 then e1 u14 else q_bd (f_X11_beneath x1 x13 u14) (fun (x14 : Int32) (u15 : qM) => q_lt ((48 * x2) + x14) (fun (x15 : Int32) => q_ck (q_in x15 384) (q_ck (q_in ((48 * x1) + x13) 384) (q_lt (q_si u15 99 0 (Int32.toNatClampNeg ((48 * x1) + x13)) (u15.1 92 0 (Int32.toNatClampNeg x15))) (fun (u16 : qM) => L_X11_nest_196 x1 x2 x5 x6 x13 x15 q_fu 0 u16 (fun u22 => q_lt (x13 + 1) (fun (x20 : Int32) => L_X11_nest_150 x1 x2 x5 x6 n x20 u22 e1)))))))
noncomputable def f_X11_nest (x1 : Int32) (x2 : Int32) (x3 : Int32) (x4 : Int32) (x5 : Int32) (x6 : Int32) (u0 : qM) : Option (Int32 × qM) :=
  q_bd (f_X11_isSix x1 u0) (fun (x7 : Int32) (u1 : qM) => q_jn (fun  (u2 : qM) => some ((-1), u2)) (fun j1 => if x7 = 0 then j1 u1 else q_bd (f_X11_isSix x2 u1) (fun (x8 : Int32) (u3 : qM) => if x8 = 0 then j1 u3 else if x1 = x2 then j1 u3 else q_bd (f_X11_in x5 1 4 u3) (fun (x9 : Int32) (u4 : qM) => if x9 = 0 then j1 u4 else q_bd (f_X11_in x6 1 3 u4) (fun (x10 : Int32) (u5 : qM) => if x10 = 0 then j1 u5 else if x3 < 0 then j1 u5 else if (0 : Int32) ≤ x4 then q_bd (f_X11_askedFor x2 u5) (fun (x11 : Int32) (u6 : qM) => if (0 : Int32) ≤ x11 then q_ck (q_in x2 8) (q_jn (fun  (u7 : qM) => some ((-1), u7)) (fun j2 => if ((u6.1 75 0 (Int32.toNatClampNeg x2)) - x5) < x3 then j2 u6 else q_ck (q_in x2 8) (if x4 ≤ ((u6.1 76 0 (Int32.toNatClampNeg x2)) - x6) then q_bd (f_X11_liesIn x2 x1 u6) (fun (x12 : Int32) (u8 : qM) => if x12 = 0 then q_bd (f_X11_clear x1 u8) (fun (_z : Unit) (u9 : qM) => q_bd (f_X11_begin x1 2 (2 * x5) (2 * x6) u9) (fun (_z : Unit) (u10 : qM) => q_ck (q_in x1 8) (q_lt (q_si u10 96 0 (Int32.toNatClampNeg x1) x2) (fun (u11 : qM) => q_ck (q_in x1 8) (q_lt (q_si u11 97 0 (Int32.toNatClampNeg x1) x3) (fun (u12 : qM) => q_ck (q_in x1 8) (q_lt (q_si u12 98 0 (Int32.toNatClampNeg x1) x4) (fun (u13 : qM) => L_X11_nest_150 x1 x2 x5 x6 q_fu 0 u13 (fun u23 => some ((4 * x5) * x6, u23)))))))))) else some ((-4), u8)) else j2 u6))) else some (x11, u6)) else j1 u5)))))
set_option maxRecDepth 100000 in
set_option maxHeartbeats 4000000 in
theorem TL_X11_nest_196 (l : Launch) (G : qG) (x1 : Int32) (x2 : Int32) (x5 : Int32) (x6 : Int32) (x13 : Int32) (x15 : Int32)  (e1 : qM → Option (Int32 × qM)) (he1 : ∀  (v : qM), qAW l G m_X11_nest (q_mq G q_cI) 260 [(0, .ref (q_ad G 11 0)), (1, .int x1), (2, .int x2), (5, .int x5), (6, .int x6), (8, .int x13)] [] v (e1 v)) : ∀ (n : Nat) (x16 : Int32) (u17 : qM), qAW l G m_X11_nest (q_mq G q_cI) 196 [(0, .ref (q_ad G 11 0)), (1, .int x1), (2, .int x2), (5, .int x5), (6, .int x6), (8, .int x13), (9, .int x15), (10, .int x16)] [] u17 (L_X11_nest_196 x1 x2 x5 x6 x13 x15 n x16 u17 e1) := by
  intro n
  induction n with
  | zero => intros; exact aw_none
  | succ n ih =>
    intro x16 u17
    unfold L_X11_nest_196
    refine aw_iload (i := 10) dX11_nest_196 198 rfl 7 rfl ?_
    refine aw_iconst (x := 4) dX11_nest_198 199 rfl rfl ?_
    refine aw_icmp_ge dX11_nest_199 202 rfl 260 rfl (fun h20 => ?_) (fun h20 => ?_)
    · exact aw_conv [0, 1, 2, 3, 4, 5] rfl (he1 u17)
    · refine aw_aload_n (i := 0) dX11_nest_202 203 rfl rfl 0 rfl ?_
      refine gf_X11_31 dX11_nest_203 206 rfl wd_248 (ok_11 (by decide)) ?_
      refine aw_bipush (x := 48) dX11_nest_206 208 rfl rfl ?_
      refine aw_iload_n (i := 1) dX11_nest_208 209 rfl rfl 1 rfl ?_
      refine aw_imul dX11_nest_209 210 rfl ?_
      refine aw_aload_n (i := 0) dX11_nest_210 211 rfl rfl 0 rfl ?_
      refine aw_iload_n (i := 1) dX11_nest_211 212 rfl rfl 1 rfl ?_
      refine aw_iload (i := 8) dX11_nest_212 214 rfl 5 rfl ?_
      refine aw_iload (i := 10) dX11_nest_214 216 rfl 7 rfl ?_
      refine aw_callV (M2 := m_X11_fine) (cv := q_cI) dX11_nest_216 219 rfl (k_X11_fine l G x1 x13 x16  u17) wd_322 wv_X11_fine pk_X11_fine rfl rfl ⟨by decide, by decide⟩ ⟨Nat.zero_le _, Nat.zero_le _⟩ at_11 (ok_11 (by decide)) rfl rfl rfl (Nat.le_of_ble_eq_true rfl) (fun x17 u18 => ?_)
      show qAW l G m_X11_nest (q_mq G q_cI) 219 [(0, .ref (q_ad G 11 0)), (1, .int x1), (2, .int x2), (5, .int x5), (6, .int x6), (8, .int x13), (9, .int x15), (10, .int x16)] [.int x17, .int (48 * x1), .ref (q_ad G 91 0)] u18 _
      refine aw_iadd dX11_nest_219 220 rfl ?_
      refine aw_aload_n (i := 0) dX11_nest_220 221 rfl rfl 0 rfl ?_
      refine gf_X11_31 dX11_nest_221 224 rfl wd_248 (ok_11 (by decide)) ?_
      refine aw_iload (i := 9) dX11_nest_224 226 rfl 6 rfl ?_
      refine aw_iald dX11_nest_226 227 rfl at_91 (al_91 _) (ok_91 (by decide)) (fun h21 => ?_)
      refine aw_iast dX11_nest_227 228 rfl at_91 (al_91 _) (ok_91 (by decide)) (fun h22 => ?_)
      refine aw_ltm (fun u19 => ?_)
      refine aw_aload_n (i := 0) dX11_nest_228 229 rfl rfl 0 rfl ?_
      refine gf_X11_32 dX11_nest_229 232 rfl wd_249 (ok_11 (by decide)) ?_
      refine aw_bipush (x := 48) dX11_nest_232 234 rfl rfl ?_
      refine aw_iload_n (i := 1) dX11_nest_234 235 rfl rfl 1 rfl ?_
      refine aw_imul dX11_nest_235 236 rfl ?_
      refine aw_aload_n (i := 0) dX11_nest_236 237 rfl rfl 0 rfl ?_
      refine aw_iload_n (i := 1) dX11_nest_237 238 rfl rfl 1 rfl ?_
      refine aw_iload (i := 8) dX11_nest_238 240 rfl 5 rfl ?_
      refine aw_iload (i := 10) dX11_nest_240 242 rfl 7 rfl ?_
      refine aw_callV (M2 := m_X11_fine) (cv := q_cI) dX11_nest_242 245 rfl (k_X11_fine l G x1 x13 x16  u19) wd_322 wv_X11_fine pk_X11_fine rfl rfl ⟨by decide, by decide⟩ ⟨Nat.zero_le _, Nat.zero_le _⟩ at_11 (ok_11 (by decide)) rfl rfl rfl (Nat.le_of_ble_eq_true rfl) (fun x18 u20 => ?_)
      show qAW l G m_X11_nest (q_mq G q_cI) 245 [(0, .ref (q_ad G 11 0)), (1, .int x1), (2, .int x2), (5, .int x5), (6, .int x6), (8, .int x13), (9, .int x15), (10, .int x16)] [.int x18, .int (48 * x1), .ref (q_ad G 92 0)] u20 _
      refine aw_iadd dX11_nest_245 246 rfl ?_
      refine aw_aload_n (i := 0) dX11_nest_246 247 rfl rfl 0 rfl ?_
      refine gf_X11_32 dX11_nest_247 250 rfl wd_249 (ok_11 (by decide)) ?_
      refine aw_iload (i := 9) dX11_nest_250 252 rfl 6 rfl ?_
      refine aw_iald dX11_nest_252 253 rfl at_92 (al_92 _) (ok_92 (by decide)) (fun h23 => ?_)
      refine aw_iast dX11_nest_253 254 rfl at_92 (al_92 _) (ok_92 (by decide)) (fun h24 => ?_)
      refine aw_ltm (fun u21 => ?_)
      refine aw_iincx (i := 10) dX11_nest_254 257 rfl 7 rfl 1 rfl (fun x19 => [(10, .int x19), (0, .ref (q_ad G 11 0)), (1, .int x1), (2, .int x2), (5, .int x5), (6, .int x6), (8, .int x13), (9, .int x15)]) (by decide) (fun _ => rfl) (fun x19 => ?_)
      refine aw_goto dX11_nest_257 196 rfl ?_
      exact aw_conv [1, 2, 3, 4, 5, 6, 7, 0] rfl (ih x19 u21)
set_option maxRecDepth 100000 in
set_option maxHeartbeats 4000000 in
theorem TL_X11_nest_150 (l : Launch) (G : qG) (x1 : Int32) (x2 : Int32) (x5 : Int32) (x6 : Int32)  (e1 : qM → Option (Int32 × qM)) (he1 : ∀  (v : qM), qAW l G m_X11_nest (q_mq G q_cI) 266 [(5, .int x5), (6, .int x6)] [] v (e1 v)) : ∀ (n : Nat) (x13 : Int32) (u14 : qM), qAW l G m_X11_nest (q_mq G q_cI) 150 [(0, .ref (q_ad G 11 0)), (1, .int x1), (2, .int x2), (5, .int x5), (6, .int x6), (8, .int x13)] [] u14 (L_X11_nest_150 x1 x2 x5 x6 n x13 u14 e1) := by
  intro n
  induction n with
  | zero => intros; exact aw_none
  | succ n ih =>
    intro x13 u14
    unfold L_X11_nest_150
    refine aw_iload (i := 8) dX11_nest_150 152 rfl 5 rfl ?_
    refine aw_iload (i := 5) dX11_nest_152 154 rfl 3 rfl ?_
    refine aw_iload (i := 6) dX11_nest_154 156 rfl 4 rfl ?_
    refine aw_imul dX11_nest_156 157 rfl ?_
    refine aw_icmp_ge dX11_nest_157 160 rfl 266 rfl (fun h17 => ?_) (fun h17 => ?_)
    · exact aw_conv [3, 4] rfl (he1 u14)
    · refine aw_bipush (x := 48) dX11_nest_160 162 rfl rfl ?_
      refine aw_iload_n (i := 2) dX11_nest_162 163 rfl rfl 2 rfl ?_
      refine aw_imul dX11_nest_163 164 rfl ?_
      refine aw_aload_n (i := 0) dX11_nest_164 165 rfl rfl 0 rfl ?_
      refine aw_iload_n (i := 1) dX11_nest_165 166 rfl rfl 1 rfl ?_
      refine aw_iload (i := 8) dX11_nest_166 168 rfl 5 rfl ?_
      refine aw_callV (M2 := m_X11_beneath) (cv := q_cI) dX11_nest_168 171 rfl (k_X11_beneath l G x1 x13  u14) wd_321 wv_X11_beneath pk_X11_beneath rfl rfl ⟨by decide, by decide⟩ ⟨Nat.zero_le _, Nat.zero_le _⟩ at_11 (ok_11 (by decide)) rfl rfl rfl (Nat.le_of_ble_eq_true rfl) (fun x14 u15 => ?_)
      show qAW l G m_X11_nest (q_mq G q_cI) 171 [(0, .ref (q_ad G 11 0)), (1, .int x1), (2, .int x2), (5, .int x5), (6, .int x6), (8, .int x13)] [.int x14, .int (48 * x2)] u15 _
      refine aw_iadd dX11_nest_171 172 rfl ?_
      refine aw_lti (fun x15 => ?_)
      refine aw_istore dX11_nest_172 174 rfl [(9, .int x15), (0, .ref (q_ad G 11 0)), (1, .int x1), (2, .int x2), (5, .int x5), (6, .int x6), (8, .int x13)] (by decide) rfl ?_
      refine aw_aload_n (i := 0) dX11_nest_174 175 rfl rfl 1 rfl ?_
      refine gf_X11_39 dX11_nest_175 178 rfl wd_267 (ok_11 (by decide)) ?_
      refine aw_bipush (x := 48) dX11_nest_178 180 rfl rfl ?_
      refine aw_iload_n (i := 1) dX11_nest_180 181 rfl rfl 2 rfl ?_
      refine aw_imul dX11_nest_181 182 rfl ?_
      refine aw_iload (i := 8) dX11_nest_182 184 rfl 6 rfl ?_
      refine aw_iadd dX11_nest_184 185 rfl ?_
      refine aw_aload_n (i := 0) dX11_nest_185 186 rfl rfl 1 rfl ?_
      refine gf_X11_32 dX11_nest_186 189 rfl wd_249 (ok_11 (by decide)) ?_
      refine aw_iload (i := 9) dX11_nest_189 191 rfl 0 rfl ?_
      refine aw_iald dX11_nest_191 192 rfl at_92 (al_92 _) (ok_92 (by decide)) (fun h18 => ?_)
      refine aw_iast dX11_nest_192 193 rfl at_99 (al_99 _) (ok_99 (by decide)) (fun h19 => ?_)
      refine aw_ltm (fun u16 => ?_)
      refine aw_iconst (x := 0) dX11_nest_193 194 rfl rfl ?_
      refine aw_istore dX11_nest_194 196 rfl [(10, .int 0), (9, .int x15), (0, .ref (q_ad G 11 0)), (1, .int x1), (2, .int x2), (5, .int x5), (6, .int x6), (8, .int x13)] (by decide) rfl ?_
      refine aw_conv [2, 3, 4, 5, 6, 7, 1, 0] rfl (TL_X11_nest_196 l G x1 x2 x5 x6 x13 x15  _ ?_ _ 0 u16)
      · intro u22
        refine aw_iincx (i := 8) dX11_nest_260 263 rfl 5 rfl 1 rfl (fun x20 => [(8, .int x20), (0, .ref (q_ad G 11 0)), (1, .int x1), (2, .int x2), (5, .int x5), (6, .int x6)]) (by decide) (fun _ => rfl) (fun x20 => ?_)
        refine aw_goto dX11_nest_263 150 rfl ?_
        exact aw_conv [1, 2, 3, 4, 5, 0] rfl (ih x20 u22)
set_option maxRecDepth 100000 in
set_option maxHeartbeats 4000000 in
theorem k_X11_nest (l : Launch) (G : qG) (x1 : Int32) (x2 : Int32) (x3 : Int32) (x4 : Int32) (x5 : Int32) (x6 : Int32)  (u0 : qM) : qCt l G m_X11_nest q_cI [.ref (q_ad G 11 0), .int x1, .int x2, .int x3, .int x4, .int x5, .int x6] u0 (f_X11_nest x1 x2 x3 x4 x5 x6 u0) := by
  refine q_entry pk_X11_nest (Nat.le_of_ble_eq_true rfl) ?_
  show qAW l G m_X11_nest (q_mq G q_cI) 0 [(0, .ref (q_ad G 11 0)), (1, .int x1), (2, .int x2), (3, .int x3), (4, .int x4), (5, .int x5), (6, .int x6)] [] u0 (f_X11_nest x1 x2 x3 x4 x5 x6 u0)
  unfold f_X11_nest
  refine aw_iload_n (i := 1) dX11_nest_0 1 rfl rfl 1 rfl ?_
  refine aw_callS (M2 := m_X11_isSix) (cv := q_cI) dX11_nest_1 4 rfl (k_X11_isSix l G x1  u0) wd_227 wv_X11_isSix pk_X11_isSix rfl ⟨by decide, by decide⟩ ⟨Nat.zero_le _, Nat.zero_le _⟩ rfl (Nat.le_of_ble_eq_true rfl) (fun x7 u1 => ?_)
  show qAW l G m_X11_nest (q_mq G q_cI) 4 [(0, .ref (q_ad G 11 0)), (1, .int x1), (2, .int x2), (3, .int x3), (4, .int x4), (5, .int x5), (6, .int x6)] [.int x7] u1 _
  refine aw_jn (fun k => ∀  (u2 : qM), qAW l G m_X11_nest (q_mq G q_cI) 48 [] [] u2 (k u2)) ?_ ?_
  · intro u2
    refine aw_iconst (x := (-1)) dX11_nest_48 49 rfl rfl ?_
    exact aw_iret dX11_nest_49 rfl
  · intro j1 hj1
    refine aw_if_eq dX11_nest_4 7 rfl 48 rfl (fun h1 => ?_) (fun h1 => ?_)
    · exact aw_conv [] rfl (hj1 u1)
    · refine aw_iload_n (i := 2) dX11_nest_7 8 rfl rfl 2 rfl ?_
      refine aw_callS (M2 := m_X11_isSix) (cv := q_cI) dX11_nest_8 11 rfl (k_X11_isSix l G x2  u1) wd_227 wv_X11_isSix pk_X11_isSix rfl ⟨by decide, by decide⟩ ⟨Nat.zero_le _, Nat.zero_le _⟩ rfl (Nat.le_of_ble_eq_true rfl) (fun x8 u3 => ?_)
      show qAW l G m_X11_nest (q_mq G q_cI) 11 [(0, .ref (q_ad G 11 0)), (1, .int x1), (2, .int x2), (3, .int x3), (4, .int x4), (5, .int x5), (6, .int x6)] [.int x8] u3 _
      refine aw_if_eq dX11_nest_11 14 rfl 48 rfl (fun h2 => ?_) (fun h2 => ?_)
      · exact aw_conv [] rfl (hj1 u3)
      · refine aw_iload_n (i := 1) dX11_nest_14 15 rfl rfl 1 rfl ?_
        refine aw_iload_n (i := 2) dX11_nest_15 16 rfl rfl 2 rfl ?_
        refine aw_icmp_eq dX11_nest_16 19 rfl 48 rfl (fun h3 => ?_) (fun h3 => ?_)
        · exact aw_conv [] rfl (hj1 u3)
        · refine aw_iload (i := 5) dX11_nest_19 21 rfl 5 rfl ?_
          refine aw_iconst (x := 1) dX11_nest_21 22 rfl rfl ?_
          refine aw_iconst (x := 4) dX11_nest_22 23 rfl rfl ?_
          refine aw_callS (M2 := m_X11_in) (cv := q_cI) dX11_nest_23 26 rfl (k_X11_in l G x5 1 4  u3) wd_226 wv_X11_in pk_X11_in rfl ⟨by decide, by decide⟩ ⟨Nat.zero_le _, Nat.zero_le _⟩ rfl (Nat.le_of_ble_eq_true rfl) (fun x9 u4 => ?_)
          show qAW l G m_X11_nest (q_mq G q_cI) 26 [(0, .ref (q_ad G 11 0)), (1, .int x1), (2, .int x2), (3, .int x3), (4, .int x4), (5, .int x5), (6, .int x6)] [.int x9] u4 _
          refine aw_if_eq dX11_nest_26 29 rfl 48 rfl (fun h4 => ?_) (fun h4 => ?_)
          · exact aw_conv [] rfl (hj1 u4)
          · refine aw_iload (i := 6) dX11_nest_29 31 rfl 6 rfl ?_
            refine aw_iconst (x := 1) dX11_nest_31 32 rfl rfl ?_
            refine aw_iconst (x := 3) dX11_nest_32 33 rfl rfl ?_
            refine aw_callS (M2 := m_X11_in) (cv := q_cI) dX11_nest_33 36 rfl (k_X11_in l G x6 1 3  u4) wd_226 wv_X11_in pk_X11_in rfl ⟨by decide, by decide⟩ ⟨Nat.zero_le _, Nat.zero_le _⟩ rfl (Nat.le_of_ble_eq_true rfl) (fun x10 u5 => ?_)
            show qAW l G m_X11_nest (q_mq G q_cI) 36 [(0, .ref (q_ad G 11 0)), (1, .int x1), (2, .int x2), (3, .int x3), (4, .int x4), (5, .int x5), (6, .int x6)] [.int x10] u5 _
            refine aw_if_eq dX11_nest_36 39 rfl 48 rfl (fun h5 => ?_) (fun h5 => ?_)
            · exact aw_conv [] rfl (hj1 u5)
            · refine aw_iload_n (i := 3) dX11_nest_39 40 rfl rfl 3 rfl ?_
              refine aw_if_lt dX11_nest_40 43 rfl 48 rfl (fun h6 => ?_) (fun h6 => ?_)
              · exact aw_conv [] rfl (hj1 u5)
              · refine aw_iload (i := 4) dX11_nest_43 45 rfl 4 rfl ?_
                refine aw_if_ge dX11_nest_45 48 rfl 50 rfl (fun h7 => ?_) (fun h7 => ?_)
                · refine aw_aload_n (i := 0) dX11_nest_50 51 rfl rfl 0 rfl ?_
                  refine aw_iload_n (i := 2) dX11_nest_51 52 rfl rfl 2 rfl ?_
                  refine aw_callV (M2 := m_X11_askedFor) (cv := q_cI) dX11_nest_52 55 rfl (k_X11_askedFor l G x2  u5) wd_274 wv_X11_askedFor pk_X11_askedFor rfl rfl ⟨by decide, by decide⟩ ⟨Nat.zero_le _, Nat.zero_le _⟩ at_11 (ok_11 (by decide)) rfl rfl rfl (Nat.le_of_ble_eq_true rfl) (fun x11 u6 => ?_)
                  show qAW l G m_X11_nest (q_mq G q_cI) 55 [(0, .ref (q_ad G 11 0)), (1, .int x1), (2, .int x2), (3, .int x3), (4, .int x4), (5, .int x5), (6, .int x6)] [.int x11] u6 _
                  refine aw_istore dX11_nest_55 57 rfl [(7, .int x11), (0, .ref (q_ad G 11 0)), (1, .int x1), (2, .int x2), (3, .int x3), (4, .int x4), (5, .int x5), (6, .int x6)] (by decide) rfl ?_
                  refine aw_iload (i := 7) dX11_nest_57 59 rfl 0 rfl ?_
                  refine aw_if_ge dX11_nest_59 62 rfl 65 rfl (fun h8 => ?_) (fun h8 => ?_)
                  · refine aw_iload_n (i := 3) dX11_nest_65 66 rfl rfl 4 rfl ?_
                    refine aw_aload_n (i := 0) dX11_nest_66 67 rfl rfl 1 rfl ?_
                    refine gf_X11_15 dX11_nest_67 70 rfl wd_246 (ok_11 (by decide)) ?_
                    refine aw_iload_n (i := 2) dX11_nest_70 71 rfl rfl 3 rfl ?_
                    refine aw_iald dX11_nest_71 72 rfl at_75 (al_75 _) (ok_75 (by decide)) (fun h9 => ?_)
                    refine aw_iload (i := 5) dX11_nest_72 74 rfl 6 rfl ?_
                    refine aw_isub dX11_nest_74 75 rfl ?_
                    refine aw_jn (fun k => ∀  (u7 : qM), qAW l G m_X11_nest (q_mq G q_cI) 92 [] [] u7 (k u7)) ?_ ?_
                    · intro u7
                      refine aw_iconst (x := (-1)) dX11_nest_92 93 rfl rfl ?_
                      exact aw_iret dX11_nest_93 rfl
                    · intro j2 hj2
                      refine aw_icmp_gt dX11_nest_75 78 rfl 92 rfl (fun h10 => ?_) (fun h10 => ?_)
                      · exact aw_conv [] rfl (hj2 u6)
                      · refine aw_iload (i := 4) dX11_nest_78 80 rfl 5 rfl ?_
                        refine aw_aload_n (i := 0) dX11_nest_80 81 rfl rfl 1 rfl ?_
                        refine gf_X11_16 dX11_nest_81 84 rfl wd_247 (ok_11 (by decide)) ?_
                        refine aw_iload_n (i := 2) dX11_nest_84 85 rfl rfl 3 rfl ?_
                        refine aw_iald dX11_nest_85 86 rfl at_76 (al_76 _) (ok_76 (by decide)) (fun h11 => ?_)
                        refine aw_iload (i := 6) dX11_nest_86 88 rfl 7 rfl ?_
                        refine aw_isub dX11_nest_88 89 rfl ?_
                        refine aw_icmp_le dX11_nest_89 92 rfl 94 rfl (fun h12 => ?_) (fun h12 => ?_)
                        · refine aw_aload_n (i := 0) dX11_nest_94 95 rfl rfl 1 rfl ?_
                          refine aw_iload_n (i := 2) dX11_nest_95 96 rfl rfl 3 rfl ?_
                          refine aw_iload_n (i := 1) dX11_nest_96 97 rfl rfl 2 rfl ?_
                          refine aw_callV (M2 := m_X11_liesIn) (cv := q_cI) dX11_nest_97 100 rfl (k_X11_liesIn l G x2 x1  u6) wd_306 wv_X11_liesIn pk_X11_liesIn rfl rfl ⟨by decide, by decide⟩ ⟨Nat.zero_le _, Nat.zero_le _⟩ at_11 (ok_11 (by decide)) rfl rfl rfl (Nat.le_of_ble_eq_true rfl) (fun x12 u8 => ?_)
                          show qAW l G m_X11_nest (q_mq G q_cI) 100 [(7, .int x11), (0, .ref (q_ad G 11 0)), (1, .int x1), (2, .int x2), (3, .int x3), (4, .int x4), (5, .int x5), (6, .int x6)] [.int x12] u8 _
                          refine aw_if_eq dX11_nest_100 103 rfl 106 rfl (fun h13 => ?_) (fun h13 => ?_)
                          · refine aw_aload_n (i := 0) dX11_nest_106 107 rfl rfl 1 rfl ?_
                            refine aw_iload_n (i := 1) dX11_nest_107 108 rfl rfl 2 rfl ?_
                            refine aw_callV (M2 := m_X11_clear) (cv := q_cU) dX11_nest_108 111 rfl (k_X11_clear l G x1  u8) wd_272 wv_X11_clear pk_X11_clear rfl rfl ⟨by decide, by decide⟩ ⟨Nat.zero_le _, Nat.zero_le _⟩ at_11 (ok_11 (by decide)) rfl rfl rfl (Nat.le_of_ble_eq_true rfl) (fun _z u9 => ?_)
                            show qAW l G m_X11_nest (q_mq G q_cI) 111 [(7, .int x11), (0, .ref (q_ad G 11 0)), (1, .int x1), (2, .int x2), (3, .int x3), (4, .int x4), (5, .int x5), (6, .int x6)] [] u9 _
                            refine aw_aload_n (i := 0) dX11_nest_111 112 rfl rfl 1 rfl ?_
                            refine aw_iload_n (i := 1) dX11_nest_112 113 rfl rfl 2 rfl ?_
                            refine aw_iconst (x := 2) dX11_nest_113 114 rfl rfl ?_
                            refine aw_iconst (x := 2) dX11_nest_114 115 rfl rfl ?_
                            refine aw_iload (i := 5) dX11_nest_115 117 rfl 6 rfl ?_
                            refine aw_imul dX11_nest_117 118 rfl ?_
                            refine aw_iconst (x := 2) dX11_nest_118 119 rfl rfl ?_
                            refine aw_iload (i := 6) dX11_nest_119 121 rfl 7 rfl ?_
                            refine aw_imul dX11_nest_121 122 rfl ?_
                            refine aw_callV (M2 := m_X11_begin) (cv := q_cU) dX11_nest_122 125 rfl (k_X11_begin l G x1 2 (2 * x5) (2 * x6)  u9) wd_273 wv_X11_begin pk_X11_begin rfl rfl ⟨by decide, by decide⟩ ⟨Nat.zero_le _, Nat.zero_le _⟩ at_11 (ok_11 (by decide)) rfl rfl rfl (Nat.le_of_ble_eq_true rfl) (fun _z u10 => ?_)
                            show qAW l G m_X11_nest (q_mq G q_cI) 125 [(7, .int x11), (0, .ref (q_ad G 11 0)), (1, .int x1), (2, .int x2), (3, .int x3), (4, .int x4), (5, .int x5), (6, .int x6)] [] u10 _
                            refine aw_aload_n (i := 0) dX11_nest_125 126 rfl rfl 1 rfl ?_
                            refine gf_X11_36 dX11_nest_126 129 rfl wd_253 (ok_11 (by decide)) ?_
                            refine aw_iload_n (i := 1) dX11_nest_129 130 rfl rfl 2 rfl ?_
                            refine aw_iload_n (i := 2) dX11_nest_130 131 rfl rfl 3 rfl ?_
                            refine aw_iast dX11_nest_131 132 rfl at_96 (al_96 _) (ok_96 (by decide)) (fun h14 => ?_)
                            refine aw_ltm (fun u11 => ?_)
                            refine aw_aload_n (i := 0) dX11_nest_132 133 rfl rfl 1 rfl ?_
                            refine gf_X11_37 dX11_nest_133 136 rfl wd_320 (ok_11 (by decide)) ?_
                            refine aw_iload_n (i := 1) dX11_nest_136 137 rfl rfl 2 rfl ?_
                            refine aw_iload_n (i := 3) dX11_nest_137 138 rfl rfl 4 rfl ?_
                            refine aw_iast dX11_nest_138 139 rfl at_97 (al_97 _) (ok_97 (by decide)) (fun h15 => ?_)
                            refine aw_ltm (fun u12 => ?_)
                            refine aw_aload_n (i := 0) dX11_nest_139 140 rfl rfl 1 rfl ?_
                            refine gf_X11_38 dX11_nest_140 143 rfl wd_319 (ok_11 (by decide)) ?_
                            refine aw_iload_n (i := 1) dX11_nest_143 144 rfl rfl 2 rfl ?_
                            refine aw_iload (i := 4) dX11_nest_144 146 rfl 5 rfl ?_
                            refine aw_iast dX11_nest_146 147 rfl at_98 (al_98 _) (ok_98 (by decide)) (fun h16 => ?_)
                            refine aw_ltm (fun u13 => ?_)
                            refine aw_iconst (x := 0) dX11_nest_147 148 rfl rfl ?_
                            refine aw_istore dX11_nest_148 150 rfl [(8, .int 0), (7, .int x11), (0, .ref (q_ad G 11 0)), (1, .int x1), (2, .int x2), (3, .int x3), (4, .int x4), (5, .int x5), (6, .int x6)] (by decide) rfl ?_
                            refine aw_conv [2, 3, 4, 7, 8, 0] rfl (TL_X11_nest_150 l G x1 x2 x5 x6  _ ?_ _ 0 u13)
                            · intro u23
                              refine aw_iconst (x := 4) dX11_nest_266 267 rfl rfl ?_
                              refine aw_iload (i := 5) dX11_nest_267 269 rfl 0 rfl ?_
                              refine aw_imul dX11_nest_269 270 rfl ?_
                              refine aw_iload (i := 6) dX11_nest_270 272 rfl 1 rfl ?_
                              refine aw_imul dX11_nest_272 273 rfl ?_
                              exact aw_iret dX11_nest_273 rfl
                          · refine aw_bipush (x := (-4)) dX11_nest_103 105 rfl rfl ?_
                            exact aw_iret dX11_nest_105 rfl
                        · exact aw_conv [] rfl (hj2 u6)
                  · refine aw_iload (i := 7) dX11_nest_62 64 rfl 0 rfl ?_
                    exact aw_iret dX11_nest_64 rfl
                · exact aw_conv [] rfl (hj1 u5)
theorem dX11_askedNest_0 : decode cX11_askedNest 0 = .ok (.aload_n 0, 1) := by decide +kernel
theorem dX11_askedNest_1 : decode cX11_askedNest 1 = .ok (.iload_n 1, 1) := by decide +kernel
theorem dX11_askedNest_2 : decode cX11_askedNest 2 = .ok (.invokevirtual 237, 3) := by decide +kernel
theorem dX11_askedNest_5 : decode cX11_askedNest 5 = .ok (.istore_n 2, 1) := by decide +kernel
theorem dX11_askedNest_6 : decode cX11_askedNest 6 = .ok (.iload_n 2, 1) := by decide +kernel
theorem dX11_askedNest_7 : decode cX11_askedNest 7 = .ok (.ifCond .ge 7, 3) := by decide +kernel
theorem dX11_askedNest_10 : decode cX11_askedNest 10 = .ok (.iload_n 2, 1) := by decide +kernel
theorem dX11_askedNest_11 : decode cX11_askedNest 11 = .ok (.goto 22, 3) := by decide +kernel
theorem dX11_askedNest_14 : decode cX11_askedNest 14 = .ok (.aload_n 0, 1) := by decide +kernel
theorem dX11_askedNest_15 : decode cX11_askedNest 15 = .ok (.getfield 38, 3) := by decide +kernel
theorem dX11_askedNest_18 : decode cX11_askedNest 18 = .ok (.iload_n 1, 1) := by decide +kernel
theorem dX11_askedNest_19 : decode cX11_askedNest 19 = .ok (.iaload, 1) := by decide +kernel
theorem dX11_askedNest_20 : decode cX11_askedNest 20 = .ok (.iconst 2, 1) := by decide +kernel
theorem dX11_askedNest_21 : decode cX11_askedNest 21 = .ok (.if_icmp .ne 7, 3) := by decide +kernel
theorem dX11_askedNest_24 : decode cX11_askedNest 24 = .ok (.iconst 0, 1) := by decide +kernel
theorem dX11_askedNest_25 : decode cX11_askedNest 25 = .ok (.goto 8, 3) := by decide +kernel
theorem dX11_askedNest_28 : decode cX11_askedNest 28 = .ok (.aload_n 0, 1) := by decide +kernel
theorem dX11_askedNest_29 : decode cX11_askedNest 29 = .ok (.iconst 3, 1) := by decide +kernel
theorem dX11_askedNest_30 : decode cX11_askedNest 30 = .ok (.invokevirtual 190, 3) := by decide +kernel
theorem dX11_askedNest_33 : decode cX11_askedNest 33 = .ok (.ireturn, 1) := by decide +kernel
noncomputable def f_X11_askedNest (x1 : Int32) (u0 : qM) : Option (Int32 × qM) :=
  q_bd (f_X11_askedFor x1 u0) (fun (x2 : Int32) (u1 : qM) => q_jn (fun (x3 : Int32) (u2 : qM) => some (x3, u2)) (fun j1 => if (0 : Int32) ≤ x2 then q_ck (q_in x1 8) (if (u1.1 74 0 (Int32.toNatClampNeg x1)) = 2 then j1 0 u1 else q_bd (f_X11_meets 3 u1) (fun (x4 : Int32) (u3 : qM) => j1 x4 u3)) else j1 x2 u1))
set_option maxRecDepth 100000 in
set_option maxHeartbeats 4000000 in
theorem k_X11_askedNest (l : Launch) (G : qG) (x1 : Int32)  (u0 : qM) : qCt l G m_X11_askedNest q_cI [.ref (q_ad G 11 0), .int x1] u0 (f_X11_askedNest x1 u0) := by
  refine q_entry pk_X11_askedNest (Nat.le_of_ble_eq_true rfl) ?_
  show qAW l G m_X11_askedNest (q_mq G q_cI) 0 [(0, .ref (q_ad G 11 0)), (1, .int x1)] [] u0 (f_X11_askedNest x1 u0)
  unfold f_X11_askedNest
  refine aw_aload_n (i := 0) dX11_askedNest_0 1 rfl rfl 0 rfl ?_
  refine aw_iload_n (i := 1) dX11_askedNest_1 2 rfl rfl 1 rfl ?_
  refine aw_callV (M2 := m_X11_askedFor) (cv := q_cI) dX11_askedNest_2 5 rfl (k_X11_askedFor l G x1  u0) wd_274 wv_X11_askedFor pk_X11_askedFor rfl rfl ⟨by decide, by decide⟩ ⟨Nat.zero_le _, Nat.zero_le _⟩ at_11 (ok_11 (by decide)) rfl rfl rfl (Nat.le_of_ble_eq_true rfl) (fun x2 u1 => ?_)
  show qAW l G m_X11_askedNest (q_mq G q_cI) 5 [(0, .ref (q_ad G 11 0)), (1, .int x1)] [.int x2] u1 _
  refine aw_istore_n dX11_askedNest_5 6 rfl rfl [(2, .int x2), (0, .ref (q_ad G 11 0)), (1, .int x1)] (by decide) rfl ?_
  refine aw_iload_n (i := 2) dX11_askedNest_6 7 rfl rfl 0 rfl ?_
  refine aw_jn (fun k => ∀ (x3 : Int32) (u2 : qM), qAW l G m_X11_askedNest (q_mq G q_cI) 33 [] [.int x3] u2 (k x3 u2)) ?_ ?_
  · intro x3 u2
    exact aw_iret dX11_askedNest_33 rfl
  · intro j1 hj1
    refine aw_if_ge dX11_askedNest_7 10 rfl 14 rfl (fun h1 => ?_) (fun h1 => ?_)
    · refine aw_aload_n (i := 0) dX11_askedNest_14 15 rfl rfl 1 rfl ?_
      refine gf_X11_14 dX11_askedNest_15 18 rfl wd_250 (ok_11 (by decide)) ?_
      refine aw_iload_n (i := 1) dX11_askedNest_18 19 rfl rfl 2 rfl ?_
      refine aw_iald dX11_askedNest_19 20 rfl at_74 (al_74 _) (ok_74 (by decide)) (fun h2 => ?_)
      refine aw_iconst (x := 2) dX11_askedNest_20 21 rfl rfl ?_
      refine aw_icmp_ne dX11_askedNest_21 24 rfl 28 rfl (fun h3 => ?_) (fun h3 => ?_)
      · refine aw_aload_n (i := 0) dX11_askedNest_28 29 rfl rfl 1 rfl ?_
        refine aw_iconst (x := 3) dX11_askedNest_29 30 rfl rfl ?_
        refine aw_callV (M2 := m_X11_meets) (cv := q_cI) dX11_askedNest_30 33 rfl (k_X11_meets l G 3  u1) wd_229 wv_X11_meets pk_X11_meets rfl rfl ⟨by decide, by decide⟩ ⟨Nat.zero_le _, Nat.zero_le _⟩ at_11 (ok_11 (by decide)) rfl rfl rfl (Nat.le_of_ble_eq_true rfl) (fun x4 u3 => ?_)
        show qAW l G m_X11_askedNest (q_mq G q_cI) 33 [(2, .int x2), (0, .ref (q_ad G 11 0)), (1, .int x1)] [.int x4] u3 _
        exact aw_conv [] rfl (hj1 x4 u3)
      · refine aw_iconst (x := 0) dX11_askedNest_24 25 rfl rfl ?_
        refine aw_goto dX11_askedNest_25 33 rfl ?_
        exact aw_conv [] rfl (hj1 0 u1)
    · refine aw_iload_n (i := 2) dX11_askedNest_10 11 rfl rfl 0 rfl ?_
      refine aw_goto dX11_askedNest_11 33 rfl ?_
      exact aw_conv [] rfl (hj1 x2 u1)
theorem dX11_up_0 : decode cX11_up 0 = .ok (.aload_n 0, 1) := by decide +kernel
theorem dX11_up_1 : decode cX11_up 1 = .ok (.iload_n 1, 1) := by decide +kernel
theorem dX11_up_2 : decode cX11_up 2 = .ok (.invokevirtual 343, 3) := by decide +kernel
theorem dX11_up_5 : decode cX11_up 5 = .ok (.istore_n 2, 1) := by decide +kernel
theorem dX11_up_6 : decode cX11_up 6 = .ok (.iload_n 2, 1) := by decide +kernel
theorem dX11_up_7 : decode cX11_up 7 = .ok (.ifCond .ge 5, 3) := by decide +kernel
theorem dX11_up_10 : decode cX11_up 10 = .ok (.iload_n 2, 1) := by decide +kernel
theorem dX11_up_11 : decode cX11_up 11 = .ok (.ireturn, 1) := by decide +kernel
theorem dX11_up_12 : decode cX11_up 12 = .ok (.iconst 0, 1) := by decide +kernel
theorem dX11_up_13 : decode cX11_up 13 = .ok (.istore_n 3, 1) := by decide +kernel
theorem dX11_up_14 : decode cX11_up 14 = .ok (.iconst 0, 1) := by decide +kernel
theorem dX11_up_15 : decode cX11_up 15 = .ok (.istore 4, 2) := by decide +kernel
theorem dX11_up_17 : decode cX11_up 17 = .ok (.iload 4, 2) := by decide +kernel
theorem dX11_up_19 : decode cX11_up 19 = .ok (.aload_n 0, 1) := by decide +kernel
theorem dX11_up_20 : decode cX11_up 20 = .ok (.iload_n 1, 1) := by decide +kernel
theorem dX11_up_21 : decode cX11_up 21 = .ok (.invokevirtual 223, 3) := by decide +kernel
theorem dX11_up_24 : decode cX11_up 24 = .ok (.iconst 4, 1) := by decide +kernel
theorem dX11_up_25 : decode cX11_up 25 = .ok (.idiv, 1) := by decide +kernel
theorem dX11_up_26 : decode cX11_up 26 = .ok (.if_icmp .ge 165, 3) := by decide +kernel
theorem dX11_up_29 : decode cX11_up 29 = .ok (.aload_n 0, 1) := by decide +kernel
theorem dX11_up_30 : decode cX11_up 30 = .ok (.getfield 117, 3) := by decide +kernel
theorem dX11_up_33 : decode cX11_up 33 = .ok (.bipush 48, 2) := by decide +kernel
theorem dX11_up_35 : decode cX11_up 35 = .ok (.iload_n 1, 1) := by decide +kernel
theorem dX11_up_36 : decode cX11_up 36 = .ok (.imul, 1) := by decide +kernel
theorem dX11_up_37 : decode cX11_up 37 = .ok (.iload 4, 2) := by decide +kernel
theorem dX11_up_39 : decode cX11_up 39 = .ok (.iadd, 1) := by decide +kernel
theorem dX11_up_40 : decode cX11_up 40 = .ok (.iaload, 1) := by decide +kernel
theorem dX11_up_41 : decode cX11_up 41 = .ok (.istore 5, 2) := by decide +kernel
theorem dX11_up_43 : decode cX11_up 43 = .ok (.iconst 0, 1) := by decide +kernel
theorem dX11_up_44 : decode cX11_up 44 = .ok (.istore 6, 2) := by decide +kernel
theorem dX11_up_46 : decode cX11_up 46 = .ok (.iload 6, 2) := by decide +kernel
theorem dX11_up_48 : decode cX11_up 48 = .ok (.iconst 4, 1) := by decide +kernel
theorem dX11_up_49 : decode cX11_up 49 = .ok (.if_icmp .ge 33, 3) := by decide +kernel
theorem dX11_up_52 : decode cX11_up 52 = .ok (.iload 5, 2) := by decide +kernel
theorem dX11_up_54 : decode cX11_up 54 = .ok (.aload_n 0, 1) := by decide +kernel
theorem dX11_up_55 : decode cX11_up 55 = .ok (.getfield 92, 3) := by decide +kernel
theorem dX11_up_58 : decode cX11_up 58 = .ok (.bipush 48, 2) := by decide +kernel
theorem dX11_up_60 : decode cX11_up 60 = .ok (.iload_n 1, 1) := by decide +kernel
theorem dX11_up_61 : decode cX11_up 61 = .ok (.imul, 1) := by decide +kernel
theorem dX11_up_62 : decode cX11_up 62 = .ok (.aload_n 0, 1) := by decide +kernel
theorem dX11_up_63 : decode cX11_up 63 = .ok (.iload_n 1, 1) := by decide +kernel
theorem dX11_up_64 : decode cX11_up 64 = .ok (.iload 4, 2) := by decide +kernel
theorem dX11_up_66 : decode cX11_up 66 = .ok (.iload 6, 2) := by decide +kernel
theorem dX11_up_68 : decode cX11_up 68 = .ok (.invokevirtual 340, 3) := by decide +kernel
theorem dX11_up_71 : decode cX11_up 71 = .ok (.iadd, 1) := by decide +kernel
theorem dX11_up_72 : decode cX11_up 72 = .ok (.iaload, 1) := by decide +kernel
theorem dX11_up_73 : decode cX11_up 73 = .ok (.iadd, 1) := by decide +kernel
theorem dX11_up_74 : decode cX11_up 74 = .ok (.istore 5, 2) := by decide +kernel
theorem dX11_up_76 : decode cX11_up 76 = .ok (.iinc 6 1, 3) := by decide +kernel
theorem dX11_up_79 : decode cX11_up 79 = .ok (.goto (-33), 3) := by decide +kernel
theorem dX11_up_82 : decode cX11_up 82 = .ok (.iload 5, 2) := by decide +kernel
theorem dX11_up_84 : decode cX11_up 84 = .ok (.ifCond .ge 7, 3) := by decide +kernel
theorem dX11_up_87 : decode cX11_up 87 = .ok (.iconst 0, 1) := by decide +kernel
theorem dX11_up_88 : decode cX11_up 88 = .ok (.goto 21, 3) := by decide +kernel
theorem dX11_up_91 : decode cX11_up 91 = .ok (.iload 5, 2) := by decide +kernel
theorem dX11_up_93 : decode cX11_up 93 = .ok (.iconst 4, 1) := by decide +kernel
theorem dX11_up_94 : decode cX11_up 94 = .ok (.idiv, 1) := by decide +kernel
theorem dX11_up_95 : decode cX11_up 95 = .ok (.ldc 195, 2) := by decide +kernel
theorem dX11_up_97 : decode cX11_up 97 = .ok (.if_icmp .le 8, 3) := by decide +kernel
theorem dX11_up_100 : decode cX11_up 100 = .ok (.ldc 195, 2) := by decide +kernel
theorem dX11_up_102 : decode cX11_up 102 = .ok (.goto 7, 3) := by decide +kernel
theorem dX11_up_105 : decode cX11_up 105 = .ok (.iload 5, 2) := by decide +kernel
theorem dX11_up_107 : decode cX11_up 107 = .ok (.iconst 4, 1) := by decide +kernel
theorem dX11_up_108 : decode cX11_up 108 = .ok (.idiv, 1) := by decide +kernel
theorem dX11_up_109 : decode cX11_up 109 = .ok (.istore 6, 2) := by decide +kernel
theorem dX11_up_111 : decode cX11_up 111 = .ok (.bipush 48, 2) := by decide +kernel
theorem dX11_up_113 : decode cX11_up 113 = .ok (.aload_n 0, 1) := by decide +kernel
theorem dX11_up_114 : decode cX11_up 114 = .ok (.getfield 105, 3) := by decide +kernel
theorem dX11_up_117 : decode cX11_up 117 = .ok (.iload_n 1, 1) := by decide +kernel
theorem dX11_up_118 : decode cX11_up 118 = .ok (.iaload, 1) := by decide +kernel
theorem dX11_up_119 : decode cX11_up 119 = .ok (.imul, 1) := by decide +kernel
theorem dX11_up_120 : decode cX11_up 120 = .ok (.aload_n 0, 1) := by decide +kernel
theorem dX11_up_121 : decode cX11_up 121 = .ok (.iload_n 1, 1) := by decide +kernel
theorem dX11_up_122 : decode cX11_up 122 = .ok (.iload 4, 2) := by decide +kernel
theorem dX11_up_124 : decode cX11_up 124 = .ok (.invokevirtual 337, 3) := by decide +kernel
theorem dX11_up_127 : decode cX11_up 127 = .ok (.iadd, 1) := by decide +kernel
theorem dX11_up_128 : decode cX11_up 128 = .ok (.istore 7, 2) := by decide +kernel
theorem dX11_up_130 : decode cX11_up 130 = .ok (.iload_n 3, 1) := by decide +kernel
theorem dX11_up_131 : decode cX11_up 131 = .ok (.iload 6, 2) := by decide +kernel
theorem dX11_up_133 : decode cX11_up 133 = .ok (.aload_n 0, 1) := by decide +kernel
theorem dX11_up_134 : decode cX11_up 134 = .ok (.getfield 92, 3) := by decide +kernel
theorem dX11_up_137 : decode cX11_up 137 = .ok (.iload 7, 2) := by decide +kernel
theorem dX11_up_139 : decode cX11_up 139 = .ok (.iaload, 1) := by decide +kernel
theorem dX11_up_140 : decode cX11_up 140 = .ok (.isub, 1) := by decide +kernel
theorem dX11_up_141 : decode cX11_up 141 = .ok (.iadd, 1) := by decide +kernel
theorem dX11_up_142 : decode cX11_up 142 = .ok (.istore_n 3, 1) := by decide +kernel
theorem dX11_up_143 : decode cX11_up 143 = .ok (.aload_n 0, 1) := by decide +kernel
theorem dX11_up_144 : decode cX11_up 144 = .ok (.getfield 92, 3) := by decide +kernel
theorem dX11_up_147 : decode cX11_up 147 = .ok (.iload 7, 2) := by decide +kernel
theorem dX11_up_149 : decode cX11_up 149 = .ok (.iload 6, 2) := by decide +kernel
theorem dX11_up_151 : decode cX11_up 151 = .ok (.iastore, 1) := by decide +kernel
theorem dX11_up_152 : decode cX11_up 152 = .ok (.aload_n 0, 1) := by decide +kernel
theorem dX11_up_153 : decode cX11_up 153 = .ok (.getfield 117, 3) := by decide +kernel
theorem dX11_up_156 : decode cX11_up 156 = .ok (.bipush 48, 2) := by decide +kernel
theorem dX11_up_158 : decode cX11_up 158 = .ok (.iload_n 1, 1) := by decide +kernel
theorem dX11_up_159 : decode cX11_up 159 = .ok (.imul, 1) := by decide +kernel
theorem dX11_up_160 : decode cX11_up 160 = .ok (.iload 4, 2) := by decide +kernel
theorem dX11_up_162 : decode cX11_up 162 = .ok (.iadd, 1) := by decide +kernel
theorem dX11_up_163 : decode cX11_up 163 = .ok (.iload 5, 2) := by decide +kernel
theorem dX11_up_165 : decode cX11_up 165 = .ok (.iconst 4, 1) := by decide +kernel
theorem dX11_up_166 : decode cX11_up 166 = .ok (.iload 6, 2) := by decide +kernel
theorem dX11_up_168 : decode cX11_up 168 = .ok (.imul, 1) := by decide +kernel
theorem dX11_up_169 : decode cX11_up 169 = .ok (.isub, 1) := by decide +kernel
theorem dX11_up_170 : decode cX11_up 170 = .ok (.iastore, 1) := by decide +kernel
theorem dX11_up_171 : decode cX11_up 171 = .ok (.aload_n 0, 1) := by decide +kernel
theorem dX11_up_172 : decode cX11_up 172 = .ok (.getfield 114, 3) := by decide +kernel
theorem dX11_up_175 : decode cX11_up 175 = .ok (.bipush 48, 2) := by decide +kernel
theorem dX11_up_177 : decode cX11_up 177 = .ok (.iload_n 1, 1) := by decide +kernel
theorem dX11_up_178 : decode cX11_up 178 = .ok (.imul, 1) := by decide +kernel
theorem dX11_up_179 : decode cX11_up 179 = .ok (.iload 4, 2) := by decide +kernel
theorem dX11_up_181 : decode cX11_up 181 = .ok (.iadd, 1) := by decide +kernel
theorem dX11_up_182 : decode cX11_up 182 = .ok (.iload 6, 2) := by decide +kernel
theorem dX11_up_184 : decode cX11_up 184 = .ok (.iastore, 1) := by decide +kernel
theorem dX11_up_185 : decode cX11_up 185 = .ok (.iinc 4 1, 3) := by decide +kernel
theorem dX11_up_188 : decode cX11_up 188 = .ok (.goto (-171), 3) := by decide +kernel
theorem dX11_up_191 : decode cX11_up 191 = .ok (.aload_n 0, 1) := by decide +kernel
theorem dX11_up_192 : decode cX11_up 192 = .ok (.iload_n 3, 1) := by decide +kernel
theorem dX11_up_193 : decode cX11_up 193 = .ok (.iconst 1, 1) := by decide +kernel
theorem dX11_up_194 : decode cX11_up 194 = .ok (.invokevirtual 202, 3) := by decide +kernel
theorem dX11_up_197 : decode cX11_up 197 = .ok (.ireturn, 1) := by decide +kernel
noncomputable def L_X11_up_46 (x1 : Int32) (x3 : Int32) (x4 : Int32) : Nat → Int32 → Int32 → qM → (Int32 → qM → Option (Int32 × qM)) → Option (Int32 × qM)
  | 0, _, _, _, _ => none
  | n + 1, x7, x8, u4, e1 => if 4 ≤ x8 then e1 x7 u4 else q_bd (f_X11_fine x1 x4 x8 u4) (fun (x9 : Int32) (u5 : qM) => q_ck (q_in ((48 * x1) + x9) 384) (q_lt (x7 + (u5.1 92 0 (Int32.toNatClampNeg ((48 * x1) + x9)))) (fun (x10 : Int32) => q_lt (x8 + 1) (fun (x11 : Int32) => L_X11_up_46 x1 x3 x4 n x10 x11 u5 e1))))
noncomputable def L_X11_up_17 (x1 : Int32) : Nat → Int32 → Int32 → qM → (Int32 → qM → Option (Int32 × qM)) → Option (Int32 × qM)
  | 0, _, _, _, _ => none
  | n + 1, x3, x4, u2, e1 => q_bd (f_X11_cells x1 u2) (fun (x5 : Int32) (u3 : qM) => if (x5 / 4) ≤ x4 then e1 x3 u3 else q_ck (q_in ((48 * x1) + x4) 384) (q_lt (u3.1 100 0 (Int32.toNatClampNeg ((48 * x1) + x4))) (fun (x6 : Int32) => L_X11_up_46 x1 x3 x4 q_fu x6 0 u3 (fun x12 u6 => q_jn (fun (x13 : Int32) (u7 : qM) => q_ck (q_in x1 8) (q_bd (f_X11_beneath x1 x4 u7) (fun (x14 : Int32) (u8 : qM) => q_lt ((48 * (u7.1 96 0 (Int32.toNatClampNeg x1))) + x14) (fun (x15 : Int32) => q_ck (q_in x15 384) (q_lt (x3 + (x13 - (u8.1 92 0 (Int32.toNatClampNeg x15)))) (fun (x16 : Int32) => q_ck (q_in x15 384) (q_lt (q_si u8 92 0 (Int32.toNatClampNeg x15) x13) (fun (u9 : qM) => q_ck (q_in ((48 * x1) + x4) 384) (q_lt (q_si u9 100 0 (Int32.toNatClampNeg ((48 * x1) + x4)) (x12 - (4 * x13))) (fun (u10 : qM) => q_ck (q_in ((48 * x1) + x4) 384) (q_lt (q_si u10 99 0 (Int32.toNatClampNeg ((48 * x1) + x4)) x13) (fun (u11 : qM) => q_lt (x4 + 1) (fun (x17 : Int32) => L_X11_up_17 x1 n x16 x17 u11 e1))))))))))))) (fun j1 => if (0 : Int32) ≤ x12 then if (x12 / 4) ≤ 100000 then j1 (x12 / 4) u6 else j1 100000 u6 else j1 0 u6)))))
noncomputable def f_X11_up (x1 : Int32) (u0 : qM) : Option (Int32 × qM) :=
  q_bd (f_X11_askedNest x1 u0) (fun (x2 : Int32) (u1 : qM) => if (0 : Int32) ≤ x2 then L_X11_up_17 x1 q_fu 0 0 u1 (fun x18 u12 => q_bd (f_X11_ask x18 1 u12) (fun (x19 : Int32) (u13 : qM) => some (x19, u13))) else some (x2, u1))
set_option maxRecDepth 100000 in
set_option maxHeartbeats 4000000 in
theorem TL_X11_up_46 (l : Launch) (G : qG) (x1 : Int32) (x3 : Int32) (x4 : Int32)  (e1 : Int32 → qM → Option (Int32 × qM)) (he1 : ∀ (y1 : Int32) (v : qM), qAW l G m_X11_up (q_mq G q_cI) 82 [(0, .ref (q_ad G 11 0)), (1, .int x1), (3, .int x3), (4, .int x4), (5, .int y1)] [] v (e1 y1 v)) : ∀ (n : Nat) (x7 : Int32) (x8 : Int32) (u4 : qM), qAW l G m_X11_up (q_mq G q_cI) 46 [(0, .ref (q_ad G 11 0)), (1, .int x1), (3, .int x3), (4, .int x4), (5, .int x7), (6, .int x8)] [] u4 (L_X11_up_46 x1 x3 x4 n x7 x8 u4 e1) := by
  intro n
  induction n with
  | zero => intros; exact aw_none
  | succ n ih =>
    intro x7 x8 u4
    unfold L_X11_up_46
    refine aw_iload (i := 6) dX11_up_46 48 rfl 5 rfl ?_
    refine aw_iconst (x := 4) dX11_up_48 49 rfl rfl ?_
    refine aw_icmp_ge dX11_up_49 52 rfl 82 rfl (fun h4 => ?_) (fun h4 => ?_)
    · exact aw_conv [0, 1, 2, 3, 4] rfl (he1 x7 u4)
    · refine aw_iload (i := 5) dX11_up_52 54 rfl 4 rfl ?_
      refine aw_aload_n (i := 0) dX11_up_54 55 rfl rfl 0 rfl ?_
      refine gf_X11_32 dX11_up_55 58 rfl wd_249 (ok_11 (by decide)) ?_
      refine aw_bipush (x := 48) dX11_up_58 60 rfl rfl ?_
      refine aw_iload_n (i := 1) dX11_up_60 61 rfl rfl 1 rfl ?_
      refine aw_imul dX11_up_61 62 rfl ?_
      refine aw_aload_n (i := 0) dX11_up_62 63 rfl rfl 0 rfl ?_
      refine aw_iload_n (i := 1) dX11_up_63 64 rfl rfl 1 rfl ?_
      refine aw_iload (i := 4) dX11_up_64 66 rfl 3 rfl ?_
      refine aw_iload (i := 6) dX11_up_66 68 rfl 5 rfl ?_
      refine aw_callV (M2 := m_X11_fine) (cv := q_cI) dX11_up_68 71 rfl (k_X11_fine l G x1 x4 x8  u4) wd_322 wv_X11_fine pk_X11_fine rfl rfl ⟨by decide, by decide⟩ ⟨Nat.zero_le _, Nat.zero_le _⟩ at_11 (ok_11 (by decide)) rfl rfl rfl (Nat.le_of_ble_eq_true rfl) (fun x9 u5 => ?_)
      show qAW l G m_X11_up (q_mq G q_cI) 71 [(0, .ref (q_ad G 11 0)), (1, .int x1), (3, .int x3), (4, .int x4), (5, .int x7), (6, .int x8)] [.int x9, .int (48 * x1), .ref (q_ad G 92 0), .int x7] u5 _
      refine aw_iadd dX11_up_71 72 rfl ?_
      refine aw_iald dX11_up_72 73 rfl at_92 (al_92 _) (ok_92 (by decide)) (fun h5 => ?_)
      refine aw_iadd dX11_up_73 74 rfl ?_
      refine aw_lti (fun x10 => ?_)
      refine aw_istore dX11_up_74 76 rfl [(5, .int x10), (0, .ref (q_ad G 11 0)), (1, .int x1), (3, .int x3), (4, .int x4), (6, .int x8)] (by decide) rfl ?_
      refine aw_iincx (i := 6) dX11_up_76 79 rfl 5 rfl 1 rfl (fun x11 => [(6, .int x11), (5, .int x10), (0, .ref (q_ad G 11 0)), (1, .int x1), (3, .int x3), (4, .int x4)]) (by decide) (fun _ => rfl) (fun x11 => ?_)
      refine aw_goto dX11_up_79 46 rfl ?_
      exact aw_conv [2, 3, 4, 5, 1, 0] rfl (ih x10 x11 u5)
set_option maxRecDepth 100000 in
set_option maxHeartbeats 4000000 in
theorem TL_X11_up_17 (l : Launch) (G : qG) (x1 : Int32)  (e1 : Int32 → qM → Option (Int32 × qM)) (he1 : ∀ (y1 : Int32) (v : qM), qAW l G m_X11_up (q_mq G q_cI) 191 [(0, .ref (q_ad G 11 0)), (3, .int y1)] [] v (e1 y1 v)) : ∀ (n : Nat) (x3 : Int32) (x4 : Int32) (u2 : qM), qAW l G m_X11_up (q_mq G q_cI) 17 [(0, .ref (q_ad G 11 0)), (1, .int x1), (3, .int x3), (4, .int x4)] [] u2 (L_X11_up_17 x1 n x3 x4 u2 e1) := by
  intro n
  induction n with
  | zero => intros; exact aw_none
  | succ n ih =>
    intro x3 x4 u2
    unfold L_X11_up_17
    refine aw_iload (i := 4) dX11_up_17 19 rfl 3 rfl ?_
    refine aw_aload_n (i := 0) dX11_up_19 20 rfl rfl 0 rfl ?_
    refine aw_iload_n (i := 1) dX11_up_20 21 rfl rfl 1 rfl ?_
    refine aw_callV (M2 := m_X11_cells) (cv := q_cI) dX11_up_21 24 rfl (k_X11_cells l G x1  u2) wd_251 wv_X11_cells pk_X11_cells rfl rfl ⟨by decide, by decide⟩ ⟨Nat.zero_le _, Nat.zero_le _⟩ at_11 (ok_11 (by decide)) rfl rfl rfl (Nat.le_of_ble_eq_true rfl) (fun x5 u3 => ?_)
    show qAW l G m_X11_up (q_mq G q_cI) 24 [(0, .ref (q_ad G 11 0)), (1, .int x1), (3, .int x3), (4, .int x4)] [.int x5, .int x4] u3 _
    refine aw_iconst (x := 4) dX11_up_24 25 rfl rfl ?_
    refine aw_idiv dX11_up_25 26 rfl (by decide) ?_
    refine aw_icmp_ge dX11_up_26 29 rfl 191 rfl (fun h2 => ?_) (fun h2 => ?_)
    · exact aw_conv [0, 2] rfl (he1 x3 u3)
    · refine aw_aload_n (i := 0) dX11_up_29 30 rfl rfl 0 rfl ?_
      refine gf_X11_40 dX11_up_30 33 rfl wd_268 (ok_11 (by decide)) ?_
      refine aw_bipush (x := 48) dX11_up_33 35 rfl rfl ?_
      refine aw_iload_n (i := 1) dX11_up_35 36 rfl rfl 1 rfl ?_
      refine aw_imul dX11_up_36 37 rfl ?_
      refine aw_iload (i := 4) dX11_up_37 39 rfl 3 rfl ?_
      refine aw_iadd dX11_up_39 40 rfl ?_
      refine aw_iald dX11_up_40 41 rfl at_100 (al_100 _) (ok_100 (by decide)) (fun h3 => ?_)
      refine aw_lti (fun x6 => ?_)
      refine aw_istore dX11_up_41 43 rfl [(5, .int x6), (0, .ref (q_ad G 11 0)), (1, .int x1), (3, .int x3), (4, .int x4)] (by decide) rfl ?_
      refine aw_iconst (x := 0) dX11_up_43 44 rfl rfl ?_
      refine aw_istore dX11_up_44 46 rfl [(6, .int 0), (5, .int x6), (0, .ref (q_ad G 11 0)), (1, .int x1), (3, .int x3), (4, .int x4)] (by decide) rfl ?_
      refine aw_conv [2, 3, 4, 5, 1, 0] rfl (TL_X11_up_46 l G x1 x3 x4  _ ?_ _ x6 0 u3)
      · intro x12 u6
        refine aw_iload (i := 5) dX11_up_82 84 rfl 4 rfl ?_
        refine aw_jn (fun k => ∀ (x13 : Int32) (u7 : qM), qAW l G m_X11_up (q_mq G q_cI) 109 [(0, .ref (q_ad G 11 0)), (1, .int x1), (3, .int x3), (4, .int x4), (5, .int x12)] [.int x13] u7 (k x13 u7)) ?_ ?_
        · intro x13 u7
          refine aw_istore dX11_up_109 111 rfl [(6, .int x13), (0, .ref (q_ad G 11 0)), (1, .int x1), (3, .int x3), (4, .int x4), (5, .int x12)] (by decide) rfl ?_
          refine aw_bipush (x := 48) dX11_up_111 113 rfl rfl ?_
          refine aw_aload_n (i := 0) dX11_up_113 114 rfl rfl 1 rfl ?_
          refine gf_X11_36 dX11_up_114 117 rfl wd_253 (ok_11 (by decide)) ?_
          refine aw_iload_n (i := 1) dX11_up_117 118 rfl rfl 2 rfl ?_
          refine aw_iald dX11_up_118 119 rfl at_96 (al_96 _) (ok_96 (by decide)) (fun h7 => ?_)
          refine aw_imul dX11_up_119 120 rfl ?_
          refine aw_aload_n (i := 0) dX11_up_120 121 rfl rfl 1 rfl ?_
          refine aw_iload_n (i := 1) dX11_up_121 122 rfl rfl 2 rfl ?_
          refine aw_iload (i := 4) dX11_up_122 124 rfl 4 rfl ?_
          refine aw_callV (M2 := m_X11_beneath) (cv := q_cI) dX11_up_124 127 rfl (k_X11_beneath l G x1 x4  u7) wd_321 wv_X11_beneath pk_X11_beneath rfl rfl ⟨by decide, by decide⟩ ⟨Nat.zero_le _, Nat.zero_le _⟩ at_11 (ok_11 (by decide)) rfl rfl rfl (Nat.le_of_ble_eq_true rfl) (fun x14 u8 => ?_)
          show qAW l G m_X11_up (q_mq G q_cI) 127 [(6, .int x13), (0, .ref (q_ad G 11 0)), (1, .int x1), (3, .int x3), (4, .int x4), (5, .int x12)] [.int x14, .int (48 * (u7.1 96 0 (Int32.toNatClampNeg x1)))] u8 _
          refine aw_iadd dX11_up_127 128 rfl ?_
          refine aw_lti (fun x15 => ?_)
          refine aw_istore dX11_up_128 130 rfl [(7, .int x15), (6, .int x13), (0, .ref (q_ad G 11 0)), (1, .int x1), (3, .int x3), (4, .int x4), (5, .int x12)] (by decide) rfl ?_
          refine aw_iload_n (i := 3) dX11_up_130 131 rfl rfl 4 rfl ?_
          refine aw_iload (i := 6) dX11_up_131 133 rfl 1 rfl ?_
          refine aw_aload_n (i := 0) dX11_up_133 134 rfl rfl 2 rfl ?_
          refine gf_X11_32 dX11_up_134 137 rfl wd_249 (ok_11 (by decide)) ?_
          refine aw_iload (i := 7) dX11_up_137 139 rfl 0 rfl ?_
          refine aw_iald dX11_up_139 140 rfl at_92 (al_92 _) (ok_92 (by decide)) (fun h8 => ?_)
          refine aw_isub dX11_up_140 141 rfl ?_
          refine aw_iadd dX11_up_141 142 rfl ?_
          refine aw_lti (fun x16 => ?_)
          refine aw_istore_n dX11_up_142 143 rfl rfl [(3, .int x16), (7, .int x15), (6, .int x13), (0, .ref (q_ad G 11 0)), (1, .int x1), (4, .int x4), (5, .int x12)] (by decide) rfl ?_
          refine aw_aload_n (i := 0) dX11_up_143 144 rfl rfl 3 rfl ?_
          refine gf_X11_32 dX11_up_144 147 rfl wd_249 (ok_11 (by decide)) ?_
          refine aw_iload (i := 7) dX11_up_147 149 rfl 1 rfl ?_
          refine aw_iload (i := 6) dX11_up_149 151 rfl 2 rfl ?_
          refine aw_iast dX11_up_151 152 rfl at_92 (al_92 _) (ok_92 (by decide)) (fun h9 => ?_)
          refine aw_ltm (fun u9 => ?_)
          refine aw_aload_n (i := 0) dX11_up_152 153 rfl rfl 3 rfl ?_
          refine gf_X11_40 dX11_up_153 156 rfl wd_268 (ok_11 (by decide)) ?_
          refine aw_bipush (x := 48) dX11_up_156 158 rfl rfl ?_
          refine aw_iload_n (i := 1) dX11_up_158 159 rfl rfl 4 rfl ?_
          refine aw_imul dX11_up_159 160 rfl ?_
          refine aw_iload (i := 4) dX11_up_160 162 rfl 5 rfl ?_
          refine aw_iadd dX11_up_162 163 rfl ?_
          refine aw_iload (i := 5) dX11_up_163 165 rfl 6 rfl ?_
          refine aw_iconst (x := 4) dX11_up_165 166 rfl rfl ?_
          refine aw_iload (i := 6) dX11_up_166 168 rfl 2 rfl ?_
          refine aw_imul dX11_up_168 169 rfl ?_
          refine aw_isub dX11_up_169 170 rfl ?_
          refine aw_iast dX11_up_170 171 rfl at_100 (al_100 _) (ok_100 (by decide)) (fun h10 => ?_)
          refine aw_ltm (fun u10 => ?_)
          refine aw_aload_n (i := 0) dX11_up_171 172 rfl rfl 3 rfl ?_
          refine gf_X11_39 dX11_up_172 175 rfl wd_267 (ok_11 (by decide)) ?_
          refine aw_bipush (x := 48) dX11_up_175 177 rfl rfl ?_
          refine aw_iload_n (i := 1) dX11_up_177 178 rfl rfl 4 rfl ?_
          refine aw_imul dX11_up_178 179 rfl ?_
          refine aw_iload (i := 4) dX11_up_179 181 rfl 5 rfl ?_
          refine aw_iadd dX11_up_181 182 rfl ?_
          refine aw_iload (i := 6) dX11_up_182 184 rfl 2 rfl ?_
          refine aw_iast dX11_up_184 185 rfl at_99 (al_99 _) (ok_99 (by decide)) (fun h11 => ?_)
          refine aw_ltm (fun u11 => ?_)
          refine aw_iincx (i := 4) dX11_up_185 188 rfl 5 rfl 1 rfl (fun x17 => [(4, .int x17), (3, .int x16), (7, .int x15), (6, .int x13), (0, .ref (q_ad G 11 0)), (1, .int x1), (5, .int x12)]) (by decide) (fun _ => rfl) (fun x17 => ?_)
          refine aw_goto dX11_up_188 17 rfl ?_
          exact aw_conv [4, 5, 1, 0] rfl (ih x16 x17 u11)
        · intro j1 hj1
          refine aw_if_ge dX11_up_84 87 rfl 91 rfl (fun h6 => ?_) (fun h6 => ?_)
          · refine aw_iload (i := 5) dX11_up_91 93 rfl 4 rfl ?_
            refine aw_iconst (x := 4) dX11_up_93 94 rfl rfl ?_
            refine aw_idiv dX11_up_94 95 rfl (by decide) ?_
            refine aw_ldc (x := 100000) dX11_up_95 97 rfl wd_232 ?_
            refine aw_icmp_le dX11_up_97 100 rfl 105 rfl (fun h12 => ?_) (fun h12 => ?_)
            · refine aw_iload (i := 5) dX11_up_105 107 rfl 4 rfl ?_
              refine aw_iconst (x := 4) dX11_up_107 108 rfl rfl ?_
              refine aw_idiv dX11_up_108 109 rfl (by decide) ?_
              exact hj1 (x12 / 4) u6
            · refine aw_ldc (x := 100000) dX11_up_100 102 rfl wd_232 ?_
              refine aw_goto dX11_up_102 109 rfl ?_
              exact hj1 100000 u6
          · refine aw_iconst (x := 0) dX11_up_87 88 rfl rfl ?_
            refine aw_goto dX11_up_88 109 rfl ?_
            exact hj1 0 u6
set_option maxRecDepth 100000 in
set_option maxHeartbeats 4000000 in
theorem k_X11_up (l : Launch) (G : qG) (x1 : Int32)  (u0 : qM) : qCt l G m_X11_up q_cI [.ref (q_ad G 11 0), .int x1] u0 (f_X11_up x1 u0) := by
  refine q_entry pk_X11_up (Nat.le_of_ble_eq_true rfl) ?_
  show qAW l G m_X11_up (q_mq G q_cI) 0 [(0, .ref (q_ad G 11 0)), (1, .int x1)] [] u0 (f_X11_up x1 u0)
  unfold f_X11_up
  refine aw_aload_n (i := 0) dX11_up_0 1 rfl rfl 0 rfl ?_
  refine aw_iload_n (i := 1) dX11_up_1 2 rfl rfl 1 rfl ?_
  refine aw_callV (M2 := m_X11_askedNest) (cv := q_cI) dX11_up_2 5 rfl (k_X11_askedNest l G x1  u0) wd_323 wv_X11_askedNest pk_X11_askedNest rfl rfl ⟨by decide, by decide⟩ ⟨Nat.zero_le _, Nat.zero_le _⟩ at_11 (ok_11 (by decide)) rfl rfl rfl (Nat.le_of_ble_eq_true rfl) (fun x2 u1 => ?_)
  show qAW l G m_X11_up (q_mq G q_cI) 5 [(0, .ref (q_ad G 11 0)), (1, .int x1)] [.int x2] u1 _
  refine aw_istore_n dX11_up_5 6 rfl rfl [(2, .int x2), (0, .ref (q_ad G 11 0)), (1, .int x1)] (by decide) rfl ?_
  refine aw_iload_n (i := 2) dX11_up_6 7 rfl rfl 0 rfl ?_
  refine aw_if_ge dX11_up_7 10 rfl 12 rfl (fun h1 => ?_) (fun h1 => ?_)
  · refine aw_iconst (x := 0) dX11_up_12 13 rfl rfl ?_
    refine aw_istore_n dX11_up_13 14 rfl rfl [(3, .int 0), (2, .int x2), (0, .ref (q_ad G 11 0)), (1, .int x1)] (by decide) rfl ?_
    refine aw_iconst (x := 0) dX11_up_14 15 rfl rfl ?_
    refine aw_istore dX11_up_15 17 rfl [(4, .int 0), (3, .int 0), (2, .int x2), (0, .ref (q_ad G 11 0)), (1, .int x1)] (by decide) rfl ?_
    refine aw_conv [3, 4, 1, 0] rfl (TL_X11_up_17 l G x1  _ ?_ _ 0 0 u1)
    · intro x18 u12
      refine aw_aload_n (i := 0) dX11_up_191 192 rfl rfl 0 rfl ?_
      refine aw_iload_n (i := 3) dX11_up_192 193 rfl rfl 1 rfl ?_
      refine aw_iconst (x := 1) dX11_up_193 194 rfl rfl ?_
      refine aw_callV (M2 := m_X11_ask) (cv := q_cI) dX11_up_194 197 rfl (k_X11_ask l G x18 1  u12) wd_236 wv_X11_ask pk_X11_ask rfl rfl ⟨by decide, by decide⟩ ⟨Nat.zero_le _, Nat.zero_le _⟩ at_11 (ok_11 (by decide)) rfl rfl rfl (Nat.le_of_ble_eq_true rfl) (fun x19 u13 => ?_)
      show qAW l G m_X11_up (q_mq G q_cI) 197 [(0, .ref (q_ad G 11 0)), (3, .int x18)] [.int x19] u13 _
      exact aw_iret dX11_up_197 rfl
  · refine aw_iload_n (i := 2) dX11_up_10 11 rfl rfl 0 rfl ?_
    exact aw_iret dX11_up_11 rfl
theorem dX11_down_0 : decode cX11_down 0 = .ok (.aload_n 0, 1) := by decide +kernel
theorem dX11_down_1 : decode cX11_down 1 = .ok (.iload_n 1, 1) := by decide +kernel
theorem dX11_down_2 : decode cX11_down 2 = .ok (.invokevirtual 343, 3) := by decide +kernel
theorem dX11_down_5 : decode cX11_down 5 = .ok (.istore_n 2, 1) := by decide +kernel
theorem dX11_down_6 : decode cX11_down 6 = .ok (.iload_n 2, 1) := by decide +kernel
theorem dX11_down_7 : decode cX11_down 7 = .ok (.ifCond .ge 5, 3) := by decide +kernel
theorem dX11_down_10 : decode cX11_down 10 = .ok (.iload_n 2, 1) := by decide +kernel
theorem dX11_down_11 : decode cX11_down 11 = .ok (.ireturn, 1) := by decide +kernel
theorem dX11_down_12 : decode cX11_down 12 = .ok (.aload_n 0, 1) := by decide +kernel
theorem dX11_down_13 : decode cX11_down 13 = .ok (.iload_n 1, 1) := by decide +kernel
theorem dX11_down_14 : decode cX11_down 14 = .ok (.iconst 4, 1) := by decide +kernel
theorem dX11_down_15 : decode cX11_down 15 = .ok (.invokevirtual 293, 3) := by decide +kernel
theorem dX11_down_18 : decode cX11_down 18 = .ok (.istore_n 3, 1) := by decide +kernel
theorem dX11_down_19 : decode cX11_down 19 = .ok (.iconst 0, 1) := by decide +kernel
theorem dX11_down_20 : decode cX11_down 20 = .ok (.istore 4, 2) := by decide +kernel
theorem dX11_down_22 : decode cX11_down 22 = .ok (.iload 4, 2) := by decide +kernel
theorem dX11_down_24 : decode cX11_down 24 = .ok (.aload_n 0, 1) := by decide +kernel
theorem dX11_down_25 : decode cX11_down 25 = .ok (.iload_n 1, 1) := by decide +kernel
theorem dX11_down_26 : decode cX11_down 26 = .ok (.invokevirtual 223, 3) := by decide +kernel
theorem dX11_down_29 : decode cX11_down 29 = .ok (.iconst 4, 1) := by decide +kernel
theorem dX11_down_30 : decode cX11_down 30 = .ok (.idiv, 1) := by decide +kernel
theorem dX11_down_31 : decode cX11_down 31 = .ok (.if_icmp .ge 348, 3) := by decide +kernel
theorem dX11_down_34 : decode cX11_down 34 = .ok (.aload_n 0, 1) := by decide +kernel
theorem dX11_down_35 : decode cX11_down 35 = .ok (.getfield 92, 3) := by decide +kernel
theorem dX11_down_38 : decode cX11_down 38 = .ok (.bipush 48, 2) := by decide +kernel
theorem dX11_down_40 : decode cX11_down 40 = .ok (.aload_n 0, 1) := by decide +kernel
theorem dX11_down_41 : decode cX11_down 41 = .ok (.getfield 105, 3) := by decide +kernel
theorem dX11_down_44 : decode cX11_down 44 = .ok (.iload_n 1, 1) := by decide +kernel
theorem dX11_down_45 : decode cX11_down 45 = .ok (.iaload, 1) := by decide +kernel
theorem dX11_down_46 : decode cX11_down 46 = .ok (.imul, 1) := by decide +kernel
theorem dX11_down_47 : decode cX11_down 47 = .ok (.aload_n 0, 1) := by decide +kernel
theorem dX11_down_48 : decode cX11_down 48 = .ok (.iload_n 1, 1) := by decide +kernel
theorem dX11_down_49 : decode cX11_down 49 = .ok (.iload 4, 2) := by decide +kernel
theorem dX11_down_51 : decode cX11_down 51 = .ok (.invokevirtual 337, 3) := by decide +kernel
theorem dX11_down_54 : decode cX11_down 54 = .ok (.iadd, 1) := by decide +kernel
theorem dX11_down_55 : decode cX11_down 55 = .ok (.iaload, 1) := by decide +kernel
theorem dX11_down_56 : decode cX11_down 56 = .ok (.istore 5, 2) := by decide +kernel
theorem dX11_down_58 : decode cX11_down 58 = .ok (.aload_n 0, 1) := by decide +kernel
theorem dX11_down_59 : decode cX11_down 59 = .ok (.getfield 117, 3) := by decide +kernel
theorem dX11_down_62 : decode cX11_down 62 = .ok (.bipush 48, 2) := by decide +kernel
theorem dX11_down_64 : decode cX11_down 64 = .ok (.iload_n 1, 1) := by decide +kernel
theorem dX11_down_65 : decode cX11_down 65 = .ok (.imul, 1) := by decide +kernel
theorem dX11_down_66 : decode cX11_down 66 = .ok (.iload 4, 2) := by decide +kernel
theorem dX11_down_68 : decode cX11_down 68 = .ok (.iadd, 1) := by decide +kernel
theorem dX11_down_69 : decode cX11_down 69 = .ok (.iaload, 1) := by decide +kernel
theorem dX11_down_70 : decode cX11_down 70 = .ok (.istore 6, 2) := by decide +kernel
theorem dX11_down_72 : decode cX11_down 72 = .ok (.iconst 0, 1) := by decide +kernel
theorem dX11_down_73 : decode cX11_down 73 = .ok (.istore 7, 2) := by decide +kernel
theorem dX11_down_75 : decode cX11_down 75 = .ok (.iload 7, 2) := by decide +kernel
theorem dX11_down_77 : decode cX11_down 77 = .ok (.iconst 4, 1) := by decide +kernel
theorem dX11_down_78 : decode cX11_down 78 = .ok (.if_icmp .ge 51, 3) := by decide +kernel
theorem dX11_down_81 : decode cX11_down 81 = .ok (.aload_n 0, 1) := by decide +kernel
theorem dX11_down_82 : decode cX11_down 82 = .ok (.getfield 156, 3) := by decide +kernel
theorem dX11_down_85 : decode cX11_down 85 = .ok (.iload 7, 2) := by decide +kernel
theorem dX11_down_87 : decode cX11_down 87 = .ok (.aload_n 0, 1) := by decide +kernel
theorem dX11_down_88 : decode cX11_down 88 = .ok (.getfield 92, 3) := by decide +kernel
theorem dX11_down_91 : decode cX11_down 91 = .ok (.bipush 48, 2) := by decide +kernel
theorem dX11_down_93 : decode cX11_down 93 = .ok (.iload_n 1, 1) := by decide +kernel
theorem dX11_down_94 : decode cX11_down 94 = .ok (.imul, 1) := by decide +kernel
theorem dX11_down_95 : decode cX11_down 95 = .ok (.aload_n 0, 1) := by decide +kernel
theorem dX11_down_96 : decode cX11_down 96 = .ok (.iload_n 1, 1) := by decide +kernel
theorem dX11_down_97 : decode cX11_down 97 = .ok (.iload 4, 2) := by decide +kernel
theorem dX11_down_99 : decode cX11_down 99 = .ok (.iload 7, 2) := by decide +kernel
theorem dX11_down_101 : decode cX11_down 101 = .ok (.invokevirtual 340, 3) := by decide +kernel
theorem dX11_down_104 : decode cX11_down 104 = .ok (.iadd, 1) := by decide +kernel
theorem dX11_down_105 : decode cX11_down 105 = .ok (.iaload, 1) := by decide +kernel
theorem dX11_down_106 : decode cX11_down 106 = .ok (.iload 5, 2) := by decide +kernel
theorem dX11_down_108 : decode cX11_down 108 = .ok (.iadd, 1) := by decide +kernel
theorem dX11_down_109 : decode cX11_down 109 = .ok (.aload_n 0, 1) := by decide +kernel
theorem dX11_down_110 : decode cX11_down 110 = .ok (.getfield 114, 3) := by decide +kernel
theorem dX11_down_113 : decode cX11_down 113 = .ok (.bipush 48, 2) := by decide +kernel
theorem dX11_down_115 : decode cX11_down 115 = .ok (.iload_n 1, 1) := by decide +kernel
theorem dX11_down_116 : decode cX11_down 116 = .ok (.imul, 1) := by decide +kernel
theorem dX11_down_117 : decode cX11_down 117 = .ok (.iload 4, 2) := by decide +kernel
theorem dX11_down_119 : decode cX11_down 119 = .ok (.iadd, 1) := by decide +kernel
theorem dX11_down_120 : decode cX11_down 120 = .ok (.iaload, 1) := by decide +kernel
theorem dX11_down_121 : decode cX11_down 121 = .ok (.isub, 1) := by decide +kernel
theorem dX11_down_122 : decode cX11_down 122 = .ok (.iastore, 1) := by decide +kernel
theorem dX11_down_123 : decode cX11_down 123 = .ok (.iinc 7 1, 3) := by decide +kernel
theorem dX11_down_126 : decode cX11_down 126 = .ok (.goto (-51), 3) := by decide +kernel
theorem dX11_down_129 : decode cX11_down 129 = .ok (.iconst 0, 1) := by decide +kernel
theorem dX11_down_130 : decode cX11_down 130 = .ok (.istore 7, 2) := by decide +kernel
theorem dX11_down_132 : decode cX11_down 132 = .ok (.iload 7, 2) := by decide +kernel
theorem dX11_down_134 : decode cX11_down 134 = .ok (.iconst 4, 1) := by decide +kernel
theorem dX11_down_135 : decode cX11_down 135 = .ok (.if_icmp .ge 131, 3) := by decide +kernel
theorem dX11_down_138 : decode cX11_down 138 = .ok (.aload_n 0, 1) := by decide +kernel
theorem dX11_down_139 : decode cX11_down 139 = .ok (.getfield 156, 3) := by decide +kernel
theorem dX11_down_142 : decode cX11_down 142 = .ok (.iload 7, 2) := by decide +kernel
theorem dX11_down_144 : decode cX11_down 144 = .ok (.iaload, 1) := by decide +kernel
theorem dX11_down_145 : decode cX11_down 145 = .ok (.ifCond .ge 14, 3) := by decide +kernel
theorem dX11_down_148 : decode cX11_down 148 = .ok (.aload_n 0, 1) := by decide +kernel
theorem dX11_down_149 : decode cX11_down 149 = .ok (.getfield 156, 3) := by decide +kernel
theorem dX11_down_152 : decode cX11_down 152 = .ok (.iload 7, 2) := by decide +kernel
theorem dX11_down_154 : decode cX11_down 154 = .ok (.iaload, 1) := by decide +kernel
theorem dX11_down_155 : decode cX11_down 155 = .ok (.ineg, 1) := by decide +kernel
theorem dX11_down_156 : decode cX11_down 156 = .ok (.goto 4, 3) := by decide +kernel
theorem dX11_down_159 : decode cX11_down 159 = .ok (.iconst 0, 1) := by decide +kernel
theorem dX11_down_160 : decode cX11_down 160 = .ok (.istore 8, 2) := by decide +kernel
theorem dX11_down_162 : decode cX11_down 162 = .ok (.aload_n 0, 1) := by decide +kernel
theorem dX11_down_163 : decode cX11_down 163 = .ok (.getfield 156, 3) := by decide +kernel
theorem dX11_down_166 : decode cX11_down 166 = .ok (.iload 7, 2) := by decide +kernel
theorem dX11_down_168 : decode cX11_down 168 = .ok (.dup2, 1) := by decide +kernel
theorem dX11_down_169 : decode cX11_down 169 = .ok (.iaload, 1) := by decide +kernel
theorem dX11_down_170 : decode cX11_down 170 = .ok (.iload 8, 2) := by decide +kernel
theorem dX11_down_172 : decode cX11_down 172 = .ok (.iadd, 1) := by decide +kernel
theorem dX11_down_173 : decode cX11_down 173 = .ok (.iastore, 1) := by decide +kernel
theorem dX11_down_174 : decode cX11_down 174 = .ok (.iconst 1, 1) := by decide +kernel
theorem dX11_down_175 : decode cX11_down 175 = .ok (.istore 9, 2) := by decide +kernel
theorem dX11_down_177 : decode cX11_down 177 = .ok (.iload 9, 2) := by decide +kernel
theorem dX11_down_179 : decode cX11_down 179 = .ok (.iconst 4, 1) := by decide +kernel
theorem dX11_down_180 : decode cX11_down 180 = .ok (.if_icmp .ge 73, 3) := by decide +kernel
theorem dX11_down_183 : decode cX11_down 183 = .ok (.aload_n 0, 1) := by decide +kernel
theorem dX11_down_184 : decode cX11_down 184 = .ok (.getfield 156, 3) := by decide +kernel
theorem dX11_down_187 : decode cX11_down 187 = .ok (.iload 7, 2) := by decide +kernel
theorem dX11_down_189 : decode cX11_down 189 = .ok (.iload 9, 2) := by decide +kernel
theorem dX11_down_191 : decode cX11_down 191 = .ok (.iadd, 1) := by decide +kernel
theorem dX11_down_192 : decode cX11_down 192 = .ok (.iconst 4, 1) := by decide +kernel
theorem dX11_down_193 : decode cX11_down 193 = .ok (.irem, 1) := by decide +kernel
theorem dX11_down_194 : decode cX11_down 194 = .ok (.iaload, 1) := by decide +kernel
theorem dX11_down_195 : decode cX11_down 195 = .ok (.istore 10, 2) := by decide +kernel
theorem dX11_down_197 : decode cX11_down 197 = .ok (.iload 10, 2) := by decide +kernel
theorem dX11_down_199 : decode cX11_down 199 = .ok (.iconst 1, 1) := by decide +kernel
theorem dX11_down_200 : decode cX11_down 200 = .ok (.if_icmp .ge 7, 3) := by decide +kernel
theorem dX11_down_203 : decode cX11_down 203 = .ok (.iconst 0, 1) := by decide +kernel
theorem dX11_down_204 : decode cX11_down 204 = .ok (.goto 17, 3) := by decide +kernel
theorem dX11_down_207 : decode cX11_down 207 = .ok (.iload 10, 2) := by decide +kernel
theorem dX11_down_209 : decode cX11_down 209 = .ok (.iload 8, 2) := by decide +kernel
theorem dX11_down_211 : decode cX11_down 211 = .ok (.if_icmp .ge 8, 3) := by decide +kernel
theorem dX11_down_214 : decode cX11_down 214 = .ok (.iload 10, 2) := by decide +kernel
theorem dX11_down_216 : decode cX11_down 216 = .ok (.goto 5, 3) := by decide +kernel
theorem dX11_down_219 : decode cX11_down 219 = .ok (.iload 8, 2) := by decide +kernel
theorem dX11_down_221 : decode cX11_down 221 = .ok (.istore 11, 2) := by decide +kernel
theorem dX11_down_223 : decode cX11_down 223 = .ok (.aload_n 0, 1) := by decide +kernel
theorem dX11_down_224 : decode cX11_down 224 = .ok (.getfield 156, 3) := by decide +kernel
theorem dX11_down_227 : decode cX11_down 227 = .ok (.iload 7, 2) := by decide +kernel
theorem dX11_down_229 : decode cX11_down 229 = .ok (.iload 9, 2) := by decide +kernel
theorem dX11_down_231 : decode cX11_down 231 = .ok (.iadd, 1) := by decide +kernel
theorem dX11_down_232 : decode cX11_down 232 = .ok (.iconst 4, 1) := by decide +kernel
theorem dX11_down_233 : decode cX11_down 233 = .ok (.irem, 1) := by decide +kernel
theorem dX11_down_234 : decode cX11_down 234 = .ok (.dup2, 1) := by decide +kernel
theorem dX11_down_235 : decode cX11_down 235 = .ok (.iaload, 1) := by decide +kernel
theorem dX11_down_236 : decode cX11_down 236 = .ok (.iload 11, 2) := by decide +kernel
theorem dX11_down_238 : decode cX11_down 238 = .ok (.isub, 1) := by decide +kernel
theorem dX11_down_239 : decode cX11_down 239 = .ok (.iastore, 1) := by decide +kernel
theorem dX11_down_240 : decode cX11_down 240 = .ok (.iload 8, 2) := by decide +kernel
theorem dX11_down_242 : decode cX11_down 242 = .ok (.iload 11, 2) := by decide +kernel
theorem dX11_down_244 : decode cX11_down 244 = .ok (.isub, 1) := by decide +kernel
theorem dX11_down_245 : decode cX11_down 245 = .ok (.istore 8, 2) := by decide +kernel
theorem dX11_down_247 : decode cX11_down 247 = .ok (.iinc 9 1, 3) := by decide +kernel
theorem dX11_down_250 : decode cX11_down 250 = .ok (.goto (-73), 3) := by decide +kernel
theorem dX11_down_253 : decode cX11_down 253 = .ok (.iload 6, 2) := by decide +kernel
theorem dX11_down_255 : decode cX11_down 255 = .ok (.iload 8, 2) := by decide +kernel
theorem dX11_down_257 : decode cX11_down 257 = .ok (.isub, 1) := by decide +kernel
theorem dX11_down_258 : decode cX11_down 258 = .ok (.istore 6, 2) := by decide +kernel
theorem dX11_down_260 : decode cX11_down 260 = .ok (.iinc 7 1, 3) := by decide +kernel
theorem dX11_down_263 : decode cX11_down 263 = .ok (.goto (-131), 3) := by decide +kernel
theorem dX11_down_266 : decode cX11_down 266 = .ok (.iconst 0, 1) := by decide +kernel
theorem dX11_down_267 : decode cX11_down 267 = .ok (.istore 7, 2) := by decide +kernel
theorem dX11_down_269 : decode cX11_down 269 = .ok (.iload 7, 2) := by decide +kernel
theorem dX11_down_271 : decode cX11_down 271 = .ok (.iconst 4, 1) := by decide +kernel
theorem dX11_down_272 : decode cX11_down 272 = .ok (.if_icmp .ge 73, 3) := by decide +kernel
theorem dX11_down_275 : decode cX11_down 275 = .ok (.aload_n 0, 1) := by decide +kernel
theorem dX11_down_276 : decode cX11_down 276 = .ok (.getfield 156, 3) := by decide +kernel
theorem dX11_down_279 : decode cX11_down 279 = .ok (.iload 7, 2) := by decide +kernel
theorem dX11_down_281 : decode cX11_down 281 = .ok (.iaload, 1) := by decide +kernel
theorem dX11_down_282 : decode cX11_down 282 = .ok (.ldc 195, 2) := by decide +kernel
theorem dX11_down_284 : decode cX11_down 284 = .ok (.if_icmp .le 16, 3) := by decide +kernel
theorem dX11_down_287 : decode cX11_down 287 = .ok (.aload_n 0, 1) := by decide +kernel
theorem dX11_down_288 : decode cX11_down 288 = .ok (.getfield 156, 3) := by decide +kernel
theorem dX11_down_291 : decode cX11_down 291 = .ok (.iload 7, 2) := by decide +kernel
theorem dX11_down_293 : decode cX11_down 293 = .ok (.iaload, 1) := by decide +kernel
theorem dX11_down_294 : decode cX11_down 294 = .ok (.ldc 195, 2) := by decide +kernel
theorem dX11_down_296 : decode cX11_down 296 = .ok (.isub, 1) := by decide +kernel
theorem dX11_down_297 : decode cX11_down 297 = .ok (.goto 4, 3) := by decide +kernel
theorem dX11_down_300 : decode cX11_down 300 = .ok (.iconst 0, 1) := by decide +kernel
theorem dX11_down_301 : decode cX11_down 301 = .ok (.istore 8, 2) := by decide +kernel
theorem dX11_down_303 : decode cX11_down 303 = .ok (.iload 6, 2) := by decide +kernel
theorem dX11_down_305 : decode cX11_down 305 = .ok (.iload 8, 2) := by decide +kernel
theorem dX11_down_307 : decode cX11_down 307 = .ok (.iadd, 1) := by decide +kernel
theorem dX11_down_308 : decode cX11_down 308 = .ok (.istore 6, 2) := by decide +kernel
theorem dX11_down_310 : decode cX11_down 310 = .ok (.aload_n 0, 1) := by decide +kernel
theorem dX11_down_311 : decode cX11_down 311 = .ok (.getfield 92, 3) := by decide +kernel
theorem dX11_down_314 : decode cX11_down 314 = .ok (.bipush 48, 2) := by decide +kernel
theorem dX11_down_316 : decode cX11_down 316 = .ok (.iload_n 1, 1) := by decide +kernel
theorem dX11_down_317 : decode cX11_down 317 = .ok (.imul, 1) := by decide +kernel
theorem dX11_down_318 : decode cX11_down 318 = .ok (.aload_n 0, 1) := by decide +kernel
theorem dX11_down_319 : decode cX11_down 319 = .ok (.iload_n 1, 1) := by decide +kernel
theorem dX11_down_320 : decode cX11_down 320 = .ok (.iload 4, 2) := by decide +kernel
theorem dX11_down_322 : decode cX11_down 322 = .ok (.iload 7, 2) := by decide +kernel
theorem dX11_down_324 : decode cX11_down 324 = .ok (.invokevirtual 340, 3) := by decide +kernel
theorem dX11_down_327 : decode cX11_down 327 = .ok (.iadd, 1) := by decide +kernel
theorem dX11_down_328 : decode cX11_down 328 = .ok (.aload_n 0, 1) := by decide +kernel
theorem dX11_down_329 : decode cX11_down 329 = .ok (.getfield 156, 3) := by decide +kernel
theorem dX11_down_332 : decode cX11_down 332 = .ok (.iload 7, 2) := by decide +kernel
theorem dX11_down_334 : decode cX11_down 334 = .ok (.iaload, 1) := by decide +kernel
theorem dX11_down_335 : decode cX11_down 335 = .ok (.iload 8, 2) := by decide +kernel
theorem dX11_down_337 : decode cX11_down 337 = .ok (.isub, 1) := by decide +kernel
theorem dX11_down_338 : decode cX11_down 338 = .ok (.iastore, 1) := by decide +kernel
theorem dX11_down_339 : decode cX11_down 339 = .ok (.iinc 7 1, 3) := by decide +kernel
theorem dX11_down_342 : decode cX11_down 342 = .ok (.goto (-73), 3) := by decide +kernel
theorem dX11_down_345 : decode cX11_down 345 = .ok (.aload_n 0, 1) := by decide +kernel
theorem dX11_down_346 : decode cX11_down 346 = .ok (.getfield 117, 3) := by decide +kernel
theorem dX11_down_349 : decode cX11_down 349 = .ok (.bipush 48, 2) := by decide +kernel
theorem dX11_down_351 : decode cX11_down 351 = .ok (.iload_n 1, 1) := by decide +kernel
theorem dX11_down_352 : decode cX11_down 352 = .ok (.imul, 1) := by decide +kernel
theorem dX11_down_353 : decode cX11_down 353 = .ok (.iload 4, 2) := by decide +kernel
theorem dX11_down_355 : decode cX11_down 355 = .ok (.iadd, 1) := by decide +kernel
theorem dX11_down_356 : decode cX11_down 356 = .ok (.iload 6, 2) := by decide +kernel
theorem dX11_down_358 : decode cX11_down 358 = .ok (.iastore, 1) := by decide +kernel
theorem dX11_down_359 : decode cX11_down 359 = .ok (.aload_n 0, 1) := by decide +kernel
theorem dX11_down_360 : decode cX11_down 360 = .ok (.getfield 114, 3) := by decide +kernel
theorem dX11_down_363 : decode cX11_down 363 = .ok (.bipush 48, 2) := by decide +kernel
theorem dX11_down_365 : decode cX11_down 365 = .ok (.iload_n 1, 1) := by decide +kernel
theorem dX11_down_366 : decode cX11_down 366 = .ok (.imul, 1) := by decide +kernel
theorem dX11_down_367 : decode cX11_down 367 = .ok (.iload 4, 2) := by decide +kernel
theorem dX11_down_369 : decode cX11_down 369 = .ok (.iadd, 1) := by decide +kernel
theorem dX11_down_370 : decode cX11_down 370 = .ok (.iload 5, 2) := by decide +kernel
theorem dX11_down_372 : decode cX11_down 372 = .ok (.iastore, 1) := by decide +kernel
theorem dX11_down_373 : decode cX11_down 373 = .ok (.iinc 4 1, 3) := by decide +kernel
theorem dX11_down_376 : decode cX11_down 376 = .ok (.goto (-354), 3) := by decide +kernel
theorem dX11_down_379 : decode cX11_down 379 = .ok (.aload_n 0, 1) := by decide +kernel
theorem dX11_down_380 : decode cX11_down 380 = .ok (.aload_n 0, 1) := by decide +kernel
theorem dX11_down_381 : decode cX11_down 381 = .ok (.iload_n 1, 1) := by decide +kernel
theorem dX11_down_382 : decode cX11_down 382 = .ok (.iconst 4, 1) := by decide +kernel
theorem dX11_down_383 : decode cX11_down 383 = .ok (.invokevirtual 293, 3) := by decide +kernel
theorem dX11_down_386 : decode cX11_down 386 = .ok (.iload_n 3, 1) := by decide +kernel
theorem dX11_down_387 : decode cX11_down 387 = .ok (.isub, 1) := by decide +kernel
theorem dX11_down_388 : decode cX11_down 388 = .ok (.iconst 1, 1) := by decide +kernel
theorem dX11_down_389 : decode cX11_down 389 = .ok (.invokevirtual 202, 3) := by decide +kernel
theorem dX11_down_392 : decode cX11_down 392 = .ok (.ireturn, 1) := by decide +kernel
noncomputable def L_X11_down_75 (x1 : Int32) (x3 : Int32) (x4 : Int32) (x7 : Int32) (x8 : Int32) : Nat → Int32 → qM → (qM → Option (Int32 × qM)) → Option (Int32 × qM)
  | 0, _, _, _ => none
  | n + 1, x9, u6, e1 => if 4 ≤ x9 then e1 u6 else q_bd (f_X11_fine x1 x4 x9 u6) (fun (x10 : Int32) (u7 : qM) => q_ck (q_in ((48 * x1) + x10) 384) (q_ck (q_in ((48 * x1) + x4) 384) (q_ck (q_in x9 4) (q_lt (q_si u7 118 0 (Int32.toNatClampNeg x9) (((u7.1 92 0 (Int32.toNatClampNeg ((48 * x1) + x10))) + x7) - (u7.1 99 0 (Int32.toNatClampNeg ((48 * x1) + x4))))) (fun (u8 : qM) => q_lt (x9 + 1) (fun (x11 : Int32) => L_X11_down_75 x1 x3 x4 x7 x8 n x11 u8 e1))))))
noncomputable def L_X11_down_177 (x1 : Int32) (x3 : Int32) (x4 : Int32) (x7 : Int32) (x12 : Int32) (x13 : Int32) : Nat → Int32 → Int32 → qM → (Int32 → qM → Option (Int32 × qM)) → Option (Int32 × qM)
  | 0, _, _, _, _ => none
  | n + 1, x15, x16, u13, e1 => if 4 ≤ x16 then e1 x15 u13 else q_ck (q_in ((x13 + x16) - (x13 + x16) / 4 * 4) 4) (q_lt (u13.1 118 0 (Int32.toNatClampNeg ((x13 + x16) - (x13 + x16) / 4 * 4))) (fun (x17 : Int32) => q_jn (fun (x18 : Int32) (u14 : qM) => q_lt ((x13 + x16) - (x13 + x16) / 4 * 4) (fun (x19 : Int32) => q_ck (q_in x19 4) (q_ck (q_in x19 4) (q_lt (q_si u14 118 0 (Int32.toNatClampNeg x19) ((u14.1 118 0 (Int32.toNatClampNeg x19)) - x18)) (fun (u15 : qM) => q_lt (x15 - x18) (fun (x20 : Int32) => q_lt (x16 + 1) (fun (x21 : Int32) => L_X11_down_177 x1 x3 x4 x7 x12 x13 n x20 x21 u15 e1))))))) (fun j2 => if 1 ≤ x17 then if x15 ≤ x17 then j2 x15 u13 else j2 x17 u13 else j2 0 u13)))
noncomputable def L_X11_down_132 (x1 : Int32) (x3 : Int32) (x4 : Int32) (x7 : Int32) : Nat → Int32 → Int32 → qM → (Int32 → qM → Option (Int32 × qM)) → Option (Int32 × qM)
  | 0, _, _, _, _ => none
  | n + 1, x12, x13, u10, e1 => if 4 ≤ x13 then e1 x12 u10 else q_ck (q_in x13 4) (q_jn (fun (x14 : Int32) (u11 : qM) => q_ck (q_in x13 4) (q_ck (q_in x13 4) (q_lt (q_si u11 118 0 (Int32.toNatClampNeg x13) ((u11.1 118 0 (Int32.toNatClampNeg x13)) + x14)) (fun (u12 : qM) => L_X11_down_177 x1 x3 x4 x7 x12 x13 q_fu x14 1 u12 (fun x22 u16 => q_lt (x12 - x22) (fun (x23 : Int32) => q_lt (x13 + 1) (fun (x24 : Int32) => L_X11_down_132 x1 x3 x4 x7 n x23 x24 u16 e1))))))) (fun j1 => if (0 : Int32) ≤ (u10.1 118 0 (Int32.toNatClampNeg x13)) then j1 0 u10 else q_ck (q_in x13 4) (j1 (-(u10.1 118 0 (Int32.toNatClampNeg x13))) u10)))
noncomputable def L_X11_down_269 (x1 : Int32) (x3 : Int32) (x4 : Int32) (x7 : Int32) : Nat → Int32 → Int32 → qM → (Int32 → qM → Option (Int32 × qM)) → Option (Int32 × qM)
  | 0, _, _, _, _ => none
  | n + 1, x26, x27, u18, e1 => if 4 ≤ x27 then e1 x26 u18 else q_ck (q_in x27 4) (q_jn (fun (x28 : Int32) (u19 : qM) => q_lt (x26 + x28) (fun (x29 : Int32) => q_bd (f_X11_fine x1 x4 x27 u19) (fun (x30 : Int32) (u20 : qM) => q_ck (q_in x27 4) (q_ck (q_in ((48 * x1) + x30) 384) (q_lt (q_si u20 92 0 (Int32.toNatClampNeg ((48 * x1) + x30)) ((u20.1 118 0 (Int32.toNatClampNeg x27)) - x28)) (fun (u21 : qM) => q_lt (x27 + 1) (fun (x31 : Int32) => L_X11_down_269 x1 x3 x4 x7 n x29 x31 u21 e1))))))) (fun j3 => if (u18.1 118 0 (Int32.toNatClampNeg x27)) ≤ 100000 then j3 0 u18 else q_ck (q_in x27 4) (j3 ((u18.1 118 0 (Int32.toNatClampNeg x27)) - 100000) u18)))
noncomputable def L_X11_down_22 (x1 : Int32) (x3 : Int32) : Nat → Int32 → qM → (qM → Option (Int32 × qM)) → Option (Int32 × qM)
  | 0, _, _, _ => none
  | n + 1, x4, u3, e1 => q_bd (f_X11_cells x1 u3) (fun (x5 : Int32) (u4 : qM) => if (x5 / 4) ≤ x4 then e1 u4 else q_ck (q_in x1 8) (q_bd (f_X11_beneath x1 x4 u4) (fun (x6 : Int32) (u5 : qM) => q_ck (q_in ((48 * (u4.1 96 0 (Int32.toNatClampNeg x1))) + x6) 384) (q_lt (u5.1 92 0 (Int32.toNatClampNeg ((48 * (u4.1 96 0 (Int32.toNatClampNeg x1))) + x6))) (fun (x7 : Int32) => q_ck (q_in ((48 * x1) + x4) 384) (q_lt (u5.1 100 0 (Int32.toNatClampNeg ((48 * x1) + x4))) (fun (x8 : Int32) => L_X11_down_75 x1 x3 x4 x7 x8 q_fu 0 u5 (fun u9 => L_X11_down_132 x1 x3 x4 x7 q_fu x8 0 u9 (fun x25 u17 => L_X11_down_269 x1 x3 x4 x7 q_fu x25 0 u17 (fun x32 u22 => q_ck (q_in ((48 * x1) + x4) 384) (q_lt (q_si u22 100 0 (Int32.toNatClampNeg ((48 * x1) + x4)) x32) (fun (u23 : qM) => q_ck (q_in ((48 * x1) + x4) 384) (q_lt (q_si u23 99 0 (Int32.toNatClampNeg ((48 * x1) + x4)) x7) (fun (u24 : qM) => q_lt (x4 + 1) (fun (x33 : Int32) => L_X11_down_22 x1 x3 n x33 u24 e1)))))))))))))))
noncomputable def f_X11_down (x1 : Int32) (u0 : qM) : Option (Int32 × qM) :=
  q_bd (f_X11_askedNest x1 u0) (fun (x2 : Int32) (u1 : qM) => if (0 : Int32) ≤ x2 then q_bd (f_X11_tells x1 4 u1) (fun (x3 : Int32) (u2 : qM) => L_X11_down_22 x1 x3 q_fu 0 u2 (fun u25 => q_bd (f_X11_tells x1 4 u25) (fun (x34 : Int32) (u26 : qM) => q_bd (f_X11_ask (x34 - x3) 1 u26) (fun (x35 : Int32) (u27 : qM) => some (x35, u27))))) else some (x2, u1))
set_option maxRecDepth 100000 in
set_option maxHeartbeats 4000000 in
theorem TL_X11_down_75 (l : Launch) (G : qG) (x1 : Int32) (x3 : Int32) (x4 : Int32) (x7 : Int32) (x8 : Int32)  (e1 : qM → Option (Int32 × qM)) (he1 : ∀  (v : qM), qAW l G m_X11_down (q_mq G q_cI) 129 [(0, .ref (q_ad G 11 0)), (1, .int x1), (3, .int x3), (4, .int x4), (5, .int x7), (6, .int x8)] [] v (e1 v)) : ∀ (n : Nat) (x9 : Int32) (u6 : qM), qAW l G m_X11_down (q_mq G q_cI) 75 [(0, .ref (q_ad G 11 0)), (1, .int x1), (3, .int x3), (4, .int x4), (5, .int x7), (6, .int x8), (7, .int x9)] [] u6 (L_X11_down_75 x1 x3 x4 x7 x8 n x9 u6 e1) := by
  intro n
  induction n with
  | zero => intros; exact aw_none
  | succ n ih =>
    intro x9 u6
    unfold L_X11_down_75
    refine aw_iload (i := 7) dX11_down_75 77 rfl 6 rfl ?_
    refine aw_iconst (x := 4) dX11_down_77 78 rfl rfl ?_
    refine aw_icmp_ge dX11_down_78 81 rfl 129 rfl (fun h6 => ?_) (fun h6 => ?_)
    · exact aw_conv [0, 1, 2, 3, 4, 5] rfl (he1 u6)
    · refine aw_aload_n (i := 0) dX11_down_81 82 rfl rfl 0 rfl ?_
      refine gf_X11_58 dX11_down_82 85 rfl wd_324 (ok_11 (by decide)) ?_
      refine aw_iload (i := 7) dX11_down_85 87 rfl 6 rfl ?_
      refine aw_aload_n (i := 0) dX11_down_87 88 rfl rfl 0 rfl ?_
      refine gf_X11_32 dX11_down_88 91 rfl wd_249 (ok_11 (by decide)) ?_
      refine aw_bipush (x := 48) dX11_down_91 93 rfl rfl ?_
      refine aw_iload_n (i := 1) dX11_down_93 94 rfl rfl 1 rfl ?_
      refine aw_imul dX11_down_94 95 rfl ?_
      refine aw_aload_n (i := 0) dX11_down_95 96 rfl rfl 0 rfl ?_
      refine aw_iload_n (i := 1) dX11_down_96 97 rfl rfl 1 rfl ?_
      refine aw_iload (i := 4) dX11_down_97 99 rfl 3 rfl ?_
      refine aw_iload (i := 7) dX11_down_99 101 rfl 6 rfl ?_
      refine aw_callV (M2 := m_X11_fine) (cv := q_cI) dX11_down_101 104 rfl (k_X11_fine l G x1 x4 x9  u6) wd_322 wv_X11_fine pk_X11_fine rfl rfl ⟨by decide, by decide⟩ ⟨Nat.zero_le _, Nat.zero_le _⟩ at_11 (ok_11 (by decide)) rfl rfl rfl (Nat.le_of_ble_eq_true rfl) (fun x10 u7 => ?_)
      show qAW l G m_X11_down (q_mq G q_cI) 104 [(0, .ref (q_ad G 11 0)), (1, .int x1), (3, .int x3), (4, .int x4), (5, .int x7), (6, .int x8), (7, .int x9)] [.int x10, .int (48 * x1), .ref (q_ad G 92 0), .int x9, .ref (q_ad G 118 0)] u7 _
      refine aw_iadd dX11_down_104 105 rfl ?_
      refine aw_iald dX11_down_105 106 rfl at_92 (al_92 _) (ok_92 (by decide)) (fun h7 => ?_)
      refine aw_iload (i := 5) dX11_down_106 108 rfl 4 rfl ?_
      refine aw_iadd dX11_down_108 109 rfl ?_
      refine aw_aload_n (i := 0) dX11_down_109 110 rfl rfl 0 rfl ?_
      refine gf_X11_39 dX11_down_110 113 rfl wd_267 (ok_11 (by decide)) ?_
      refine aw_bipush (x := 48) dX11_down_113 115 rfl rfl ?_
      refine aw_iload_n (i := 1) dX11_down_115 116 rfl rfl 1 rfl ?_
      refine aw_imul dX11_down_116 117 rfl ?_
      refine aw_iload (i := 4) dX11_down_117 119 rfl 3 rfl ?_
      refine aw_iadd dX11_down_119 120 rfl ?_
      refine aw_iald dX11_down_120 121 rfl at_99 (al_99 _) (ok_99 (by decide)) (fun h8 => ?_)
      refine aw_isub dX11_down_121 122 rfl ?_
      refine aw_iast dX11_down_122 123 rfl at_118 (al_118 _) (ok_118 (by decide)) (fun h9 => ?_)
      refine aw_ltm (fun u8 => ?_)
      refine aw_iincx (i := 7) dX11_down_123 126 rfl 6 rfl 1 rfl (fun x11 => [(7, .int x11), (0, .ref (q_ad G 11 0)), (1, .int x1), (3, .int x3), (4, .int x4), (5, .int x7), (6, .int x8)]) (by decide) (fun _ => rfl) (fun x11 => ?_)
      refine aw_goto dX11_down_126 75 rfl ?_
      exact aw_conv [1, 2, 3, 4, 5, 6, 0] rfl (ih x11 u8)
set_option maxRecDepth 100000 in
set_option maxHeartbeats 4000000 in
theorem TL_X11_down_177 (l : Launch) (G : qG) (x1 : Int32) (x3 : Int32) (x4 : Int32) (x7 : Int32) (x12 : Int32) (x13 : Int32)  (e1 : Int32 → qM → Option (Int32 × qM)) (he1 : ∀ (y1 : Int32) (v : qM), qAW l G m_X11_down (q_mq G q_cI) 253 [(0, .ref (q_ad G 11 0)), (1, .int x1), (3, .int x3), (4, .int x4), (5, .int x7), (6, .int x12), (7, .int x13), (8, .int y1)] [] v (e1 y1 v)) : ∀ (n : Nat) (x15 : Int32) (x16 : Int32) (u13 : qM), qAW l G m_X11_down (q_mq G q_cI) 177 [(0, .ref (q_ad G 11 0)), (1, .int x1), (3, .int x3), (4, .int x4), (5, .int x7), (6, .int x12), (7, .int x13), (8, .int x15), (9, .int x16)] [] u13 (L_X11_down_177 x1 x3 x4 x7 x12 x13 n x15 x16 u13 e1) := by
  intro n
  induction n with
  | zero => intros; exact aw_none
  | succ n ih =>
    intro x15 x16 u13
    unfold L_X11_down_177
    refine aw_iload (i := 9) dX11_down_177 179 rfl 8 rfl ?_
    refine aw_iconst (x := 4) dX11_down_179 180 rfl rfl ?_
    refine aw_icmp_ge dX11_down_180 183 rfl 253 rfl (fun h15 => ?_) (fun h15 => ?_)
    · exact aw_conv [0, 1, 2, 3, 4, 5, 6, 7] rfl (he1 x15 u13)
    · refine aw_aload_n (i := 0) dX11_down_183 184 rfl rfl 0 rfl ?_
      refine gf_X11_58 dX11_down_184 187 rfl wd_324 (ok_11 (by decide)) ?_
      refine aw_iload (i := 7) dX11_down_187 189 rfl 6 rfl ?_
      refine aw_iload (i := 9) dX11_down_189 191 rfl 8 rfl ?_
      refine aw_iadd dX11_down_191 192 rfl ?_
      refine aw_iconst (x := 4) dX11_down_192 193 rfl rfl ?_
      refine aw_irem dX11_down_193 194 rfl (by decide) ?_
      refine aw_iald dX11_down_194 195 rfl at_118 (al_118 _) (ok_118 (by decide)) (fun h16 => ?_)
      refine aw_lti (fun x17 => ?_)
      refine aw_istore dX11_down_195 197 rfl [(10, .int x17), (0, .ref (q_ad G 11 0)), (1, .int x1), (3, .int x3), (4, .int x4), (5, .int x7), (6, .int x12), (7, .int x13), (8, .int x15), (9, .int x16)] (by decide) rfl ?_
      refine aw_iload (i := 10) dX11_down_197 199 rfl 0 rfl ?_
      refine aw_iconst (x := 1) dX11_down_199 200 rfl rfl ?_
      refine aw_jn (fun k => ∀ (x18 : Int32) (u14 : qM), qAW l G m_X11_down (q_mq G q_cI) 221 [(0, .ref (q_ad G 11 0)), (1, .int x1), (3, .int x3), (4, .int x4), (5, .int x7), (6, .int x12), (7, .int x13), (8, .int x15), (9, .int x16)] [.int x18] u14 (k x18 u14)) ?_ ?_
      · intro x18 u14
        refine aw_istore dX11_down_221 223 rfl [(11, .int x18), (0, .ref (q_ad G 11 0)), (1, .int x1), (3, .int x3), (4, .int x4), (5, .int x7), (6, .int x12), (7, .int x13), (8, .int x15), (9, .int x16)] (by decide) rfl ?_
        refine aw_aload_n (i := 0) dX11_down_223 224 rfl rfl 1 rfl ?_
        refine gf_X11_58 dX11_down_224 227 rfl wd_324 (ok_11 (by decide)) ?_
        refine aw_iload (i := 7) dX11_down_227 229 rfl 7 rfl ?_
        refine aw_iload (i := 9) dX11_down_229 231 rfl 9 rfl ?_
        refine aw_iadd dX11_down_231 232 rfl ?_
        refine aw_iconst (x := 4) dX11_down_232 233 rfl rfl ?_
        refine aw_irem dX11_down_233 234 rfl (by decide) ?_
        refine aw_lti (fun x19 => ?_)
        refine aw_dup2 dX11_down_234 235 rfl rfl rfl ?_
        refine aw_iald dX11_down_235 236 rfl at_118 (al_118 _) (ok_118 (by decide)) (fun h18 => ?_)
        refine aw_iload (i := 11) dX11_down_236 238 rfl 0 rfl ?_
        refine aw_isub dX11_down_238 239 rfl ?_
        refine aw_iast dX11_down_239 240 rfl at_118 (al_118 _) (ok_118 (by decide)) (fun h19 => ?_)
        refine aw_ltm (fun u15 => ?_)
        refine aw_iload (i := 8) dX11_down_240 242 rfl 8 rfl ?_
        refine aw_iload (i := 11) dX11_down_242 244 rfl 0 rfl ?_
        refine aw_isub dX11_down_244 245 rfl ?_
        refine aw_lti (fun x20 => ?_)
        refine aw_istore dX11_down_245 247 rfl [(8, .int x20), (11, .int x18), (0, .ref (q_ad G 11 0)), (1, .int x1), (3, .int x3), (4, .int x4), (5, .int x7), (6, .int x12), (7, .int x13), (9, .int x16)] (by decide) rfl ?_
        refine aw_iincx (i := 9) dX11_down_247 250 rfl 9 rfl 1 rfl (fun x21 => [(9, .int x21), (8, .int x20), (11, .int x18), (0, .ref (q_ad G 11 0)), (1, .int x1), (3, .int x3), (4, .int x4), (5, .int x7), (6, .int x12), (7, .int x13)]) (by decide) (fun _ => rfl) (fun x21 => ?_)
        refine aw_goto dX11_down_250 177 rfl ?_
        exact aw_conv [3, 4, 5, 6, 7, 8, 9, 1, 0] rfl (ih x20 x21 u15)
      · intro j2 hj2
        refine aw_icmp_ge dX11_down_200 203 rfl 207 rfl (fun h17 => ?_) (fun h17 => ?_)
        · refine aw_iload (i := 10) dX11_down_207 209 rfl 0 rfl ?_
          refine aw_iload (i := 8) dX11_down_209 211 rfl 8 rfl ?_
          refine aw_icmp_ge dX11_down_211 214 rfl 219 rfl (fun h20 => ?_) (fun h20 => ?_)
          · refine aw_iload (i := 8) dX11_down_219 221 rfl 8 rfl ?_
            exact aw_conv [1, 2, 3, 4, 5, 6, 7, 8, 9] rfl (hj2 x15 u13)
          · refine aw_iload (i := 10) dX11_down_214 216 rfl 0 rfl ?_
            refine aw_goto dX11_down_216 221 rfl ?_
            exact aw_conv [1, 2, 3, 4, 5, 6, 7, 8, 9] rfl (hj2 x17 u13)
        · refine aw_iconst (x := 0) dX11_down_203 204 rfl rfl ?_
          refine aw_goto dX11_down_204 221 rfl ?_
          exact aw_conv [1, 2, 3, 4, 5, 6, 7, 8, 9] rfl (hj2 0 u13)
set_option maxRecDepth 100000 in
set_option maxHeartbeats 4000000 in
theorem TL_X11_down_132 (l : Launch) (G : qG) (x1 : Int32) (x3 : Int32) (x4 : Int32) (x7 : Int32)  (e1 : Int32 → qM → Option (Int32 × qM)) (he1 : ∀ (y1 : Int32) (v : qM), qAW l G m_X11_down (q_mq G q_cI) 266 [(0, .ref (q_ad G 11 0)), (1, .int x1), (3, .int x3), (4, .int x4), (5, .int x7), (6, .int y1)] [] v (e1 y1 v)) : ∀ (n : Nat) (x12 : Int32) (x13 : Int32) (u10 : qM), qAW l G m_X11_down (q_mq G q_cI) 132 [(0, .ref (q_ad G 11 0)), (1, .int x1), (3, .int x3), (4, .int x4), (5, .int x7), (6, .int x12), (7, .int x13)] [] u10 (L_X11_down_132 x1 x3 x4 x7 n x12 x13 u10 e1) := by
  intro n
  induction n with
  | zero => intros; exact aw_none
  | succ n ih =>
    intro x12 x13 u10
    unfold L_X11_down_132
    refine aw_iload (i := 7) dX11_down_132 134 rfl 6 rfl ?_
    refine aw_iconst (x := 4) dX11_down_134 135 rfl rfl ?_
    refine aw_icmp_ge dX11_down_135 138 rfl 266 rfl (fun h10 => ?_) (fun h10 => ?_)
    · exact aw_conv [0, 1, 2, 3, 4, 5] rfl (he1 x12 u10)
    · refine aw_aload_n (i := 0) dX11_down_138 139 rfl rfl 0 rfl ?_
      refine gf_X11_58 dX11_down_139 142 rfl wd_324 (ok_11 (by decide)) ?_
      refine aw_iload (i := 7) dX11_down_142 144 rfl 6 rfl ?_
      refine aw_iald dX11_down_144 145 rfl at_118 (al_118 _) (ok_118 (by decide)) (fun h11 => ?_)
      refine aw_jn (fun k => ∀ (x14 : Int32) (u11 : qM), qAW l G m_X11_down (q_mq G q_cI) 160 [(0, .ref (q_ad G 11 0)), (1, .int x1), (3, .int x3), (4, .int x4), (5, .int x7), (6, .int x12), (7, .int x13)] [.int x14] u11 (k x14 u11)) ?_ ?_
      · intro x14 u11
        refine aw_istore dX11_down_160 162 rfl [(8, .int x14), (0, .ref (q_ad G 11 0)), (1, .int x1), (3, .int x3), (4, .int x4), (5, .int x7), (6, .int x12), (7, .int x13)] (by decide) rfl ?_
        refine aw_aload_n (i := 0) dX11_down_162 163 rfl rfl 1 rfl ?_
        refine gf_X11_58 dX11_down_163 166 rfl wd_324 (ok_11 (by decide)) ?_
        refine aw_iload (i := 7) dX11_down_166 168 rfl 7 rfl ?_
        refine aw_dup2 dX11_down_168 169 rfl rfl rfl ?_
        refine aw_iald dX11_down_169 170 rfl at_118 (al_118 _) (ok_118 (by decide)) (fun h13 => ?_)
        refine aw_iload (i := 8) dX11_down_170 172 rfl 0 rfl ?_
        refine aw_iadd dX11_down_172 173 rfl ?_
        refine aw_iast dX11_down_173 174 rfl at_118 (al_118 _) (ok_118 (by decide)) (fun h14 => ?_)
        refine aw_ltm (fun u12 => ?_)
        refine aw_iconst (x := 1) dX11_down_174 175 rfl rfl ?_
        refine aw_istore dX11_down_175 177 rfl [(9, .int 1), (8, .int x14), (0, .ref (q_ad G 11 0)), (1, .int x1), (3, .int x3), (4, .int x4), (5, .int x7), (6, .int x12), (7, .int x13)] (by decide) rfl ?_
        refine aw_conv [2, 3, 4, 5, 6, 7, 8, 1, 0] rfl (TL_X11_down_177 l G x1 x3 x4 x7 x12 x13  _ ?_ _ x14 1 u12)
        · intro x22 u16
          refine aw_iload (i := 6) dX11_down_253 255 rfl 5 rfl ?_
          refine aw_iload (i := 8) dX11_down_255 257 rfl 7 rfl ?_
          refine aw_isub dX11_down_257 258 rfl ?_
          refine aw_lti (fun x23 => ?_)
          refine aw_istore dX11_down_258 260 rfl [(6, .int x23), (0, .ref (q_ad G 11 0)), (1, .int x1), (3, .int x3), (4, .int x4), (5, .int x7), (7, .int x13), (8, .int x22)] (by decide) rfl ?_
          refine aw_iincx (i := 7) dX11_down_260 263 rfl 6 rfl 1 rfl (fun x24 => [(7, .int x24), (6, .int x23), (0, .ref (q_ad G 11 0)), (1, .int x1), (3, .int x3), (4, .int x4), (5, .int x7), (8, .int x22)]) (by decide) (fun _ => rfl) (fun x24 => ?_)
          refine aw_goto dX11_down_263 132 rfl ?_
          exact aw_conv [2, 3, 4, 5, 6, 1, 0] rfl (ih x23 x24 u16)
      · intro j1 hj1
        refine aw_if_ge dX11_down_145 148 rfl 159 rfl (fun h12 => ?_) (fun h12 => ?_)
        · refine aw_iconst (x := 0) dX11_down_159 160 rfl rfl ?_
          exact hj1 0 u10
        · refine aw_aload_n (i := 0) dX11_down_148 149 rfl rfl 0 rfl ?_
          refine gf_X11_58 dX11_down_149 152 rfl wd_324 (ok_11 (by decide)) ?_
          refine aw_iload (i := 7) dX11_down_152 154 rfl 6 rfl ?_
          refine aw_iald dX11_down_154 155 rfl at_118 (al_118 _) (ok_118 (by decide)) (fun h21 => ?_)
          refine aw_ineg dX11_down_155 156 rfl ?_
          refine aw_goto dX11_down_156 160 rfl ?_
          exact hj1 (-(u10.1 118 0 (Int32.toNatClampNeg x13))) u10
set_option maxRecDepth 100000 in
set_option maxHeartbeats 4000000 in
theorem TL_X11_down_269 (l : Launch) (G : qG) (x1 : Int32) (x3 : Int32) (x4 : Int32) (x7 : Int32)  (e1 : Int32 → qM → Option (Int32 × qM)) (he1 : ∀ (y1 : Int32) (v : qM), qAW l G m_X11_down (q_mq G q_cI) 345 [(0, .ref (q_ad G 11 0)), (1, .int x1), (3, .int x3), (4, .int x4), (5, .int x7), (6, .int y1)] [] v (e1 y1 v)) : ∀ (n : Nat) (x26 : Int32) (x27 : Int32) (u18 : qM), qAW l G m_X11_down (q_mq G q_cI) 269 [(0, .ref (q_ad G 11 0)), (1, .int x1), (3, .int x3), (4, .int x4), (5, .int x7), (6, .int x26), (7, .int x27)] [] u18 (L_X11_down_269 x1 x3 x4 x7 n x26 x27 u18 e1) := by
  intro n
  induction n with
  | zero => intros; exact aw_none
  | succ n ih =>
    intro x26 x27 u18
    unfold L_X11_down_269
    refine aw_iload (i := 7) dX11_down_269 271 rfl 6 rfl ?_
    refine aw_iconst (x := 4) dX11_down_271 272 rfl rfl ?_
    refine aw_icmp_ge dX11_down_272 275 rfl 345 rfl (fun h22 => ?_) (fun h22 => ?_)
    · exact aw_conv [0, 1, 2, 3, 4, 5] rfl (he1 x26 u18)
    · refine aw_aload_n (i := 0) dX11_down_275 276 rfl rfl 0 rfl ?_
      refine gf_X11_58 dX11_down_276 279 rfl wd_324 (ok_11 (by decide)) ?_
      refine aw_iload (i := 7) dX11_down_279 281 rfl 6 rfl ?_
      refine aw_iald dX11_down_281 282 rfl at_118 (al_118 _) (ok_118 (by decide)) (fun h23 => ?_)
      refine aw_ldc (x := 100000) dX11_down_282 284 rfl wd_232 ?_
      refine aw_jn (fun k => ∀ (x28 : Int32) (u19 : qM), qAW l G m_X11_down (q_mq G q_cI) 301 [(0, .ref (q_ad G 11 0)), (1, .int x1), (3, .int x3), (4, .int x4), (5, .int x7), (6, .int x26), (7, .int x27)] [.int x28] u19 (k x28 u19)) ?_ ?_
      · intro x28 u19
        refine aw_istore dX11_down_301 303 rfl [(8, .int x28), (0, .ref (q_ad G 11 0)), (1, .int x1), (3, .int x3), (4, .int x4), (5, .int x7), (6, .int x26), (7, .int x27)] (by decide) rfl ?_
        refine aw_iload (i := 6) dX11_down_303 305 rfl 6 rfl ?_
        refine aw_iload (i := 8) dX11_down_305 307 rfl 0 rfl ?_
        refine aw_iadd dX11_down_307 308 rfl ?_
        refine aw_lti (fun x29 => ?_)
        refine aw_istore dX11_down_308 310 rfl [(6, .int x29), (8, .int x28), (0, .ref (q_ad G 11 0)), (1, .int x1), (3, .int x3), (4, .int x4), (5, .int x7), (7, .int x27)] (by decide) rfl ?_
        refine aw_aload_n (i := 0) dX11_down_310 311 rfl rfl 2 rfl ?_
        refine gf_X11_32 dX11_down_311 314 rfl wd_249 (ok_11 (by decide)) ?_
        refine aw_bipush (x := 48) dX11_down_314 316 rfl rfl ?_
        refine aw_iload_n (i := 1) dX11_down_316 317 rfl rfl 3 rfl ?_
        refine aw_imul dX11_down_317 318 rfl ?_
        refine aw_aload_n (i := 0) dX11_down_318 319 rfl rfl 2 rfl ?_
        refine aw_iload_n (i := 1) dX11_down_319 320 rfl rfl 3 rfl ?_
        refine aw_iload (i := 4) dX11_down_320 322 rfl 5 rfl ?_
        refine aw_iload (i := 7) dX11_down_322 324 rfl 7 rfl ?_
        refine aw_callV (M2 := m_X11_fine) (cv := q_cI) dX11_down_324 327 rfl (k_X11_fine l G x1 x4 x27  u19) wd_322 wv_X11_fine pk_X11_fine rfl rfl ⟨by decide, by decide⟩ ⟨Nat.zero_le _, Nat.zero_le _⟩ at_11 (ok_11 (by decide)) rfl rfl rfl (Nat.le_of_ble_eq_true rfl) (fun x30 u20 => ?_)
        show qAW l G m_X11_down (q_mq G q_cI) 327 [(6, .int x29), (8, .int x28), (0, .ref (q_ad G 11 0)), (1, .int x1), (3, .int x3), (4, .int x4), (5, .int x7), (7, .int x27)] [.int x30, .int (48 * x1), .ref (q_ad G 92 0)] u20 _
        refine aw_iadd dX11_down_327 328 rfl ?_
        refine aw_aload_n (i := 0) dX11_down_328 329 rfl rfl 2 rfl ?_
        refine gf_X11_58 dX11_down_329 332 rfl wd_324 (ok_11 (by decide)) ?_
        refine aw_iload (i := 7) dX11_down_332 334 rfl 7 rfl ?_
        refine aw_iald dX11_down_334 335 rfl at_118 (al_118 _) (ok_118 (by decide)) (fun h25 => ?_)
        refine aw_iload (i := 8) dX11_down_335 337 rfl 1 rfl ?_
        refine aw_isub dX11_down_337 338 rfl ?_
        refine aw_iast dX11_down_338 339 rfl at_92 (al_92 _) (ok_92 (by decide)) (fun h26 => ?_)
        refine aw_ltm (fun u21 => ?_)
        refine aw_iincx (i := 7) dX11_down_339 342 rfl 7 rfl 1 rfl (fun x31 => [(7, .int x31), (6, .int x29), (8, .int x28), (0, .ref (q_ad G 11 0)), (1, .int x1), (3, .int x3), (4, .int x4), (5, .int x7)]) (by decide) (fun _ => rfl) (fun x31 => ?_)
        refine aw_goto dX11_down_342 269 rfl ?_
        exact aw_conv [3, 4, 5, 6, 7, 1, 0] rfl (ih x29 x31 u21)
      · intro j3 hj3
        refine aw_icmp_le dX11_down_284 287 rfl 300 rfl (fun h24 => ?_) (fun h24 => ?_)
        · refine aw_iconst (x := 0) dX11_down_300 301 rfl rfl ?_
          exact hj3 0 u18
        · refine aw_aload_n (i := 0) dX11_down_287 288 rfl rfl 0 rfl ?_
          refine gf_X11_58 dX11_down_288 291 rfl wd_324 (ok_11 (by decide)) ?_
          refine aw_iload (i := 7) dX11_down_291 293 rfl 6 rfl ?_
          refine aw_iald dX11_down_293 294 rfl at_118 (al_118 _) (ok_118 (by decide)) (fun h27 => ?_)
          refine aw_ldc (x := 100000) dX11_down_294 296 rfl wd_232 ?_
          refine aw_isub dX11_down_296 297 rfl ?_
          refine aw_goto dX11_down_297 301 rfl ?_
          exact hj3 ((u18.1 118 0 (Int32.toNatClampNeg x27)) - 100000) u18
set_option maxRecDepth 100000 in
set_option maxHeartbeats 4000000 in
theorem TL_X11_down_22 (l : Launch) (G : qG) (x1 : Int32) (x3 : Int32)  (e1 : qM → Option (Int32 × qM)) (he1 : ∀  (v : qM), qAW l G m_X11_down (q_mq G q_cI) 379 [(0, .ref (q_ad G 11 0)), (1, .int x1), (3, .int x3)] [] v (e1 v)) : ∀ (n : Nat) (x4 : Int32) (u3 : qM), qAW l G m_X11_down (q_mq G q_cI) 22 [(0, .ref (q_ad G 11 0)), (1, .int x1), (3, .int x3), (4, .int x4)] [] u3 (L_X11_down_22 x1 x3 n x4 u3 e1) := by
  intro n
  induction n with
  | zero => intros; exact aw_none
  | succ n ih =>
    intro x4 u3
    unfold L_X11_down_22
    refine aw_iload (i := 4) dX11_down_22 24 rfl 3 rfl ?_
    refine aw_aload_n (i := 0) dX11_down_24 25 rfl rfl 0 rfl ?_
    refine aw_iload_n (i := 1) dX11_down_25 26 rfl rfl 1 rfl ?_
    refine aw_callV (M2 := m_X11_cells) (cv := q_cI) dX11_down_26 29 rfl (k_X11_cells l G x1  u3) wd_251 wv_X11_cells pk_X11_cells rfl rfl ⟨by decide, by decide⟩ ⟨Nat.zero_le _, Nat.zero_le _⟩ at_11 (ok_11 (by decide)) rfl rfl rfl (Nat.le_of_ble_eq_true rfl) (fun x5 u4 => ?_)
    show qAW l G m_X11_down (q_mq G q_cI) 29 [(0, .ref (q_ad G 11 0)), (1, .int x1), (3, .int x3), (4, .int x4)] [.int x5, .int x4] u4 _
    refine aw_iconst (x := 4) dX11_down_29 30 rfl rfl ?_
    refine aw_idiv dX11_down_30 31 rfl (by decide) ?_
    refine aw_icmp_ge dX11_down_31 34 rfl 379 rfl (fun h2 => ?_) (fun h2 => ?_)
    · exact aw_conv [0, 1, 2] rfl (he1 u4)
    · refine aw_aload_n (i := 0) dX11_down_34 35 rfl rfl 0 rfl ?_
      refine gf_X11_32 dX11_down_35 38 rfl wd_249 (ok_11 (by decide)) ?_
      refine aw_bipush (x := 48) dX11_down_38 40 rfl rfl ?_
      refine aw_aload_n (i := 0) dX11_down_40 41 rfl rfl 0 rfl ?_
      refine gf_X11_36 dX11_down_41 44 rfl wd_253 (ok_11 (by decide)) ?_
      refine aw_iload_n (i := 1) dX11_down_44 45 rfl rfl 1 rfl ?_
      refine aw_iald dX11_down_45 46 rfl at_96 (al_96 _) (ok_96 (by decide)) (fun h3 => ?_)
      refine aw_imul dX11_down_46 47 rfl ?_
      refine aw_aload_n (i := 0) dX11_down_47 48 rfl rfl 0 rfl ?_
      refine aw_iload_n (i := 1) dX11_down_48 49 rfl rfl 1 rfl ?_
      refine aw_iload (i := 4) dX11_down_49 51 rfl 3 rfl ?_
      refine aw_callV (M2 := m_X11_beneath) (cv := q_cI) dX11_down_51 54 rfl (k_X11_beneath l G x1 x4  u4) wd_321 wv_X11_beneath pk_X11_beneath rfl rfl ⟨by decide, by decide⟩ ⟨Nat.zero_le _, Nat.zero_le _⟩ at_11 (ok_11 (by decide)) rfl rfl rfl (Nat.le_of_ble_eq_true rfl) (fun x6 u5 => ?_)
      show qAW l G m_X11_down (q_mq G q_cI) 54 [(0, .ref (q_ad G 11 0)), (1, .int x1), (3, .int x3), (4, .int x4)] [.int x6, .int (48 * (u4.1 96 0 (Int32.toNatClampNeg x1))), .ref (q_ad G 92 0)] u5 _
      refine aw_iadd dX11_down_54 55 rfl ?_
      refine aw_iald dX11_down_55 56 rfl at_92 (al_92 _) (ok_92 (by decide)) (fun h4 => ?_)
      refine aw_lti (fun x7 => ?_)
      refine aw_istore dX11_down_56 58 rfl [(5, .int x7), (0, .ref (q_ad G 11 0)), (1, .int x1), (3, .int x3), (4, .int x4)] (by decide) rfl ?_
      refine aw_aload_n (i := 0) dX11_down_58 59 rfl rfl 1 rfl ?_
      refine gf_X11_40 dX11_down_59 62 rfl wd_268 (ok_11 (by decide)) ?_
      refine aw_bipush (x := 48) dX11_down_62 64 rfl rfl ?_
      refine aw_iload_n (i := 1) dX11_down_64 65 rfl rfl 2 rfl ?_
      refine aw_imul dX11_down_65 66 rfl ?_
      refine aw_iload (i := 4) dX11_down_66 68 rfl 4 rfl ?_
      refine aw_iadd dX11_down_68 69 rfl ?_
      refine aw_iald dX11_down_69 70 rfl at_100 (al_100 _) (ok_100 (by decide)) (fun h5 => ?_)
      refine aw_lti (fun x8 => ?_)
      refine aw_istore dX11_down_70 72 rfl [(6, .int x8), (5, .int x7), (0, .ref (q_ad G 11 0)), (1, .int x1), (3, .int x3), (4, .int x4)] (by decide) rfl ?_
      refine aw_iconst (x := 0) dX11_down_72 73 rfl rfl ?_
      refine aw_istore dX11_down_73 75 rfl [(7, .int 0), (6, .int x8), (5, .int x7), (0, .ref (q_ad G 11 0)), (1, .int x1), (3, .int x3), (4, .int x4)] (by decide) rfl ?_
      refine aw_conv [3, 4, 5, 6, 2, 1, 0] rfl (TL_X11_down_75 l G x1 x3 x4 x7 x8  _ ?_ _ 0 u5)
      · intro u9
        refine aw_iconst (x := 0) dX11_down_129 130 rfl rfl ?_
        refine aw_istore dX11_down_130 132 rfl [(7, .int 0), (0, .ref (q_ad G 11 0)), (1, .int x1), (3, .int x3), (4, .int x4), (5, .int x7), (6, .int x8)] (by decide) rfl ?_
        refine aw_conv [1, 2, 3, 4, 5, 6, 0] rfl (TL_X11_down_132 l G x1 x3 x4 x7  _ ?_ _ x8 0 u9)
        · intro x25 u17
          refine aw_iconst (x := 0) dX11_down_266 267 rfl rfl ?_
          refine aw_istore dX11_down_267 269 rfl [(7, .int 0), (0, .ref (q_ad G 11 0)), (1, .int x1), (3, .int x3), (4, .int x4), (5, .int x7), (6, .int x25)] (by decide) rfl ?_
          refine aw_conv [1, 2, 3, 4, 5, 6, 0] rfl (TL_X11_down_269 l G x1 x3 x4 x7  _ ?_ _ x25 0 u17)
          · intro x32 u22
            refine aw_aload_n (i := 0) dX11_down_345 346 rfl rfl 0 rfl ?_
            refine gf_X11_40 dX11_down_346 349 rfl wd_268 (ok_11 (by decide)) ?_
            refine aw_bipush (x := 48) dX11_down_349 351 rfl rfl ?_
            refine aw_iload_n (i := 1) dX11_down_351 352 rfl rfl 1 rfl ?_
            refine aw_imul dX11_down_352 353 rfl ?_
            refine aw_iload (i := 4) dX11_down_353 355 rfl 3 rfl ?_
            refine aw_iadd dX11_down_355 356 rfl ?_
            refine aw_iload (i := 6) dX11_down_356 358 rfl 5 rfl ?_
            refine aw_iast dX11_down_358 359 rfl at_100 (al_100 _) (ok_100 (by decide)) (fun h28 => ?_)
            refine aw_ltm (fun u23 => ?_)
            refine aw_aload_n (i := 0) dX11_down_359 360 rfl rfl 0 rfl ?_
            refine gf_X11_39 dX11_down_360 363 rfl wd_267 (ok_11 (by decide)) ?_
            refine aw_bipush (x := 48) dX11_down_363 365 rfl rfl ?_
            refine aw_iload_n (i := 1) dX11_down_365 366 rfl rfl 1 rfl ?_
            refine aw_imul dX11_down_366 367 rfl ?_
            refine aw_iload (i := 4) dX11_down_367 369 rfl 3 rfl ?_
            refine aw_iadd dX11_down_369 370 rfl ?_
            refine aw_iload (i := 5) dX11_down_370 372 rfl 4 rfl ?_
            refine aw_iast dX11_down_372 373 rfl at_99 (al_99 _) (ok_99 (by decide)) (fun h29 => ?_)
            refine aw_ltm (fun u24 => ?_)
            refine aw_iincx (i := 4) dX11_down_373 376 rfl 3 rfl 1 rfl (fun x33 => [(4, .int x33), (0, .ref (q_ad G 11 0)), (1, .int x1), (3, .int x3), (5, .int x7), (6, .int x32)]) (by decide) (fun _ => rfl) (fun x33 => ?_)
            refine aw_goto dX11_down_376 22 rfl ?_
            exact aw_conv [1, 2, 3, 0] rfl (ih x33 u24)
set_option maxRecDepth 100000 in
set_option maxHeartbeats 4000000 in
theorem k_X11_down (l : Launch) (G : qG) (x1 : Int32)  (u0 : qM) : qCt l G m_X11_down q_cI [.ref (q_ad G 11 0), .int x1] u0 (f_X11_down x1 u0) := by
  refine q_entry pk_X11_down (Nat.le_of_ble_eq_true rfl) ?_
  show qAW l G m_X11_down (q_mq G q_cI) 0 [(0, .ref (q_ad G 11 0)), (1, .int x1)] [] u0 (f_X11_down x1 u0)
  unfold f_X11_down
  refine aw_aload_n (i := 0) dX11_down_0 1 rfl rfl 0 rfl ?_
  refine aw_iload_n (i := 1) dX11_down_1 2 rfl rfl 1 rfl ?_
  refine aw_callV (M2 := m_X11_askedNest) (cv := q_cI) dX11_down_2 5 rfl (k_X11_askedNest l G x1  u0) wd_323 wv_X11_askedNest pk_X11_askedNest rfl rfl ⟨by decide, by decide⟩ ⟨Nat.zero_le _, Nat.zero_le _⟩ at_11 (ok_11 (by decide)) rfl rfl rfl (Nat.le_of_ble_eq_true rfl) (fun x2 u1 => ?_)
  show qAW l G m_X11_down (q_mq G q_cI) 5 [(0, .ref (q_ad G 11 0)), (1, .int x1)] [.int x2] u1 _
  refine aw_istore_n dX11_down_5 6 rfl rfl [(2, .int x2), (0, .ref (q_ad G 11 0)), (1, .int x1)] (by decide) rfl ?_
  refine aw_iload_n (i := 2) dX11_down_6 7 rfl rfl 0 rfl ?_
  refine aw_if_ge dX11_down_7 10 rfl 12 rfl (fun h1 => ?_) (fun h1 => ?_)
  · refine aw_aload_n (i := 0) dX11_down_12 13 rfl rfl 1 rfl ?_
    refine aw_iload_n (i := 1) dX11_down_13 14 rfl rfl 2 rfl ?_
    refine aw_iconst (x := 4) dX11_down_14 15 rfl rfl ?_
    refine aw_callV (M2 := m_X11_tells) (cv := q_cI) dX11_down_15 18 rfl (k_X11_tells l G x1 4  u1) wd_304 wv_X11_tells pk_X11_tells rfl rfl ⟨by decide, by decide⟩ ⟨Nat.zero_le _, Nat.zero_le _⟩ at_11 (ok_11 (by decide)) rfl rfl rfl (Nat.le_of_ble_eq_true rfl) (fun x3 u2 => ?_)
    show qAW l G m_X11_down (q_mq G q_cI) 18 [(2, .int x2), (0, .ref (q_ad G 11 0)), (1, .int x1)] [.int x3] u2 _
    refine aw_istore_n dX11_down_18 19 rfl rfl [(3, .int x3), (2, .int x2), (0, .ref (q_ad G 11 0)), (1, .int x1)] (by decide) rfl ?_
    refine aw_iconst (x := 0) dX11_down_19 20 rfl rfl ?_
    refine aw_istore dX11_down_20 22 rfl [(4, .int 0), (3, .int x3), (2, .int x2), (0, .ref (q_ad G 11 0)), (1, .int x1)] (by decide) rfl ?_
    refine aw_conv [3, 4, 1, 0] rfl (TL_X11_down_22 l G x1 x3  _ ?_ _ 0 u2)
    · intro u25
      refine aw_aload_n (i := 0) dX11_down_379 380 rfl rfl 0 rfl ?_
      refine aw_aload_n (i := 0) dX11_down_380 381 rfl rfl 0 rfl ?_
      refine aw_iload_n (i := 1) dX11_down_381 382 rfl rfl 1 rfl ?_
      refine aw_iconst (x := 4) dX11_down_382 383 rfl rfl ?_
      refine aw_callV (M2 := m_X11_tells) (cv := q_cI) dX11_down_383 386 rfl (k_X11_tells l G x1 4  u25) wd_304 wv_X11_tells pk_X11_tells rfl rfl ⟨by decide, by decide⟩ ⟨Nat.zero_le _, Nat.zero_le _⟩ at_11 (ok_11 (by decide)) rfl rfl rfl (Nat.le_of_ble_eq_true rfl) (fun x34 u26 => ?_)
      show qAW l G m_X11_down (q_mq G q_cI) 386 [(0, .ref (q_ad G 11 0)), (1, .int x1), (3, .int x3)] [.int x34, .ref (q_ad G 11 0)] u26 _
      refine aw_iload_n (i := 3) dX11_down_386 387 rfl rfl 2 rfl ?_
      refine aw_isub dX11_down_387 388 rfl ?_
      refine aw_iconst (x := 1) dX11_down_388 389 rfl rfl ?_
      refine aw_callV (M2 := m_X11_ask) (cv := q_cI) dX11_down_389 392 rfl (k_X11_ask l G (x34 - x3) 1  u26) wd_236 wv_X11_ask pk_X11_ask rfl rfl ⟨by decide, by decide⟩ ⟨Nat.zero_le _, Nat.zero_le _⟩ at_11 (ok_11 (by decide)) rfl rfl rfl (Nat.le_of_ble_eq_true rfl) (fun x35 u27 => ?_)
      show qAW l G m_X11_down (q_mq G q_cI) 392 [(0, .ref (q_ad G 11 0)), (1, .int x1), (3, .int x3)] [.int x35] u27 _
      exact aw_iret dX11_down_392 rfl
  · refine aw_iload_n (i := 2) dX11_down_10 11 rfl rfl 0 rfl ?_
    exact aw_iret dX11_down_11 rfl
theorem dX11_tryPulls_0 : decode cX11_tryPulls 0 = .ok (.iconst 1, 1) := by decide +kernel
theorem dX11_tryPulls_1 : decode cX11_tryPulls 1 = .ok (.istore 4, 2) := by decide +kernel
theorem dX11_tryPulls_3 : decode cX11_tryPulls 3 = .ok (.iload 4, 2) := by decide +kernel
theorem dX11_tryPulls_5 : decode cX11_tryPulls 5 = .ok (.bipush 9, 2) := by decide +kernel
theorem dX11_tryPulls_7 : decode cX11_tryPulls 7 = .ok (.if_icmp .ge 174, 3) := by decide +kernel
theorem dX11_tryPulls_10 : decode cX11_tryPulls 10 = .ok (.aload_n 0, 1) := by decide +kernel
theorem dX11_tryPulls_11 : decode cX11_tryPulls 11 = .ok (.iload_n 1, 1) := by decide +kernel
theorem dX11_tryPulls_12 : decode cX11_tryPulls 12 = .ok (.bipush 6, 2) := by decide +kernel
theorem dX11_tryPulls_14 : decode cX11_tryPulls 14 = .ok (.invokevirtual 299, 3) := by decide +kernel
theorem dX11_tryPulls_17 : decode cX11_tryPulls 17 = .ok (.aload_n 0, 1) := by decide +kernel
theorem dX11_tryPulls_18 : decode cX11_tryPulls 18 = .ok (.getfield 47, 3) := by decide +kernel
theorem dX11_tryPulls_21 : decode cX11_tryPulls 21 = .ok (.bipush 6, 2) := by decide +kernel
theorem dX11_tryPulls_23 : decode cX11_tryPulls 23 = .ok (.iload 4, 2) := by decide +kernel
theorem dX11_tryPulls_25 : decode cX11_tryPulls 25 = .ok (.iastore, 1) := by decide +kernel
theorem dX11_tryPulls_26 : decode cX11_tryPulls 26 = .ok (.lconst 0, 1) := by decide +kernel
theorem dX11_tryPulls_27 : decode cX11_tryPulls 27 = .ok (.lstore 5, 2) := by decide +kernel
theorem dX11_tryPulls_29 : decode cX11_tryPulls 29 = .ok (.iconst 0, 1) := by decide +kernel
theorem dX11_tryPulls_30 : decode cX11_tryPulls 30 = .ok (.istore 7, 2) := by decide +kernel
theorem dX11_tryPulls_32 : decode cX11_tryPulls 32 = .ok (.iload 7, 2) := by decide +kernel
theorem dX11_tryPulls_34 : decode cX11_tryPulls 34 = .ok (.aload_n 0, 1) := by decide +kernel
theorem dX11_tryPulls_35 : decode cX11_tryPulls 35 = .ok (.getfield 17, 3) := by decide +kernel
theorem dX11_tryPulls_38 : decode cX11_tryPulls 38 = .ok (.iload_n 3, 1) := by decide +kernel
theorem dX11_tryPulls_39 : decode cX11_tryPulls 39 = .ok (.iaload, 1) := by decide +kernel
theorem dX11_tryPulls_40 : decode cX11_tryPulls 40 = .ok (.if_icmp .ge 126, 3) := by decide +kernel
theorem dX11_tryPulls_43 : decode cX11_tryPulls 43 = .ok (.lload 5, 2) := by decide +kernel
theorem dX11_tryPulls_45 : decode cX11_tryPulls 45 = .ok (.lconst 0, 1) := by decide +kernel
theorem dX11_tryPulls_46 : decode cX11_tryPulls 46 = .ok (.lcmp, 1) := by decide +kernel
theorem dX11_tryPulls_47 : decode cX11_tryPulls 47 = .ok (.ifCond .lt 119, 3) := by decide +kernel
theorem dX11_tryPulls_50 : decode cX11_tryPulls 50 = .ok (.aload_n 0, 1) := by decide +kernel
theorem dX11_tryPulls_51 : decode cX11_tryPulls 51 = .ok (.getfield 20, 3) := by decide +kernel
theorem dX11_tryPulls_54 : decode cX11_tryPulls 54 = .ok (.bipush 48, 2) := by decide +kernel
theorem dX11_tryPulls_56 : decode cX11_tryPulls 56 = .ok (.iload_n 3, 1) := by decide +kernel
theorem dX11_tryPulls_57 : decode cX11_tryPulls 57 = .ok (.imul, 1) := by decide +kernel
theorem dX11_tryPulls_58 : decode cX11_tryPulls 58 = .ok (.iload 7, 2) := by decide +kernel
theorem dX11_tryPulls_60 : decode cX11_tryPulls 60 = .ok (.iadd, 1) := by decide +kernel
theorem dX11_tryPulls_61 : decode cX11_tryPulls 61 = .ok (.iaload, 1) := by decide +kernel
theorem dX11_tryPulls_62 : decode cX11_tryPulls 62 = .ok (.istore 8, 2) := by decide +kernel
theorem dX11_tryPulls_64 : decode cX11_tryPulls 64 = .ok (.aload_n 0, 1) := by decide +kernel
theorem dX11_tryPulls_65 : decode cX11_tryPulls 65 = .ok (.bipush 6, 2) := by decide +kernel
theorem dX11_tryPulls_67 : decode cX11_tryPulls 67 = .ok (.invokevirtual 284, 3) := by decide +kernel
theorem dX11_tryPulls_70 : decode cX11_tryPulls 70 = .ok (.ifCond .eq 16, 3) := by decide +kernel
theorem dX11_tryPulls_73 : decode cX11_tryPulls 73 = .ok (.aload_n 0, 1) := by decide +kernel
theorem dX11_tryPulls_74 : decode cX11_tryPulls 74 = .ok (.bipush 6, 2) := by decide +kernel
theorem dX11_tryPulls_76 : decode cX11_tryPulls 76 = .ok (.iload_n 2, 1) := by decide +kernel
theorem dX11_tryPulls_77 : decode cX11_tryPulls 77 = .ok (.invokevirtual 243, 3) := by decide +kernel
theorem dX11_tryPulls_80 : decode cX11_tryPulls 80 = .ok (.iload 8, 2) := by decide +kernel
theorem dX11_tryPulls_82 : decode cX11_tryPulls 82 = .ok (.isub, 1) := by decide +kernel
theorem dX11_tryPulls_83 : decode cX11_tryPulls 83 = .ok (.goto 5, 3) := by decide +kernel
theorem dX11_tryPulls_86 : decode cX11_tryPulls 86 = .ok (.bipush (-9), 2) := by decide +kernel
theorem dX11_tryPulls_88 : decode cX11_tryPulls 88 = .ok (.istore 9, 2) := by decide +kernel
theorem dX11_tryPulls_90 : decode cX11_tryPulls 90 = .ok (.aload_n 0, 1) := by decide +kernel
theorem dX11_tryPulls_91 : decode cX11_tryPulls 91 = .ok (.getfield 59, 3) := by decide +kernel
theorem dX11_tryPulls_94 : decode cX11_tryPulls 94 = .ok (.bipush 6, 2) := by decide +kernel
theorem dX11_tryPulls_96 : decode cX11_tryPulls 96 = .ok (.iaload, 1) := by decide +kernel
theorem dX11_tryPulls_97 : decode cX11_tryPulls 97 = .ok (.aload_n 0, 1) := by decide +kernel
theorem dX11_tryPulls_98 : decode cX11_tryPulls 98 = .ok (.getfield 59, 3) := by decide +kernel
theorem dX11_tryPulls_101 : decode cX11_tryPulls 101 = .ok (.iload_n 1, 1) := by decide +kernel
theorem dX11_tryPulls_102 : decode cX11_tryPulls 102 = .ok (.iaload, 1) := by decide +kernel
theorem dX11_tryPulls_103 : decode cX11_tryPulls 103 = .ok (.iload 7, 2) := by decide +kernel
theorem dX11_tryPulls_105 : decode cX11_tryPulls 105 = .ok (.iadd, 1) := by decide +kernel
theorem dX11_tryPulls_106 : decode cX11_tryPulls 106 = .ok (.iconst 1, 1) := by decide +kernel
theorem dX11_tryPulls_107 : decode cX11_tryPulls 107 = .ok (.iadd, 1) := by decide +kernel
theorem dX11_tryPulls_108 : decode cX11_tryPulls 108 = .ok (.if_icmp .ne 7, 3) := by decide +kernel
theorem dX11_tryPulls_111 : decode cX11_tryPulls 111 = .ok (.iconst 1, 1) := by decide +kernel
theorem dX11_tryPulls_112 : decode cX11_tryPulls 112 = .ok (.goto 4, 3) := by decide +kernel
theorem dX11_tryPulls_115 : decode cX11_tryPulls 115 = .ok (.iconst 0, 1) := by decide +kernel
theorem dX11_tryPulls_116 : decode cX11_tryPulls 116 = .ok (.istore 10, 2) := by decide +kernel
theorem dX11_tryPulls_118 : decode cX11_tryPulls 118 = .ok (.iload 10, 2) := by decide +kernel
theorem dX11_tryPulls_120 : decode cX11_tryPulls 120 = .ok (.ifCond .ne 9, 3) := by decide +kernel
theorem dX11_tryPulls_123 : decode cX11_tryPulls 123 = .ok (.ldc2_w 346, 3) := by decide +kernel
theorem dX11_tryPulls_126 : decode cX11_tryPulls 126 = .ok (.goto 32, 3) := by decide +kernel
theorem dX11_tryPulls_129 : decode cX11_tryPulls 129 = .ok (.iload 8, 2) := by decide +kernel
theorem dX11_tryPulls_131 : decode cX11_tryPulls 131 = .ok (.bipush (-9), 2) := by decide +kernel
theorem dX11_tryPulls_133 : decode cX11_tryPulls 133 = .ok (.if_icmp .ne 8, 3) := by decide +kernel
theorem dX11_tryPulls_136 : decode cX11_tryPulls 136 = .ok (.lload 5, 2) := by decide +kernel
theorem dX11_tryPulls_138 : decode cX11_tryPulls 138 = .ok (.goto 20, 3) := by decide +kernel
theorem dX11_tryPulls_141 : decode cX11_tryPulls 141 = .ok (.lload 5, 2) := by decide +kernel
theorem dX11_tryPulls_143 : decode cX11_tryPulls 143 = .ok (.iload 9, 2) := by decide +kernel
theorem dX11_tryPulls_145 : decode cX11_tryPulls 145 = .ok (.ifCond .ge 9, 3) := by decide +kernel
theorem dX11_tryPulls_148 : decode cX11_tryPulls 148 = .ok (.iload 9, 2) := by decide +kernel
theorem dX11_tryPulls_150 : decode cX11_tryPulls 150 = .ok (.ineg, 1) := by decide +kernel
theorem dX11_tryPulls_151 : decode cX11_tryPulls 151 = .ok (.goto 5, 3) := by decide +kernel
theorem dX11_tryPulls_154 : decode cX11_tryPulls 154 = .ok (.iload 9, 2) := by decide +kernel
theorem dX11_tryPulls_156 : decode cX11_tryPulls 156 = .ok (.i2l, 1) := by decide +kernel
theorem dX11_tryPulls_157 : decode cX11_tryPulls 157 = .ok (.ladd, 1) := by decide +kernel
theorem dX11_tryPulls_158 : decode cX11_tryPulls 158 = .ok (.lstore 5, 2) := by decide +kernel
theorem dX11_tryPulls_160 : decode cX11_tryPulls 160 = .ok (.iinc 7 1, 3) := by decide +kernel
theorem dX11_tryPulls_163 : decode cX11_tryPulls 163 = .ok (.goto (-131), 3) := by decide +kernel
theorem dX11_tryPulls_166 : decode cX11_tryPulls 166 = .ok (.aload_n 0, 1) := by decide +kernel
theorem dX11_tryPulls_167 : decode cX11_tryPulls 167 = .ok (.getfield 159, 3) := by decide +kernel
theorem dX11_tryPulls_170 : decode cX11_tryPulls 170 = .ok (.iload 4, 2) := by decide +kernel
theorem dX11_tryPulls_172 : decode cX11_tryPulls 172 = .ok (.lload 5, 2) := by decide +kernel
theorem dX11_tryPulls_174 : decode cX11_tryPulls 174 = .ok (.lastore, 1) := by decide +kernel
theorem dX11_tryPulls_175 : decode cX11_tryPulls 175 = .ok (.iinc 4 1, 3) := by decide +kernel
theorem dX11_tryPulls_178 : decode cX11_tryPulls 178 = .ok (.goto (-175), 3) := by decide +kernel
theorem dX11_tryPulls_181 : decode cX11_tryPulls 181 = .ok (.aload_n 0, 1) := by decide +kernel
theorem dX11_tryPulls_182 : decode cX11_tryPulls 182 = .ok (.getfield 38, 3) := by decide +kernel
theorem dX11_tryPulls_185 : decode cX11_tryPulls 185 = .ok (.bipush 6, 2) := by decide +kernel
theorem dX11_tryPulls_187 : decode cX11_tryPulls 187 = .ok (.bipush (-9), 2) := by decide +kernel
theorem dX11_tryPulls_189 : decode cX11_tryPulls 189 = .ok (.iastore, 1) := by decide +kernel
theorem dX11_tryPulls_190 : decode cX11_tryPulls 190 = .ok (.return_, 1) := by decide +kernel
noncomputable def L_X11_tryPulls_32 (x1 : Int32) (x2 : Int32) (x3 : Int32) (x4 : Int32) : Nat → Int64 → Int32 → qM → (Int64 → qM → Option (Unit × qM)) → Option (Unit × qM)
  | 0, _, _, _, _ => none
  | n + 1, w1, x5, u4, e1 => q_ck (q_in x3 6) (if (u4.1 66 0 (Int32.toNatClampNeg x3)) ≤ x5 then e1 w1 u4 else if (lg_cmp w1 0) < 0 then e1 w1 u4 else q_ck (q_in ((48 * x3) + x5) 288) (q_lt (u4.1 67 0 (Int32.toNatClampNeg ((48 * x3) + x5))) (fun (x6 : Int32) => q_bd (f_X11_stepOnce 6 u4) (fun (x7 : Int32) (u5 : qM) => q_jn (fun (x8 : Int32) (u6 : qM) => q_ck (q_in 6 8) (q_ck (q_in x1 8) (q_jn (fun (x9 : Int32) (u7 : qM) => q_jn (fun (w2 : Int64) (u8 : qM) => q_lt (x5 + 1) (fun (x10 : Int32) => L_X11_tryPulls_32 x1 x2 x3 x4 n w2 x10 u8 e1)) (fun j3 => if x9 = 0 then j3 (-1) u7 else if x6 = (-9) then j3 w1 u7 else q_jn (fun (x11 : Int32) (u9 : qM) => j3 (w1 + (Int32.toInt64 x11)) u9) (fun j4 => if (0 : Int32) ≤ x8 then j4 x8 u7 else j4 (-x8) u7))) (fun j2 => if (u6.1 81 0 (Int32.toNatClampNeg 6)) = (((u6.1 81 0 (Int32.toNatClampNeg x1)) + x5) + 1) then j2 1 u6 else j2 0 u6)))) (fun j1 => if x7 = 0 then j1 (-9) u5 else q_bd (f_X11_level 6 x2 u5) (fun (x12 : Int32) (u10 : qM) => j1 (x12 - x6) u10))))))
noncomputable def L_X11_tryPulls_3 (x1 : Int32) (x2 : Int32) (x3 : Int32) : Nat → Int32 → qM → (qM → Option (Unit × qM)) → Option (Unit × qM)
  | 0, _, _, _ => none
  | n + 1, x4, u1, e1 => if 9 ≤ x4 then e1 u1 else q_bd (f_X11_bring x1 6 u1) (fun (_z : Unit) (u2 : qM) => q_ck (q_in 6 8) (q_lt (q_si u2 77 0 (Int32.toNatClampNeg 6) x4) (fun (u3 : qM) => L_X11_tryPulls_32 x1 x2 x3 x4 q_fu 0 0 u3 (fun w3 u11 => q_ck (q_in x4 9) (q_lt (q_sl u11 119 0 (Int32.toNatClampNeg x4) w3) (fun (u12 : qM) => q_lt (x4 + 1) (fun (x13 : Int32) => L_X11_tryPulls_3 x1 x2 x3 n x13 u12 e1)))))))
noncomputable def f_X11_tryPulls (x1 : Int32) (x2 : Int32) (x3 : Int32) (u0 : qM) : Option (Unit × qM) :=
  L_X11_tryPulls_3 x1 x2 x3 q_fu 1 u0 (fun u13 => q_ck (q_in 6 8) (q_lt (q_si u13 74 0 (Int32.toNatClampNeg 6) (-9)) (fun (u14 : qM) => some ((), u14))))
set_option maxRecDepth 100000 in
set_option maxHeartbeats 4000000 in
theorem TL_X11_tryPulls_32 (l : Launch) (G : qG) (x1 : Int32) (x2 : Int32) (x3 : Int32) (x4 : Int32)  (e1 : Int64 → qM → Option (Unit × qM)) (he1 : ∀ (y1 : Int64) (v : qM), qAW l G m_X11_tryPulls (q_mq G q_cU) 166 [(0, .ref (q_ad G 11 0)), (1, .int x1), (2, .int x2), (3, .int x3), (4, .int x4), (5, .long y1)] [] v (e1 y1 v)) : ∀ (n : Nat) (w1 : Int64) (x5 : Int32) (u4 : qM), qAW l G m_X11_tryPulls (q_mq G q_cU) 32 [(0, .ref (q_ad G 11 0)), (1, .int x1), (2, .int x2), (3, .int x3), (4, .int x4), (5, .long w1), (7, .int x5)] [] u4 (L_X11_tryPulls_32 x1 x2 x3 x4 n w1 x5 u4 e1) := by
  intro n
  induction n with
  | zero => intros; exact aw_none
  | succ n ih =>
    intro w1 x5 u4
    unfold L_X11_tryPulls_32
    refine aw_iload (i := 7) dX11_tryPulls_32 34 rfl 6 rfl ?_
    refine aw_aload_n (i := 0) dX11_tryPulls_34 35 rfl rfl 0 rfl ?_
    refine gf_X11_6 dX11_tryPulls_35 38 rfl wd_228 (ok_11 (by decide)) ?_
    refine aw_iload_n (i := 3) dX11_tryPulls_38 39 rfl rfl 3 rfl ?_
    refine aw_iald dX11_tryPulls_39 40 rfl at_66 (al_66 _) (ok_66 (by decide)) (fun h3 => ?_)
    refine aw_icmp_ge dX11_tryPulls_40 43 rfl 166 rfl (fun h4 => ?_) (fun h4 => ?_)
    · exact aw_conv [0, 1, 2, 3, 4, 5] rfl (he1 w1 u4)
    · refine aw_lload (i := 5) dX11_tryPulls_43 45 rfl 5 rfl ?_
      refine aw_lconst (x := 0) dX11_tryPulls_45 46 rfl rfl ?_
      refine aw_lcmp dX11_tryPulls_46 47 rfl ?_
      refine aw_if_lt dX11_tryPulls_47 50 rfl 166 rfl (fun h5 => ?_) (fun h5 => ?_)
      · exact aw_conv [0, 1, 2, 3, 4, 5] rfl (he1 w1 u4)
      · refine aw_aload_n (i := 0) dX11_tryPulls_50 51 rfl rfl 0 rfl ?_
        refine gf_X11_7 dX11_tryPulls_51 54 rfl wd_230 (ok_11 (by decide)) ?_
        refine aw_bipush (x := 48) dX11_tryPulls_54 56 rfl rfl ?_
        refine aw_iload_n (i := 3) dX11_tryPulls_56 57 rfl rfl 3 rfl ?_
        refine aw_imul dX11_tryPulls_57 58 rfl ?_
        refine aw_iload (i := 7) dX11_tryPulls_58 60 rfl 6 rfl ?_
        refine aw_iadd dX11_tryPulls_60 61 rfl ?_
        refine aw_iald dX11_tryPulls_61 62 rfl at_67 (al_67 _) (ok_67 (by decide)) (fun h6 => ?_)
        refine aw_lti (fun x6 => ?_)
        refine aw_istore dX11_tryPulls_62 64 rfl [(8, .int x6), (0, .ref (q_ad G 11 0)), (1, .int x1), (2, .int x2), (3, .int x3), (4, .int x4), (5, .long w1), (7, .int x5)] (by decide) rfl ?_
        refine aw_aload_n (i := 0) dX11_tryPulls_64 65 rfl rfl 1 rfl ?_
        refine aw_bipush (x := 6) dX11_tryPulls_65 67 rfl rfl ?_
        refine aw_callV (M2 := m_X11_stepOnce) (cv := q_cI) dX11_tryPulls_67 70 rfl (k_X11_stepOnce l G 6  u4) wd_301 wv_X11_stepOnce pk_X11_stepOnce rfl rfl ⟨by decide, by decide⟩ ⟨Nat.zero_le _, Nat.zero_le _⟩ at_11 (ok_11 (by decide)) rfl rfl rfl (Nat.le_of_ble_eq_true rfl) (fun x7 u5 => ?_)
        show qAW l G m_X11_tryPulls (q_mq G q_cU) 70 [(8, .int x6), (0, .ref (q_ad G 11 0)), (1, .int x1), (2, .int x2), (3, .int x3), (4, .int x4), (5, .long w1), (7, .int x5)] [.int x7] u5 _
        refine aw_jn (fun k => ∀ (x8 : Int32) (u6 : qM), qAW l G m_X11_tryPulls (q_mq G q_cU) 88 [(0, .ref (q_ad G 11 0)), (1, .int x1), (2, .int x2), (3, .int x3), (4, .int x4), (5, .long w1), (7, .int x5), (8, .int x6)] [.int x8] u6 (k x8 u6)) ?_ ?_
        · intro x8 u6
          refine aw_istore dX11_tryPulls_88 90 rfl [(9, .int x8), (0, .ref (q_ad G 11 0)), (1, .int x1), (2, .int x2), (3, .int x3), (4, .int x4), (5, .long w1), (7, .int x5), (8, .int x6)] (by decide) rfl ?_
          refine aw_aload_n (i := 0) dX11_tryPulls_90 91 rfl rfl 1 rfl ?_
          refine gf_X11_21 dX11_tryPulls_91 94 rfl wd_260 (ok_11 (by decide)) ?_
          refine aw_bipush (x := 6) dX11_tryPulls_94 96 rfl rfl ?_
          refine aw_iald dX11_tryPulls_96 97 rfl at_81 (al_81 _) (ok_81 (by decide)) (fun h8 => ?_)
          refine aw_aload_n (i := 0) dX11_tryPulls_97 98 rfl rfl 1 rfl ?_
          refine gf_X11_21 dX11_tryPulls_98 101 rfl wd_260 (ok_11 (by decide)) ?_
          refine aw_iload_n (i := 1) dX11_tryPulls_101 102 rfl rfl 2 rfl ?_
          refine aw_iald dX11_tryPulls_102 103 rfl at_81 (al_81 _) (ok_81 (by decide)) (fun h9 => ?_)
          refine aw_iload (i := 7) dX11_tryPulls_103 105 rfl 7 rfl ?_
          refine aw_iadd dX11_tryPulls_105 106 rfl ?_
          refine aw_iconst (x := 1) dX11_tryPulls_106 107 rfl rfl ?_
          refine aw_iadd dX11_tryPulls_107 108 rfl ?_
          refine aw_jn (fun k => ∀ (x9 : Int32) (u7 : qM), qAW l G m_X11_tryPulls (q_mq G q_cU) 116 [(0, .ref (q_ad G 11 0)), (1, .int x1), (2, .int x2), (3, .int x3), (4, .int x4), (5, .long w1), (7, .int x5), (8, .int x6), (9, .int x8)] [.int x9] u7 (k x9 u7)) ?_ ?_
          · intro x9 u7
            refine aw_istore dX11_tryPulls_116 118 rfl [(10, .int x9), (0, .ref (q_ad G 11 0)), (1, .int x1), (2, .int x2), (3, .int x3), (4, .int x4), (5, .long w1), (7, .int x5), (8, .int x6), (9, .int x8)] (by decide) rfl ?_
            refine aw_iload (i := 10) dX11_tryPulls_118 120 rfl 0 rfl ?_
            refine aw_jn (fun k => ∀ (w2 : Int64) (u8 : qM), qAW l G m_X11_tryPulls (q_mq G q_cU) 158 [(0, .ref (q_ad G 11 0)), (1, .int x1), (2, .int x2), (3, .int x3), (4, .int x4), (7, .int x5)] [.long w2] u8 (k w2 u8)) ?_ ?_
            · intro w2 u8
              refine aw_lstore dX11_tryPulls_158 160 rfl [(5, .long w2), (0, .ref (q_ad G 11 0)), (1, .int x1), (2, .int x2), (3, .int x3), (4, .int x4), (7, .int x5)] (by decide) rfl ?_
              refine aw_iincx (i := 7) dX11_tryPulls_160 163 rfl 6 rfl 1 rfl (fun x10 => [(7, .int x10), (5, .long w2), (0, .ref (q_ad G 11 0)), (1, .int x1), (2, .int x2), (3, .int x3), (4, .int x4)]) (by decide) (fun _ => rfl) (fun x10 => ?_)
              refine aw_goto dX11_tryPulls_163 32 rfl ?_
              exact aw_conv [2, 3, 4, 5, 6, 1, 0] rfl (ih w2 x10 u8)
            · intro j3 hj3
              refine aw_if_ne dX11_tryPulls_120 123 rfl 129 rfl (fun h11 => ?_) (fun h11 => ?_)
              · refine aw_iload (i := 8) dX11_tryPulls_129 131 rfl 8 rfl ?_
                refine aw_bipush (x := (-9)) dX11_tryPulls_131 133 rfl rfl ?_
                refine aw_icmp_ne dX11_tryPulls_133 136 rfl 141 rfl (fun h12 => ?_) (fun h12 => ?_)
                · refine aw_lload (i := 5) dX11_tryPulls_141 143 rfl 6 rfl ?_
                  refine aw_iload (i := 9) dX11_tryPulls_143 145 rfl 9 rfl ?_
                  refine aw_jn (fun k => ∀ (x11 : Int32) (u9 : qM), qAW l G m_X11_tryPulls (q_mq G q_cU) 156 [(0, .ref (q_ad G 11 0)), (1, .int x1), (2, .int x2), (3, .int x3), (4, .int x4), (7, .int x5)] [.int x11, .long w1] u9 (k x11 u9)) ?_ ?_
                  · intro x11 u9
                    refine aw_i2l dX11_tryPulls_156 157 rfl ?_
                    refine aw_ladd dX11_tryPulls_157 158 rfl ?_
                    exact hj3 (w1 + (Int32.toInt64 x11)) u9
                  · intro j4 hj4
                    refine aw_if_ge dX11_tryPulls_145 148 rfl 154 rfl (fun h13 => ?_) (fun h13 => ?_)
                    · refine aw_iload (i := 9) dX11_tryPulls_154 156 rfl 9 rfl ?_
                      exact aw_conv [1, 2, 3, 4, 5, 7] rfl (hj4 x8 u7)
                    · refine aw_iload (i := 9) dX11_tryPulls_148 150 rfl 9 rfl ?_
                      refine aw_ineg dX11_tryPulls_150 151 rfl ?_
                      refine aw_goto dX11_tryPulls_151 156 rfl ?_
                      exact aw_conv [1, 2, 3, 4, 5, 7] rfl (hj4 (-x8) u7)
                · refine aw_lload (i := 5) dX11_tryPulls_136 138 rfl 6 rfl ?_
                  refine aw_goto dX11_tryPulls_138 158 rfl ?_
                  exact aw_conv [1, 2, 3, 4, 5, 7] rfl (hj3 w1 u7)
              · refine aw_ldc2 (x := (-1)) dX11_tryPulls_123 126 rfl wd_325 ?_
                refine aw_goto dX11_tryPulls_126 158 rfl ?_
                exact aw_conv [1, 2, 3, 4, 5, 7] rfl (hj3 (-1) u7)
          · intro j2 hj2
            refine aw_icmp_ne dX11_tryPulls_108 111 rfl 115 rfl (fun h10 => ?_) (fun h10 => ?_)
            · refine aw_iconst (x := 0) dX11_tryPulls_115 116 rfl rfl ?_
              exact aw_conv [1, 2, 3, 4, 5, 6, 7, 8, 0] rfl (hj2 0 u6)
            · refine aw_iconst (x := 1) dX11_tryPulls_111 112 rfl rfl ?_
              refine aw_goto dX11_tryPulls_112 116 rfl ?_
              exact aw_conv [1, 2, 3, 4, 5, 6, 7, 8, 0] rfl (hj2 1 u6)
        · intro j1 hj1
          refine aw_if_eq dX11_tryPulls_70 73 rfl 86 rfl (fun h7 => ?_) (fun h7 => ?_)
          · refine aw_bipush (x := (-9)) dX11_tryPulls_86 88 rfl rfl ?_
            exact aw_conv [1, 2, 3, 4, 5, 6, 7, 0] rfl (hj1 (-9) u5)
          · refine aw_aload_n (i := 0) dX11_tryPulls_73 74 rfl rfl 1 rfl ?_
            refine aw_bipush (x := 6) dX11_tryPulls_74 76 rfl rfl ?_
            refine aw_iload_n (i := 2) dX11_tryPulls_76 77 rfl rfl 3 rfl ?_
            refine aw_callV (M2 := m_X11_level) (cv := q_cI) dX11_tryPulls_77 80 rfl (k_X11_level l G 6 x2  u5) wd_276 wv_X11_level pk_X11_level rfl rfl ⟨by decide, by decide⟩ ⟨Nat.zero_le _, Nat.zero_le _⟩ at_11 (ok_11 (by decide)) rfl rfl rfl (Nat.le_of_ble_eq_true rfl) (fun x12 u10 => ?_)
            show qAW l G m_X11_tryPulls (q_mq G q_cU) 80 [(8, .int x6), (0, .ref (q_ad G 11 0)), (1, .int x1), (2, .int x2), (3, .int x3), (4, .int x4), (5, .long w1), (7, .int x5)] [.int x12] u10 _
            refine aw_iload (i := 8) dX11_tryPulls_80 82 rfl 0 rfl ?_
            refine aw_isub dX11_tryPulls_82 83 rfl ?_
            refine aw_goto dX11_tryPulls_83 88 rfl ?_
            exact aw_conv [1, 2, 3, 4, 5, 6, 7, 0] rfl (hj1 (x12 - x6) u10)
set_option maxRecDepth 100000 in
set_option maxHeartbeats 4000000 in
theorem TL_X11_tryPulls_3 (l : Launch) (G : qG) (x1 : Int32) (x2 : Int32) (x3 : Int32)  (e1 : qM → Option (Unit × qM)) (he1 : ∀  (v : qM), qAW l G m_X11_tryPulls (q_mq G q_cU) 181 [(0, .ref (q_ad G 11 0))] [] v (e1 v)) : ∀ (n : Nat) (x4 : Int32) (u1 : qM), qAW l G m_X11_tryPulls (q_mq G q_cU) 3 [(0, .ref (q_ad G 11 0)), (1, .int x1), (2, .int x2), (3, .int x3), (4, .int x4)] [] u1 (L_X11_tryPulls_3 x1 x2 x3 n x4 u1 e1) := by
  intro n
  induction n with
  | zero => intros; exact aw_none
  | succ n ih =>
    intro x4 u1
    unfold L_X11_tryPulls_3
    refine aw_iload (i := 4) dX11_tryPulls_3 5 rfl 4 rfl ?_
    refine aw_bipush (x := 9) dX11_tryPulls_5 7 rfl rfl ?_
    refine aw_icmp_ge dX11_tryPulls_7 10 rfl 181 rfl (fun h1 => ?_) (fun h1 => ?_)
    · exact aw_conv [0] rfl (he1 u1)
    · refine aw_aload_n (i := 0) dX11_tryPulls_10 11 rfl rfl 0 rfl ?_
      refine aw_iload_n (i := 1) dX11_tryPulls_11 12 rfl rfl 1 rfl ?_
      refine aw_bipush (x := 6) dX11_tryPulls_12 14 rfl rfl ?_
      refine aw_callV (M2 := m_X11_bring) (cv := q_cU) dX11_tryPulls_14 17 rfl (k_X11_bring l G x1 6  u1) wd_307 wv_X11_bring pk_X11_bring rfl rfl ⟨by decide, by decide⟩ ⟨Nat.zero_le _, Nat.zero_le _⟩ at_11 (ok_11 (by decide)) rfl rfl rfl (Nat.le_of_ble_eq_true rfl) (fun _z u2 => ?_)
      show qAW l G m_X11_tryPulls (q_mq G q_cU) 17 [(0, .ref (q_ad G 11 0)), (1, .int x1), (2, .int x2), (3, .int x3), (4, .int x4)] [] u2 _
      refine aw_aload_n (i := 0) dX11_tryPulls_17 18 rfl rfl 0 rfl ?_
      refine gf_X11_17 dX11_tryPulls_18 21 rfl wd_256 (ok_11 (by decide)) ?_
      refine aw_bipush (x := 6) dX11_tryPulls_21 23 rfl rfl ?_
      refine aw_iload (i := 4) dX11_tryPulls_23 25 rfl 4 rfl ?_
      refine aw_iast dX11_tryPulls_25 26 rfl at_77 (al_77 _) (ok_77 (by decide)) (fun h2 => ?_)
      refine aw_ltm (fun u3 => ?_)
      refine aw_lconst (x := 0) dX11_tryPulls_26 27 rfl rfl ?_
      refine aw_lstore dX11_tryPulls_27 29 rfl [(5, .long 0), (0, .ref (q_ad G 11 0)), (1, .int x1), (2, .int x2), (3, .int x3), (4, .int x4)] (by decide) rfl ?_
      refine aw_iconst (x := 0) dX11_tryPulls_29 30 rfl rfl ?_
      refine aw_istore dX11_tryPulls_30 32 rfl [(7, .int 0), (5, .long 0), (0, .ref (q_ad G 11 0)), (1, .int x1), (2, .int x2), (3, .int x3), (4, .int x4)] (by decide) rfl ?_
      refine aw_conv [2, 3, 4, 5, 6, 1, 0] rfl (TL_X11_tryPulls_32 l G x1 x2 x3 x4  _ ?_ _ 0 0 u3)
      · intro w3 u11
        refine aw_aload_n (i := 0) dX11_tryPulls_166 167 rfl rfl 0 rfl ?_
        refine gf_X11_59 dX11_tryPulls_167 170 rfl wd_326 (ok_11 (by decide)) ?_
        refine aw_iload (i := 4) dX11_tryPulls_170 172 rfl 4 rfl ?_
        refine aw_lload (i := 5) dX11_tryPulls_172 174 rfl 5 rfl ?_
        refine aw_last dX11_tryPulls_174 175 rfl at_119 (al_119 _) (ok_119 (by decide)) (fun h14 => ?_)
        refine aw_ltm (fun u12 => ?_)
        refine aw_iincx (i := 4) dX11_tryPulls_175 178 rfl 4 rfl 1 rfl (fun x13 => [(4, .int x13), (0, .ref (q_ad G 11 0)), (1, .int x1), (2, .int x2), (3, .int x3), (5, .long w3)]) (by decide) (fun _ => rfl) (fun x13 => ?_)
        refine aw_goto dX11_tryPulls_178 3 rfl ?_
        exact aw_conv [1, 2, 3, 4, 0] rfl (ih x13 u12)
set_option maxRecDepth 100000 in
set_option maxHeartbeats 4000000 in
theorem k_X11_tryPulls (l : Launch) (G : qG) (x1 : Int32) (x2 : Int32) (x3 : Int32)  (u0 : qM) : qCt l G m_X11_tryPulls q_cU [.ref (q_ad G 11 0), .int x1, .int x2, .int x3] u0 (f_X11_tryPulls x1 x2 x3 u0) := by
  refine q_entry pk_X11_tryPulls (Nat.le_of_ble_eq_true rfl) ?_
  show qAW l G m_X11_tryPulls (q_mq G q_cU) 0 [(0, .ref (q_ad G 11 0)), (1, .int x1), (2, .int x2), (3, .int x3)] [] u0 (f_X11_tryPulls x1 x2 x3 u0)
  unfold f_X11_tryPulls
  refine aw_iconst (x := 1) dX11_tryPulls_0 1 rfl rfl ?_
  refine aw_istore dX11_tryPulls_1 3 rfl [(4, .int 1), (0, .ref (q_ad G 11 0)), (1, .int x1), (2, .int x2), (3, .int x3)] (by decide) rfl ?_
  refine aw_conv [1, 2, 3, 4, 0] rfl (TL_X11_tryPulls_3 l G x1 x2 x3  _ ?_ _ 1 u0)
  · intro u13
    refine aw_aload_n (i := 0) dX11_tryPulls_181 182 rfl rfl 0 rfl ?_
    refine gf_X11_14 dX11_tryPulls_182 185 rfl wd_250 (ok_11 (by decide)) ?_
    refine aw_bipush (x := 6) dX11_tryPulls_185 187 rfl rfl ?_
    refine aw_bipush (x := (-9)) dX11_tryPulls_187 189 rfl rfl ?_
    refine aw_iast dX11_tryPulls_189 190 rfl at_74 (al_74 _) (ok_74 (by decide)) (fun h15 => ?_)
    refine aw_ltm (fun u14 => ?_)
    exact aw_vret dX11_tryPulls_190 rfl
theorem dX11_askedFit_0 : decode cX11_askedFit 0 = .ok (.iload_n 1, 1) := by decide +kernel
theorem dX11_askedFit_1 : decode cX11_askedFit 1 = .ok (.invokestatic 186, 3) := by decide +kernel
theorem dX11_askedFit_4 : decode cX11_askedFit 4 = .ok (.ifCond .eq 10, 3) := by decide +kernel
theorem dX11_askedFit_7 : decode cX11_askedFit 7 = .ok (.iload_n 3, 1) := by decide +kernel
theorem dX11_askedFit_8 : decode cX11_askedFit 8 = .ok (.invokestatic 186, 3) := by decide +kernel
theorem dX11_askedFit_11 : decode cX11_askedFit 11 = .ok (.ifCond .ne 5, 3) := by decide +kernel
theorem dX11_askedFit_14 : decode cX11_askedFit 14 = .ok (.iconst (-1), 1) := by decide +kernel
theorem dX11_askedFit_15 : decode cX11_askedFit 15 = .ok (.ireturn, 1) := by decide +kernel
theorem dX11_askedFit_16 : decode cX11_askedFit 16 = .ok (.aload_n 0, 1) := by decide +kernel
theorem dX11_askedFit_17 : decode cX11_askedFit 17 = .ok (.getfield 38, 3) := by decide +kernel
theorem dX11_askedFit_20 : decode cX11_askedFit 20 = .ok (.iload_n 1, 1) := by decide +kernel
theorem dX11_askedFit_21 : decode cX11_askedFit 21 = .ok (.iaload, 1) := by decide +kernel
theorem dX11_askedFit_22 : decode cX11_askedFit 22 = .ok (.ifCond .lt 12, 3) := by decide +kernel
theorem dX11_askedFit_25 : decode cX11_askedFit 25 = .ok (.aload_n 0, 1) := by decide +kernel
theorem dX11_askedFit_26 : decode cX11_askedFit 26 = .ok (.getfield 17, 3) := by decide +kernel
theorem dX11_askedFit_29 : decode cX11_askedFit 29 = .ok (.iload_n 3, 1) := by decide +kernel
theorem dX11_askedFit_30 : decode cX11_askedFit 30 = .ok (.iaload, 1) := by decide +kernel
theorem dX11_askedFit_31 : decode cX11_askedFit 31 = .ok (.ifCond .ge 9, 3) := by decide +kernel
theorem dX11_askedFit_34 : decode cX11_askedFit 34 = .ok (.aload_n 0, 1) := by decide +kernel
theorem dX11_askedFit_35 : decode cX11_askedFit 35 = .ok (.iconst 1, 1) := by decide +kernel
theorem dX11_askedFit_36 : decode cX11_askedFit 36 = .ok (.invokevirtual 190, 3) := by decide +kernel
theorem dX11_askedFit_39 : decode cX11_askedFit 39 = .ok (.ireturn, 1) := by decide +kernel
theorem dX11_askedFit_40 : decode cX11_askedFit 40 = .ok (.aload_n 0, 1) := by decide +kernel
theorem dX11_askedFit_41 : decode cX11_askedFit 41 = .ok (.iload_n 1, 1) := by decide +kernel
theorem dX11_askedFit_42 : decode cX11_askedFit 42 = .ok (.iload_n 2, 1) := by decide +kernel
theorem dX11_askedFit_43 : decode cX11_askedFit 43 = .ok (.invokevirtual 226, 3) := by decide +kernel
theorem dX11_askedFit_46 : decode cX11_askedFit 46 = .ok (.ifCond .ne 11, 3) := by decide +kernel
theorem dX11_askedFit_49 : decode cX11_askedFit 49 = .ok (.aload_n 0, 1) := by decide +kernel
theorem dX11_askedFit_50 : decode cX11_askedFit 50 = .ok (.iconst 2, 1) := by decide +kernel
theorem dX11_askedFit_51 : decode cX11_askedFit 51 = .ok (.invokevirtual 190, 3) := by decide +kernel
theorem dX11_askedFit_54 : decode cX11_askedFit 54 = .ok (.goto 20, 3) := by decide +kernel
theorem dX11_askedFit_57 : decode cX11_askedFit 57 = .ok (.aload_n 0, 1) := by decide +kernel
theorem dX11_askedFit_58 : decode cX11_askedFit 58 = .ok (.iload_n 3, 1) := by decide +kernel
theorem dX11_askedFit_59 : decode cX11_askedFit 59 = .ok (.invokevirtual 199, 3) := by decide +kernel
theorem dX11_askedFit_62 : decode cX11_askedFit 62 = .ok (.ifCond .ne 11, 3) := by decide +kernel
theorem dX11_askedFit_65 : decode cX11_askedFit 65 = .ok (.aload_n 0, 1) := by decide +kernel
theorem dX11_askedFit_66 : decode cX11_askedFit 66 = .ok (.iconst 4, 1) := by decide +kernel
theorem dX11_askedFit_67 : decode cX11_askedFit 67 = .ok (.invokevirtual 190, 3) := by decide +kernel
theorem dX11_askedFit_70 : decode cX11_askedFit 70 = .ok (.goto 4, 3) := by decide +kernel
theorem dX11_askedFit_73 : decode cX11_askedFit 73 = .ok (.iconst 0, 1) := by decide +kernel
theorem dX11_askedFit_74 : decode cX11_askedFit 74 = .ok (.ireturn, 1) := by decide +kernel
noncomputable def f_X11_askedFit (x1 : Int32) (x2 : Int32) (x3 : Int32) (u0 : qM) : Option (Int32 × qM) :=
  q_bd (f_X11_isSix x1 u0) (fun (x4 : Int32) (u1 : qM) => q_jn (fun  (u2 : qM) => some ((-1), u2)) (fun j1 => if x4 = 0 then j1 u1 else q_bd (f_X11_isSix x3 u1) (fun (x5 : Int32) (u3 : qM) => if x5 = 0 then j1 u3 else q_ck (q_in x1 8) (q_jn (fun  (u4 : qM) => q_bd (f_X11_meets 1 u4) (fun (x6 : Int32) (u5 : qM) => some (x6, u5))) (fun j2 => if (u3.1 74 0 (Int32.toNatClampNeg x1)) < 0 then j2 u3 else q_ck (q_in x3 6) (if (0 : Int32) ≤ (u3.1 66 0 (Int32.toNatClampNeg x3)) then q_bd (f_X11_isCell x1 x2 u3) (fun (x7 : Int32) (u6 : qM) => q_jn (fun (x8 : Int32) (u7 : qM) => some (x8, u7)) (fun j3 => if x7 = 0 then q_bd (f_X11_meets 2 u6) (fun (x11 : Int32) (u10 : qM) => j3 x11 u10) else q_bd (f_X11_countOf x3 u6) (fun (x9 : Int32) (u8 : qM) => if x9 = 0 then q_bd (f_X11_meets 4 u8) (fun (x10 : Int32) (u9 : qM) => j3 x10 u9) else j3 0 u8))) else j2 u3))))))
set_option maxRecDepth 100000 in
set_option maxHeartbeats 4000000 in
theorem k_X11_askedFit (l : Launch) (G : qG) (x1 : Int32) (x2 : Int32) (x3 : Int32)  (u0 : qM) : qCt l G m_X11_askedFit q_cI [.ref (q_ad G 11 0), .int x1, .int x2, .int x3] u0 (f_X11_askedFit x1 x2 x3 u0) := by
  refine q_entry pk_X11_askedFit (Nat.le_of_ble_eq_true rfl) ?_
  show qAW l G m_X11_askedFit (q_mq G q_cI) 0 [(0, .ref (q_ad G 11 0)), (1, .int x1), (2, .int x2), (3, .int x3)] [] u0 (f_X11_askedFit x1 x2 x3 u0)
  unfold f_X11_askedFit
  refine aw_iload_n (i := 1) dX11_askedFit_0 1 rfl rfl 1 rfl ?_
  refine aw_callS (M2 := m_X11_isSix) (cv := q_cI) dX11_askedFit_1 4 rfl (k_X11_isSix l G x1  u0) wd_227 wv_X11_isSix pk_X11_isSix rfl ⟨by decide, by decide⟩ ⟨Nat.zero_le _, Nat.zero_le _⟩ rfl (Nat.le_of_ble_eq_true rfl) (fun x4 u1 => ?_)
  show qAW l G m_X11_askedFit (q_mq G q_cI) 4 [(0, .ref (q_ad G 11 0)), (1, .int x1), (2, .int x2), (3, .int x3)] [.int x4] u1 _
  refine aw_jn (fun k => ∀  (u2 : qM), qAW l G m_X11_askedFit (q_mq G q_cI) 14 [] [] u2 (k u2)) ?_ ?_
  · intro u2
    refine aw_iconst (x := (-1)) dX11_askedFit_14 15 rfl rfl ?_
    exact aw_iret dX11_askedFit_15 rfl
  · intro j1 hj1
    refine aw_if_eq dX11_askedFit_4 7 rfl 14 rfl (fun h1 => ?_) (fun h1 => ?_)
    · exact aw_conv [] rfl (hj1 u1)
    · refine aw_iload_n (i := 3) dX11_askedFit_7 8 rfl rfl 3 rfl ?_
      refine aw_callS (M2 := m_X11_isSix) (cv := q_cI) dX11_askedFit_8 11 rfl (k_X11_isSix l G x3  u1) wd_227 wv_X11_isSix pk_X11_isSix rfl ⟨by decide, by decide⟩ ⟨Nat.zero_le _, Nat.zero_le _⟩ rfl (Nat.le_of_ble_eq_true rfl) (fun x5 u3 => ?_)
      show qAW l G m_X11_askedFit (q_mq G q_cI) 11 [(0, .ref (q_ad G 11 0)), (1, .int x1), (2, .int x2), (3, .int x3)] [.int x5] u3 _
      refine aw_if_ne dX11_askedFit_11 14 rfl 16 rfl (fun h2 => ?_) (fun h2 => ?_)
      · refine aw_aload_n (i := 0) dX11_askedFit_16 17 rfl rfl 0 rfl ?_
        refine gf_X11_14 dX11_askedFit_17 20 rfl wd_250 (ok_11 (by decide)) ?_
        refine aw_iload_n (i := 1) dX11_askedFit_20 21 rfl rfl 1 rfl ?_
        refine aw_iald dX11_askedFit_21 22 rfl at_74 (al_74 _) (ok_74 (by decide)) (fun h3 => ?_)
        refine aw_jn (fun k => ∀  (u4 : qM), qAW l G m_X11_askedFit (q_mq G q_cI) 34 [(0, .ref (q_ad G 11 0))] [] u4 (k u4)) ?_ ?_
        · intro u4
          refine aw_aload_n (i := 0) dX11_askedFit_34 35 rfl rfl 0 rfl ?_
          refine aw_iconst (x := 1) dX11_askedFit_35 36 rfl rfl ?_
          refine aw_callV (M2 := m_X11_meets) (cv := q_cI) dX11_askedFit_36 39 rfl (k_X11_meets l G 1  u4) wd_229 wv_X11_meets pk_X11_meets rfl rfl ⟨by decide, by decide⟩ ⟨Nat.zero_le _, Nat.zero_le _⟩ at_11 (ok_11 (by decide)) rfl rfl rfl (Nat.le_of_ble_eq_true rfl) (fun x6 u5 => ?_)
          show qAW l G m_X11_askedFit (q_mq G q_cI) 39 [(0, .ref (q_ad G 11 0))] [.int x6] u5 _
          exact aw_iret dX11_askedFit_39 rfl
        · intro j2 hj2
          refine aw_if_lt dX11_askedFit_22 25 rfl 34 rfl (fun h4 => ?_) (fun h4 => ?_)
          · exact aw_conv [0] rfl (hj2 u3)
          · refine aw_aload_n (i := 0) dX11_askedFit_25 26 rfl rfl 0 rfl ?_
            refine gf_X11_6 dX11_askedFit_26 29 rfl wd_228 (ok_11 (by decide)) ?_
            refine aw_iload_n (i := 3) dX11_askedFit_29 30 rfl rfl 3 rfl ?_
            refine aw_iald dX11_askedFit_30 31 rfl at_66 (al_66 _) (ok_66 (by decide)) (fun h5 => ?_)
            refine aw_if_ge dX11_askedFit_31 34 rfl 40 rfl (fun h6 => ?_) (fun h6 => ?_)
            · refine aw_aload_n (i := 0) dX11_askedFit_40 41 rfl rfl 0 rfl ?_
              refine aw_iload_n (i := 1) dX11_askedFit_41 42 rfl rfl 1 rfl ?_
              refine aw_iload_n (i := 2) dX11_askedFit_42 43 rfl rfl 2 rfl ?_
              refine aw_callV (M2 := m_X11_isCell) (cv := q_cI) dX11_askedFit_43 46 rfl (k_X11_isCell l G x1 x2  u3) wd_252 wv_X11_isCell pk_X11_isCell rfl rfl ⟨by decide, by decide⟩ ⟨Nat.zero_le _, Nat.zero_le _⟩ at_11 (ok_11 (by decide)) rfl rfl rfl (Nat.le_of_ble_eq_true rfl) (fun x7 u6 => ?_)
              show qAW l G m_X11_askedFit (q_mq G q_cI) 46 [(0, .ref (q_ad G 11 0)), (1, .int x1), (2, .int x2), (3, .int x3)] [.int x7] u6 _
              refine aw_jn (fun k => ∀ (x8 : Int32) (u7 : qM), qAW l G m_X11_askedFit (q_mq G q_cI) 74 [] [.int x8] u7 (k x8 u7)) ?_ ?_
              · intro x8 u7
                exact aw_iret dX11_askedFit_74 rfl
              · intro j3 hj3
                refine aw_if_ne dX11_askedFit_46 49 rfl 57 rfl (fun h7 => ?_) (fun h7 => ?_)
                · refine aw_aload_n (i := 0) dX11_askedFit_57 58 rfl rfl 0 rfl ?_
                  refine aw_iload_n (i := 3) dX11_askedFit_58 59 rfl rfl 3 rfl ?_
                  refine aw_callV (M2 := m_X11_countOf) (cv := q_cI) dX11_askedFit_59 62 rfl (k_X11_countOf l G x3  u6) wd_235 wv_X11_countOf pk_X11_countOf rfl rfl ⟨by decide, by decide⟩ ⟨Nat.zero_le _, Nat.zero_le _⟩ at_11 (ok_11 (by decide)) rfl rfl rfl (Nat.le_of_ble_eq_true rfl) (fun x9 u8 => ?_)
                  show qAW l G m_X11_askedFit (q_mq G q_cI) 62 [(0, .ref (q_ad G 11 0)), (1, .int x1), (2, .int x2), (3, .int x3)] [.int x9] u8 _
                  refine aw_if_ne dX11_askedFit_62 65 rfl 73 rfl (fun h8 => ?_) (fun h8 => ?_)
                  · refine aw_iconst (x := 0) dX11_askedFit_73 74 rfl rfl ?_
                    exact aw_conv [] rfl (hj3 0 u8)
                  · refine aw_aload_n (i := 0) dX11_askedFit_65 66 rfl rfl 0 rfl ?_
                    refine aw_iconst (x := 4) dX11_askedFit_66 67 rfl rfl ?_
                    refine aw_callV (M2 := m_X11_meets) (cv := q_cI) dX11_askedFit_67 70 rfl (k_X11_meets l G 4  u8) wd_229 wv_X11_meets pk_X11_meets rfl rfl ⟨by decide, by decide⟩ ⟨Nat.zero_le _, Nat.zero_le _⟩ at_11 (ok_11 (by decide)) rfl rfl rfl (Nat.le_of_ble_eq_true rfl) (fun x10 u9 => ?_)
                    show qAW l G m_X11_askedFit (q_mq G q_cI) 70 [(0, .ref (q_ad G 11 0)), (1, .int x1), (2, .int x2), (3, .int x3)] [.int x10] u9 _
                    refine aw_goto dX11_askedFit_70 74 rfl ?_
                    exact aw_conv [] rfl (hj3 x10 u9)
                · refine aw_aload_n (i := 0) dX11_askedFit_49 50 rfl rfl 0 rfl ?_
                  refine aw_iconst (x := 2) dX11_askedFit_50 51 rfl rfl ?_
                  refine aw_callV (M2 := m_X11_meets) (cv := q_cI) dX11_askedFit_51 54 rfl (k_X11_meets l G 2  u6) wd_229 wv_X11_meets pk_X11_meets rfl rfl ⟨by decide, by decide⟩ ⟨Nat.zero_le _, Nat.zero_le _⟩ at_11 (ok_11 (by decide)) rfl rfl rfl (Nat.le_of_ble_eq_true rfl) (fun x11 u10 => ?_)
                  show qAW l G m_X11_askedFit (q_mq G q_cI) 54 [(0, .ref (q_ad G 11 0)), (1, .int x1), (2, .int x2), (3, .int x3)] [.int x11] u10 _
                  refine aw_goto dX11_askedFit_54 74 rfl ?_
                  exact aw_conv [] rfl (hj3 x11 u10)
            · exact aw_conv [0] rfl (hj2 u3)
      · exact aw_conv [] rfl (hj1 u3)
theorem dX11_bestPull_0 : decode cX11_bestPull 0 = .ok (.bipush (-9), 2) := by decide +kernel
theorem dX11_bestPull_2 : decode cX11_bestPull 2 = .ok (.istore_n 1, 1) := by decide +kernel
theorem dX11_bestPull_3 : decode cX11_bestPull 3 = .ok (.iconst 1, 1) := by decide +kernel
theorem dX11_bestPull_4 : decode cX11_bestPull 4 = .ok (.istore_n 2, 1) := by decide +kernel
theorem dX11_bestPull_5 : decode cX11_bestPull 5 = .ok (.iload_n 2, 1) := by decide +kernel
theorem dX11_bestPull_6 : decode cX11_bestPull 6 = .ok (.bipush 9, 2) := by decide +kernel
theorem dX11_bestPull_8 : decode cX11_bestPull 8 = .ok (.if_icmp .ge 46, 3) := by decide +kernel
theorem dX11_bestPull_11 : decode cX11_bestPull 11 = .ok (.aload_n 0, 1) := by decide +kernel
theorem dX11_bestPull_12 : decode cX11_bestPull 12 = .ok (.getfield 159, 3) := by decide +kernel
theorem dX11_bestPull_15 : decode cX11_bestPull 15 = .ok (.iload_n 2, 1) := by decide +kernel
theorem dX11_bestPull_16 : decode cX11_bestPull 16 = .ok (.laload, 1) := by decide +kernel
theorem dX11_bestPull_17 : decode cX11_bestPull 17 = .ok (.lconst 0, 1) := by decide +kernel
theorem dX11_bestPull_18 : decode cX11_bestPull 18 = .ok (.lcmp, 1) := by decide +kernel
theorem dX11_bestPull_19 : decode cX11_bestPull 19 = .ok (.ifCond .lt 27, 3) := by decide +kernel
theorem dX11_bestPull_22 : decode cX11_bestPull 22 = .ok (.iload_n 1, 1) := by decide +kernel
theorem dX11_bestPull_23 : decode cX11_bestPull 23 = .ok (.ifCond .lt 19, 3) := by decide +kernel
theorem dX11_bestPull_26 : decode cX11_bestPull 26 = .ok (.aload_n 0, 1) := by decide +kernel
theorem dX11_bestPull_27 : decode cX11_bestPull 27 = .ok (.getfield 159, 3) := by decide +kernel
theorem dX11_bestPull_30 : decode cX11_bestPull 30 = .ok (.iload_n 2, 1) := by decide +kernel
theorem dX11_bestPull_31 : decode cX11_bestPull 31 = .ok (.laload, 1) := by decide +kernel
theorem dX11_bestPull_32 : decode cX11_bestPull 32 = .ok (.aload_n 0, 1) := by decide +kernel
theorem dX11_bestPull_33 : decode cX11_bestPull 33 = .ok (.getfield 159, 3) := by decide +kernel
theorem dX11_bestPull_36 : decode cX11_bestPull 36 = .ok (.iload_n 1, 1) := by decide +kernel
theorem dX11_bestPull_37 : decode cX11_bestPull 37 = .ok (.laload, 1) := by decide +kernel
theorem dX11_bestPull_38 : decode cX11_bestPull 38 = .ok (.lcmp, 1) := by decide +kernel
theorem dX11_bestPull_39 : decode cX11_bestPull 39 = .ok (.ifCond .ge 7, 3) := by decide +kernel
theorem dX11_bestPull_42 : decode cX11_bestPull 42 = .ok (.iload_n 2, 1) := by decide +kernel
theorem dX11_bestPull_43 : decode cX11_bestPull 43 = .ok (.goto 4, 3) := by decide +kernel
theorem dX11_bestPull_46 : decode cX11_bestPull 46 = .ok (.iload_n 1, 1) := by decide +kernel
theorem dX11_bestPull_47 : decode cX11_bestPull 47 = .ok (.istore_n 1, 1) := by decide +kernel
theorem dX11_bestPull_48 : decode cX11_bestPull 48 = .ok (.iinc 2 1, 3) := by decide +kernel
theorem dX11_bestPull_51 : decode cX11_bestPull 51 = .ok (.goto (-46), 3) := by decide +kernel
theorem dX11_bestPull_54 : decode cX11_bestPull 54 = .ok (.iload_n 1, 1) := by decide +kernel
theorem dX11_bestPull_55 : decode cX11_bestPull 55 = .ok (.ireturn, 1) := by decide +kernel
noncomputable def L_X11_bestPull_5  : Nat → Int32 → Int32 → qM → (Int32 → qM → Option (Int32 × qM)) → Option (Int32 × qM)
  | 0, _, _, _, _ => none
  | n + 1, x1, x2, u1, e1 => if 9 ≤ x2 then e1 x1 u1 else q_ck (q_in x2 9) (q_jn (fun (x3 : Int32) (u2 : qM) => q_lt (x2 + 1) (fun (x4 : Int32) => L_X11_bestPull_5 n x3 x4 u2 e1)) (fun j1 => q_jn (fun  (u3 : qM) => j1 x1 u3) (fun j2 => if (lg_cmp (u1.2.1 119 0 (Int32.toNatClampNeg x2)) 0) < 0 then j2 u1 else q_jn (fun  (u4 : qM) => j1 x2 u4) (fun j3 => if x1 < 0 then j3 u1 else q_ck (q_in x2 9) (q_ck (q_in x1 9) (if (0 : Int32) ≤ (lg_cmp (u1.2.1 119 0 (Int32.toNatClampNeg x2)) (u1.2.1 119 0 (Int32.toNatClampNeg x1))) then j2 u1 else j3 u1))))))
noncomputable def f_X11_bestPull  (u0 : qM) : Option (Int32 × qM) :=
  L_X11_bestPull_5 q_fu (-9) 1 u0 (fun x5 u5 => some (x5, u5))
set_option maxRecDepth 100000 in
set_option maxHeartbeats 4000000 in
theorem TL_X11_bestPull_5 (l : Launch) (G : qG)   (e1 : Int32 → qM → Option (Int32 × qM)) (he1 : ∀ (y1 : Int32) (v : qM), qAW l G m_X11_bestPull (q_mq G q_cI) 54 [(1, .int y1)] [] v (e1 y1 v)) : ∀ (n : Nat) (x1 : Int32) (x2 : Int32) (u1 : qM), qAW l G m_X11_bestPull (q_mq G q_cI) 5 [(0, .ref (q_ad G 11 0)), (1, .int x1), (2, .int x2)] [] u1 (L_X11_bestPull_5 n x1 x2 u1 e1) := by
  intro n
  induction n with
  | zero => intros; exact aw_none
  | succ n ih =>
    intro x1 x2 u1
    unfold L_X11_bestPull_5
    refine aw_iload_n (i := 2) dX11_bestPull_5 6 rfl rfl 2 rfl ?_
    refine aw_bipush (x := 9) dX11_bestPull_6 8 rfl rfl ?_
    refine aw_icmp_ge dX11_bestPull_8 11 rfl 54 rfl (fun h1 => ?_) (fun h1 => ?_)
    · exact aw_conv [1] rfl (he1 x1 u1)
    · refine aw_aload_n (i := 0) dX11_bestPull_11 12 rfl rfl 0 rfl ?_
      refine gf_X11_59 dX11_bestPull_12 15 rfl wd_326 (ok_11 (by decide)) ?_
      refine aw_iload_n (i := 2) dX11_bestPull_15 16 rfl rfl 2 rfl ?_
      refine aw_lald dX11_bestPull_16 17 rfl at_119 (al_119 _) (ok_119 (by decide)) (fun h2 => ?_)
      refine aw_lconst (x := 0) dX11_bestPull_17 18 rfl rfl ?_
      refine aw_lcmp dX11_bestPull_18 19 rfl ?_
      refine aw_jn (fun k => ∀ (x3 : Int32) (u2 : qM), qAW l G m_X11_bestPull (q_mq G q_cI) 47 [(0, .ref (q_ad G 11 0)), (2, .int x2)] [.int x3] u2 (k x3 u2)) ?_ ?_
      · intro x3 u2
        refine aw_istore_n dX11_bestPull_47 48 rfl rfl [(1, .int x3), (0, .ref (q_ad G 11 0)), (2, .int x2)] (by decide) rfl ?_
        refine aw_iincx (i := 2) dX11_bestPull_48 51 rfl 2 rfl 1 rfl (fun x4 => [(2, .int x4), (1, .int x3), (0, .ref (q_ad G 11 0))]) (by decide) (fun _ => rfl) (fun x4 => ?_)
        refine aw_goto dX11_bestPull_51 5 rfl ?_
        exact aw_conv [2, 1, 0] rfl (ih x3 x4 u2)
      · intro j1 hj1
        refine aw_jn (fun k => ∀  (u3 : qM), qAW l G m_X11_bestPull (q_mq G q_cI) 46 [(0, .ref (q_ad G 11 0)), (1, .int x1), (2, .int x2)] [] u3 (k u3)) ?_ ?_
        · intro u3
          refine aw_iload_n (i := 1) dX11_bestPull_46 47 rfl rfl 1 rfl ?_
          exact aw_conv [0, 2] rfl (hj1 x1 u3)
        · intro j2 hj2
          refine aw_if_lt dX11_bestPull_19 22 rfl 46 rfl (fun h3 => ?_) (fun h3 => ?_)
          · exact hj2 u1
          · refine aw_iload_n (i := 1) dX11_bestPull_22 23 rfl rfl 1 rfl ?_
            refine aw_jn (fun k => ∀  (u4 : qM), qAW l G m_X11_bestPull (q_mq G q_cI) 42 [(0, .ref (q_ad G 11 0)), (2, .int x2)] [] u4 (k u4)) ?_ ?_
            · intro u4
              refine aw_iload_n (i := 2) dX11_bestPull_42 43 rfl rfl 1 rfl ?_
              refine aw_goto dX11_bestPull_43 47 rfl ?_
              exact hj1 x2 u4
            · intro j3 hj3
              refine aw_if_lt dX11_bestPull_23 26 rfl 42 rfl (fun h4 => ?_) (fun h4 => ?_)
              · exact aw_conv [0, 2] rfl (hj3 u1)
              · refine aw_aload_n (i := 0) dX11_bestPull_26 27 rfl rfl 0 rfl ?_
                refine gf_X11_59 dX11_bestPull_27 30 rfl wd_326 (ok_11 (by decide)) ?_
                refine aw_iload_n (i := 2) dX11_bestPull_30 31 rfl rfl 2 rfl ?_
                refine aw_lald dX11_bestPull_31 32 rfl at_119 (al_119 _) (ok_119 (by decide)) (fun h5 => ?_)
                refine aw_aload_n (i := 0) dX11_bestPull_32 33 rfl rfl 0 rfl ?_
                refine gf_X11_59 dX11_bestPull_33 36 rfl wd_326 (ok_11 (by decide)) ?_
                refine aw_iload_n (i := 1) dX11_bestPull_36 37 rfl rfl 1 rfl ?_
                refine aw_lald dX11_bestPull_37 38 rfl at_119 (al_119 _) (ok_119 (by decide)) (fun h6 => ?_)
                refine aw_lcmp dX11_bestPull_38 39 rfl ?_
                refine aw_if_ge dX11_bestPull_39 42 rfl 46 rfl (fun h7 => ?_) (fun h7 => ?_)
                · exact hj2 u1
                · exact aw_conv [0, 2] rfl (hj3 u1)
set_option maxRecDepth 100000 in
set_option maxHeartbeats 4000000 in
theorem k_X11_bestPull (l : Launch) (G : qG)   (u0 : qM) : qCt l G m_X11_bestPull q_cI [.ref (q_ad G 11 0)] u0 (f_X11_bestPull  u0) := by
  refine q_entry pk_X11_bestPull (Nat.le_of_ble_eq_true rfl) ?_
  show qAW l G m_X11_bestPull (q_mq G q_cI) 0 [(0, .ref (q_ad G 11 0))] [] u0 (f_X11_bestPull  u0)
  unfold f_X11_bestPull
  refine aw_bipush (x := (-9)) dX11_bestPull_0 2 rfl rfl ?_
  refine aw_istore_n dX11_bestPull_2 3 rfl rfl [(1, .int (-9)), (0, .ref (q_ad G 11 0))] (by decide) rfl ?_
  refine aw_iconst (x := 1) dX11_bestPull_3 4 rfl rfl ?_
  refine aw_istore_n dX11_bestPull_4 5 rfl rfl [(2, .int 1), (1, .int (-9)), (0, .ref (q_ad G 11 0))] (by decide) rfl ?_
  refine aw_conv [2, 1, 0] rfl (TL_X11_bestPull_5 l G   _ ?_ _ (-9) 1 u0)
  · intro x5 u5
    refine aw_iload_n (i := 1) dX11_bestPull_54 55 rfl rfl 0 rfl ?_
    exact aw_iret dX11_bestPull_55 rfl
theorem dX11_fit_0 : decode cX11_fit 0 = .ok (.aload_n 0, 1) := by decide +kernel
theorem dX11_fit_1 : decode cX11_fit 1 = .ok (.iload_n 1, 1) := by decide +kernel
theorem dX11_fit_2 : decode cX11_fit 2 = .ok (.iload_n 2, 1) := by decide +kernel
theorem dX11_fit_3 : decode cX11_fit 3 = .ok (.iload_n 3, 1) := by decide +kernel
theorem dX11_fit_4 : decode cX11_fit 4 = .ok (.invokevirtual 348, 3) := by decide +kernel
theorem dX11_fit_7 : decode cX11_fit 7 = .ok (.istore 4, 2) := by decide +kernel
theorem dX11_fit_9 : decode cX11_fit 9 = .ok (.iload 4, 2) := by decide +kernel
theorem dX11_fit_11 : decode cX11_fit 11 = .ok (.ifCond .ge 6, 3) := by decide +kernel
theorem dX11_fit_14 : decode cX11_fit 14 = .ok (.iload 4, 2) := by decide +kernel
theorem dX11_fit_16 : decode cX11_fit 16 = .ok (.ireturn, 1) := by decide +kernel
theorem dX11_fit_17 : decode cX11_fit 17 = .ok (.aload_n 0, 1) := by decide +kernel
theorem dX11_fit_18 : decode cX11_fit 18 = .ok (.iload_n 1, 1) := by decide +kernel
theorem dX11_fit_19 : decode cX11_fit 19 = .ok (.iload_n 2, 1) := by decide +kernel
theorem dX11_fit_20 : decode cX11_fit 20 = .ok (.iload_n 3, 1) := by decide +kernel
theorem dX11_fit_21 : decode cX11_fit 21 = .ok (.invokevirtual 351, 3) := by decide +kernel
theorem dX11_fit_24 : decode cX11_fit 24 = .ok (.aload_n 0, 1) := by decide +kernel
theorem dX11_fit_25 : decode cX11_fit 25 = .ok (.invokevirtual 355, 3) := by decide +kernel
theorem dX11_fit_28 : decode cX11_fit 28 = .ok (.istore 5, 2) := by decide +kernel
theorem dX11_fit_30 : decode cX11_fit 30 = .ok (.iload 5, 2) := by decide +kernel
theorem dX11_fit_32 : decode cX11_fit 32 = .ok (.ifCond .ge 8, 3) := by decide +kernel
theorem dX11_fit_35 : decode cX11_fit 35 = .ok (.bipush (-9), 2) := by decide +kernel
theorem dX11_fit_37 : decode cX11_fit 37 = .ok (.goto 17, 3) := by decide +kernel
theorem dX11_fit_40 : decode cX11_fit 40 = .ok (.aload_n 0, 1) := by decide +kernel
theorem dX11_fit_41 : decode cX11_fit 41 = .ok (.aload_n 0, 1) := by decide +kernel
theorem dX11_fit_42 : decode cX11_fit 42 = .ok (.getfield 159, 3) := by decide +kernel
theorem dX11_fit_45 : decode cX11_fit 45 = .ok (.iload 5, 2) := by decide +kernel
theorem dX11_fit_47 : decode cX11_fit 47 = .ok (.laload, 1) := by decide +kernel
theorem dX11_fit_48 : decode cX11_fit 48 = .ok (.l2i, 1) := by decide +kernel
theorem dX11_fit_49 : decode cX11_fit 49 = .ok (.iload 5, 2) := by decide +kernel
theorem dX11_fit_51 : decode cX11_fit 51 = .ok (.invokevirtual 202, 3) := by decide +kernel
theorem dX11_fit_54 : decode cX11_fit 54 = .ok (.ireturn, 1) := by decide +kernel
noncomputable def f_X11_fit (x1 : Int32) (x2 : Int32) (x3 : Int32) (u0 : qM) : Option (Int32 × qM) :=
  q_bd (f_X11_askedFit x1 x2 x3 u0) (fun (x4 : Int32) (u1 : qM) => if (0 : Int32) ≤ x4 then q_bd (f_X11_tryPulls x1 x2 x3 u1) (fun (_z : Unit) (u2 : qM) => q_bd (f_X11_bestPull  u2) (fun (x5 : Int32) (u3 : qM) => q_jn (fun (x6 : Int32) (u4 : qM) => some (x6, u4)) (fun j1 => if (0 : Int32) ≤ x5 then q_ck (q_in x5 9) (q_bd (f_X11_ask (Int64.toInt32 (u3.2.1 119 0 (Int32.toNatClampNeg x5))) x5 u3) (fun (x7 : Int32) (u5 : qM) => j1 x7 u5)) else j1 (-9) u3))) else some (x4, u1))
set_option maxRecDepth 100000 in
set_option maxHeartbeats 4000000 in
theorem k_X11_fit (l : Launch) (G : qG) (x1 : Int32) (x2 : Int32) (x3 : Int32)  (u0 : qM) : qCt l G m_X11_fit q_cI [.ref (q_ad G 11 0), .int x1, .int x2, .int x3] u0 (f_X11_fit x1 x2 x3 u0) := by
  refine q_entry pk_X11_fit (Nat.le_of_ble_eq_true rfl) ?_
  show qAW l G m_X11_fit (q_mq G q_cI) 0 [(0, .ref (q_ad G 11 0)), (1, .int x1), (2, .int x2), (3, .int x3)] [] u0 (f_X11_fit x1 x2 x3 u0)
  unfold f_X11_fit
  refine aw_aload_n (i := 0) dX11_fit_0 1 rfl rfl 0 rfl ?_
  refine aw_iload_n (i := 1) dX11_fit_1 2 rfl rfl 1 rfl ?_
  refine aw_iload_n (i := 2) dX11_fit_2 3 rfl rfl 2 rfl ?_
  refine aw_iload_n (i := 3) dX11_fit_3 4 rfl rfl 3 rfl ?_
  refine aw_callV (M2 := m_X11_askedFit) (cv := q_cI) dX11_fit_4 7 rfl (k_X11_askedFit l G x1 x2 x3  u0) wd_327 wv_X11_askedFit pk_X11_askedFit rfl rfl ⟨by decide, by decide⟩ ⟨Nat.zero_le _, Nat.zero_le _⟩ at_11 (ok_11 (by decide)) rfl rfl rfl (Nat.le_of_ble_eq_true rfl) (fun x4 u1 => ?_)
  show qAW l G m_X11_fit (q_mq G q_cI) 7 [(0, .ref (q_ad G 11 0)), (1, .int x1), (2, .int x2), (3, .int x3)] [.int x4] u1 _
  refine aw_istore dX11_fit_7 9 rfl [(4, .int x4), (0, .ref (q_ad G 11 0)), (1, .int x1), (2, .int x2), (3, .int x3)] (by decide) rfl ?_
  refine aw_iload (i := 4) dX11_fit_9 11 rfl 0 rfl ?_
  refine aw_if_ge dX11_fit_11 14 rfl 17 rfl (fun h1 => ?_) (fun h1 => ?_)
  · refine aw_aload_n (i := 0) dX11_fit_17 18 rfl rfl 1 rfl ?_
    refine aw_iload_n (i := 1) dX11_fit_18 19 rfl rfl 2 rfl ?_
    refine aw_iload_n (i := 2) dX11_fit_19 20 rfl rfl 3 rfl ?_
    refine aw_iload_n (i := 3) dX11_fit_20 21 rfl rfl 4 rfl ?_
    refine aw_callV (M2 := m_X11_tryPulls) (cv := q_cU) dX11_fit_21 24 rfl (k_X11_tryPulls l G x1 x2 x3  u1) wd_328 wv_X11_tryPulls pk_X11_tryPulls rfl rfl ⟨by decide, by decide⟩ ⟨Nat.zero_le _, Nat.zero_le _⟩ at_11 (ok_11 (by decide)) rfl rfl rfl (Nat.le_of_ble_eq_true rfl) (fun _z u2 => ?_)
    show qAW l G m_X11_fit (q_mq G q_cI) 24 [(4, .int x4), (0, .ref (q_ad G 11 0)), (1, .int x1), (2, .int x2), (3, .int x3)] [] u2 _
    refine aw_aload_n (i := 0) dX11_fit_24 25 rfl rfl 1 rfl ?_
    refine aw_callV (M2 := m_X11_bestPull) (cv := q_cI) dX11_fit_25 28 rfl (k_X11_bestPull l G   u2) wd_329 wv_X11_bestPull pk_X11_bestPull rfl rfl ⟨by decide, by decide⟩ ⟨Nat.zero_le _, Nat.zero_le _⟩ at_11 (ok_11 (by decide)) rfl rfl rfl (Nat.le_of_ble_eq_true rfl) (fun x5 u3 => ?_)
    show qAW l G m_X11_fit (q_mq G q_cI) 28 [(4, .int x4), (0, .ref (q_ad G 11 0)), (1, .int x1), (2, .int x2), (3, .int x3)] [.int x5] u3 _
    refine aw_istore dX11_fit_28 30 rfl [(5, .int x5), (4, .int x4), (0, .ref (q_ad G 11 0)), (1, .int x1), (2, .int x2), (3, .int x3)] (by decide) rfl ?_
    refine aw_iload (i := 5) dX11_fit_30 32 rfl 0 rfl ?_
    refine aw_jn (fun k => ∀ (x6 : Int32) (u4 : qM), qAW l G m_X11_fit (q_mq G q_cI) 54 [] [.int x6] u4 (k x6 u4)) ?_ ?_
    · intro x6 u4
      exact aw_iret dX11_fit_54 rfl
    · intro j1 hj1
      refine aw_if_ge dX11_fit_32 35 rfl 40 rfl (fun h2 => ?_) (fun h2 => ?_)
      · refine aw_aload_n (i := 0) dX11_fit_40 41 rfl rfl 2 rfl ?_
        refine aw_aload_n (i := 0) dX11_fit_41 42 rfl rfl 2 rfl ?_
        refine gf_X11_59 dX11_fit_42 45 rfl wd_326 (ok_11 (by decide)) ?_
        refine aw_iload (i := 5) dX11_fit_45 47 rfl 0 rfl ?_
        refine aw_lald dX11_fit_47 48 rfl at_119 (al_119 _) (ok_119 (by decide)) (fun h3 => ?_)
        refine aw_l2i dX11_fit_48 49 rfl ?_
        refine aw_iload (i := 5) dX11_fit_49 51 rfl 0 rfl ?_
        refine aw_callV (M2 := m_X11_ask) (cv := q_cI) dX11_fit_51 54 rfl (k_X11_ask l G (Int64.toInt32 (u3.2.1 119 0 (Int32.toNatClampNeg x5))) x5  u3) wd_236 wv_X11_ask pk_X11_ask rfl rfl ⟨by decide, by decide⟩ ⟨Nat.zero_le _, Nat.zero_le _⟩ at_11 (ok_11 (by decide)) rfl rfl rfl (Nat.le_of_ble_eq_true rfl) (fun x7 u5 => ?_)
        show qAW l G m_X11_fit (q_mq G q_cI) 54 [(5, .int x5), (4, .int x4), (0, .ref (q_ad G 11 0)), (1, .int x1), (2, .int x2), (3, .int x3)] [.int x7] u5 _
        exact aw_conv [] rfl (hj1 x7 u5)
      · refine aw_bipush (x := (-9)) dX11_fit_35 37 rfl rfl ?_
        refine aw_goto dX11_fit_37 54 rfl ?_
        exact aw_conv [] rfl (hj1 (-9) u3)
  · refine aw_iload (i := 4) dX11_fit_14 16 rfl 0 rfl ?_
    exact aw_iret dX11_fit_16 rfl
