theorem dX11_ends_0 : decode cX11_ends 0 = .ok (.iload 4, 2) := by decide +kernel
theorem dX11_ends_2 : decode cX11_ends 2 = .ok (.iconst 0, 1) := by decide +kernel
theorem dX11_ends_3 : decode cX11_ends 3 = .ok (.ldc 195, 2) := by decide +kernel
theorem dX11_ends_5 : decode cX11_ends 5 = .ok (.invokestatic 182, 3) := by decide +kernel
theorem dX11_ends_8 : decode cX11_ends 8 = .ok (.ifCond .ne 5, 3) := by decide +kernel
theorem dX11_ends_11 : decode cX11_ends 11 = .ok (.iconst (-1), 1) := by decide +kernel
theorem dX11_ends_12 : decode cX11_ends 12 = .ok (.ireturn, 1) := by decide +kernel
theorem dX11_ends_13 : decode cX11_ends 13 = .ok (.aload_n 0, 1) := by decide +kernel
theorem dX11_ends_14 : decode cX11_ends 14 = .ok (.iload_n 1, 1) := by decide +kernel
theorem dX11_ends_15 : decode cX11_ends 15 = .ok (.iload_n 2, 1) := by decide +kernel
theorem dX11_ends_16 : decode cX11_ends 16 = .ok (.iload_n 3, 1) := by decide +kernel
theorem dX11_ends_17 : decode cX11_ends 17 = .ok (.invokevirtual 348, 3) := by decide +kernel
theorem dX11_ends_20 : decode cX11_ends 20 = .ok (.istore 5, 2) := by decide +kernel
theorem dX11_ends_22 : decode cX11_ends 22 = .ok (.iload 5, 2) := by decide +kernel
theorem dX11_ends_24 : decode cX11_ends 24 = .ok (.ifCond .ge 6, 3) := by decide +kernel
theorem dX11_ends_27 : decode cX11_ends 27 = .ok (.iload 5, 2) := by decide +kernel
theorem dX11_ends_29 : decode cX11_ends 29 = .ok (.ireturn, 1) := by decide +kernel
theorem dX11_ends_30 : decode cX11_ends 30 = .ok (.aload_n 0, 1) := by decide +kernel
theorem dX11_ends_31 : decode cX11_ends 31 = .ok (.iload_n 1, 1) := by decide +kernel
theorem dX11_ends_32 : decode cX11_ends 32 = .ok (.iload_n 2, 1) := by decide +kernel
theorem dX11_ends_33 : decode cX11_ends 33 = .ok (.iload_n 3, 1) := by decide +kernel
theorem dX11_ends_34 : decode cX11_ends 34 = .ok (.invokevirtual 351, 3) := by decide +kernel
theorem dX11_ends_37 : decode cX11_ends 37 = .ok (.aload_n 0, 1) := by decide +kernel
theorem dX11_ends_38 : decode cX11_ends 38 = .ok (.invokevirtual 355, 3) := by decide +kernel
theorem dX11_ends_41 : decode cX11_ends 41 = .ok (.istore 6, 2) := by decide +kernel
theorem dX11_ends_43 : decode cX11_ends 43 = .ok (.iload 6, 2) := by decide +kernel
theorem dX11_ends_45 : decode cX11_ends 45 = .ok (.ifCond .ge 6, 3) := by decide +kernel
theorem dX11_ends_48 : decode cX11_ends 48 = .ok (.bipush (-9), 2) := by decide +kernel
theorem dX11_ends_50 : decode cX11_ends 50 = .ok (.ireturn, 1) := by decide +kernel
theorem dX11_ends_51 : decode cX11_ends 51 = .ok (.iconst 0, 1) := by decide +kernel
theorem dX11_ends_52 : decode cX11_ends 52 = .ok (.istore 7, 2) := by decide +kernel
theorem dX11_ends_54 : decode cX11_ends 54 = .ok (.iconst 0, 1) := by decide +kernel
theorem dX11_ends_55 : decode cX11_ends 55 = .ok (.istore 8, 2) := by decide +kernel
theorem dX11_ends_57 : decode cX11_ends 57 = .ok (.iconst 1, 1) := by decide +kernel
theorem dX11_ends_58 : decode cX11_ends 58 = .ok (.istore 9, 2) := by decide +kernel
theorem dX11_ends_60 : decode cX11_ends 60 = .ok (.iload 9, 2) := by decide +kernel
theorem dX11_ends_62 : decode cX11_ends 62 = .ok (.bipush 9, 2) := by decide +kernel
theorem dX11_ends_64 : decode cX11_ends 64 = .ok (.if_icmp .ge 61, 3) := by decide +kernel
theorem dX11_ends_67 : decode cX11_ends 67 = .ok (.aload_n 0, 1) := by decide +kernel
theorem dX11_ends_68 : decode cX11_ends 68 = .ok (.getfield 159, 3) := by decide +kernel
theorem dX11_ends_71 : decode cX11_ends 71 = .ok (.iload 9, 2) := by decide +kernel
theorem dX11_ends_73 : decode cX11_ends 73 = .ok (.laload, 1) := by decide +kernel
theorem dX11_ends_74 : decode cX11_ends 74 = .ok (.lconst 0, 1) := by decide +kernel
theorem dX11_ends_75 : decode cX11_ends 75 = .ok (.lcmp, 1) := by decide +kernel
theorem dX11_ends_76 : decode cX11_ends 76 = .ok (.ifCond .lt 43, 3) := by decide +kernel
theorem dX11_ends_79 : decode cX11_ends 79 = .ok (.aload_n 0, 1) := by decide +kernel
theorem dX11_ends_80 : decode cX11_ends 80 = .ok (.getfield 159, 3) := by decide +kernel
theorem dX11_ends_83 : decode cX11_ends 83 = .ok (.iload 9, 2) := by decide +kernel
theorem dX11_ends_85 : decode cX11_ends 85 = .ok (.laload, 1) := by decide +kernel
theorem dX11_ends_86 : decode cX11_ends 86 = .ok (.aload_n 0, 1) := by decide +kernel
theorem dX11_ends_87 : decode cX11_ends 87 = .ok (.getfield 159, 3) := by decide +kernel
theorem dX11_ends_90 : decode cX11_ends 90 = .ok (.iload 6, 2) := by decide +kernel
theorem dX11_ends_92 : decode cX11_ends 92 = .ok (.laload, 1) := by decide +kernel
theorem dX11_ends_93 : decode cX11_ends 93 = .ok (.iload 4, 2) := by decide +kernel
theorem dX11_ends_95 : decode cX11_ends 95 = .ok (.i2l, 1) := by decide +kernel
theorem dX11_ends_96 : decode cX11_ends 96 = .ok (.ladd, 1) := by decide +kernel
theorem dX11_ends_97 : decode cX11_ends 97 = .ok (.lcmp, 1) := by decide +kernel
theorem dX11_ends_98 : decode cX11_ends 98 = .ok (.ifCond .gt 21, 3) := by decide +kernel
theorem dX11_ends_101 : decode cX11_ends 101 = .ok (.iload 7, 2) := by decide +kernel
theorem dX11_ends_103 : decode cX11_ends 103 = .ok (.ifCond .ne 8, 3) := by decide +kernel
theorem dX11_ends_106 : decode cX11_ends 106 = .ok (.iload 9, 2) := by decide +kernel
theorem dX11_ends_108 : decode cX11_ends 108 = .ok (.goto 5, 3) := by decide +kernel
theorem dX11_ends_111 : decode cX11_ends 111 = .ok (.iload 7, 2) := by decide +kernel
theorem dX11_ends_113 : decode cX11_ends 113 = .ok (.istore 7, 2) := by decide +kernel
theorem dX11_ends_115 : decode cX11_ends 115 = .ok (.iload 9, 2) := by decide +kernel
theorem dX11_ends_117 : decode cX11_ends 117 = .ok (.istore 8, 2) := by decide +kernel
theorem dX11_ends_119 : decode cX11_ends 119 = .ok (.iinc 9 1, 3) := by decide +kernel
theorem dX11_ends_122 : decode cX11_ends 122 = .ok (.goto (-62), 3) := by decide +kernel
theorem dX11_ends_125 : decode cX11_ends 125 = .ok (.bipush 10, 2) := by decide +kernel
theorem dX11_ends_127 : decode cX11_ends 127 = .ok (.iload 7, 2) := by decide +kernel
theorem dX11_ends_129 : decode cX11_ends 129 = .ok (.imul, 1) := by decide +kernel
theorem dX11_ends_130 : decode cX11_ends 130 = .ok (.iload 8, 2) := by decide +kernel
theorem dX11_ends_132 : decode cX11_ends 132 = .ok (.iadd, 1) := by decide +kernel
theorem dX11_ends_133 : decode cX11_ends 133 = .ok (.ireturn, 1) := by decide +kernel
noncomputable def L_X11_ends_60 (x4 : Int32) (x7 : Int32) : Nat → Int32 → Int32 → Int32 → qM → (Int32 → Int32 → qM → Option (Int32 × qM)) → Option (Int32 × qM)
  | 0, _, _, _, _, _ => none
  | n + 1, x8, x9, x10, u5, e1 => if 9 ≤ x10 then e1 x8 x9 u5 else q_ck (q_in x10 9) (q_jn (fun (x11 : Int32) (x12 : Int32) (u6 : qM) => q_lt (x10 + 1) (fun (x13 : Int32) => L_X11_ends_60 x4 x7 n x11 x12 x13 u6 e1)) (fun j1 => if (lg_cmp (u5.2.1 119 0 (Int32.toNatClampNeg x10)) 0) < 0 then j1 x8 x9 u5 else q_ck (q_in x10 9) (q_ck (q_in x7 9) (if (0 : Int32) < (lg_cmp (u5.2.1 119 0 (Int32.toNatClampNeg x10)) ((u5.2.1 119 0 (Int32.toNatClampNeg x7)) + (Int32.toInt64 x4))) then j1 x8 x9 u5 else q_jn (fun (x14 : Int32) (u7 : qM) => j1 x14 x10 u7) (fun j2 => if x8 = 0 then j2 x10 u5 else j2 x8 u5)))))
noncomputable def f_X11_ends (x1 : Int32) (x2 : Int32) (x3 : Int32) (x4 : Int32) (u0 : qM) : Option (Int32 × qM) :=
  q_bd (f_X11_in x4 0 100000 u0) (fun (x5 : Int32) (u1 : qM) => if x5 = 0 then some ((-1), u1) else q_bd (f_X11_askedFit x1 x2 x3 u1) (fun (x6 : Int32) (u2 : qM) => if (0 : Int32) ≤ x6 then q_bd (f_X11_tryPulls x1 x2 x3 u2) (fun (_z : Unit) (u3 : qM) => q_bd (f_X11_bestPull  u3) (fun (x7 : Int32) (u4 : qM) => if (0 : Int32) ≤ x7 then L_X11_ends_60 x4 x7 q_fu 0 0 1 u4 (fun x15 x16 u8 => some ((10 * x15) + x16, u8)) else some ((-9), u4))) else some (x6, u2)))
set_option maxRecDepth 100000 in
set_option maxHeartbeats 4000000 in
theorem TL_X11_ends_60 (l : Launch) (G : qG) (x4 : Int32) (x7 : Int32)  (e1 : Int32 → Int32 → qM → Option (Int32 × qM)) (he1 : ∀ (y1 : Int32) (y2 : Int32) (v : qM), qAW l G m_X11_ends (q_mq G q_cI) 125 [(7, .int y1), (8, .int y2)] [] v (e1 y1 y2 v)) : ∀ (n : Nat) (x8 : Int32) (x9 : Int32) (x10 : Int32) (u5 : qM), qAW l G m_X11_ends (q_mq G q_cI) 60 [(0, .ref (q_ad G 11 0)), (4, .int x4), (6, .int x7), (7, .int x8), (8, .int x9), (9, .int x10)] [] u5 (L_X11_ends_60 x4 x7 n x8 x9 x10 u5 e1) := by
  intro n
  induction n with
  | zero => intros; exact aw_none
  | succ n ih =>
    intro x8 x9 x10 u5
    unfold L_X11_ends_60
    refine aw_iload (i := 9) dX11_ends_60 62 rfl 5 rfl ?_
    refine aw_bipush (x := 9) dX11_ends_62 64 rfl rfl ?_
    refine aw_icmp_ge dX11_ends_64 67 rfl 125 rfl (fun h4 => ?_) (fun h4 => ?_)
    · exact aw_conv [3, 4] rfl (he1 x8 x9 u5)
    · refine aw_aload_n (i := 0) dX11_ends_67 68 rfl rfl 0 rfl ?_
      refine gf_X11_59 dX11_ends_68 71 rfl wd_326 (ok_11 (by decide)) ?_
      refine aw_iload (i := 9) dX11_ends_71 73 rfl 5 rfl ?_
      refine aw_lald dX11_ends_73 74 rfl at_119 (al_119 _) (ok_119 (by decide)) (fun h5 => ?_)
      refine aw_lconst (x := 0) dX11_ends_74 75 rfl rfl ?_
      refine aw_lcmp dX11_ends_75 76 rfl ?_
      refine aw_jn (fun k => ∀ (x11 : Int32) (x12 : Int32) (u6 : qM), qAW l G m_X11_ends (q_mq G q_cI) 119 [(0, .ref (q_ad G 11 0)), (4, .int x4), (6, .int x7), (7, .int x11), (8, .int x12), (9, .int x10)] [] u6 (k x11 x12 u6)) ?_ ?_
      · intro x11 x12 u6
        refine aw_iincx (i := 9) dX11_ends_119 122 rfl 5 rfl 1 rfl (fun x13 => [(9, .int x13), (0, .ref (q_ad G 11 0)), (4, .int x4), (6, .int x7), (7, .int x11), (8, .int x12)]) (by decide) (fun _ => rfl) (fun x13 => ?_)
        refine aw_goto dX11_ends_122 60 rfl ?_
        exact aw_conv [1, 2, 3, 4, 5, 0] rfl (ih x11 x12 x13 u6)
      · intro j1 hj1
        refine aw_if_lt dX11_ends_76 79 rfl 119 rfl (fun h6 => ?_) (fun h6 => ?_)
        · exact hj1 x8 x9 u5
        · refine aw_aload_n (i := 0) dX11_ends_79 80 rfl rfl 0 rfl ?_
          refine gf_X11_59 dX11_ends_80 83 rfl wd_326 (ok_11 (by decide)) ?_
          refine aw_iload (i := 9) dX11_ends_83 85 rfl 5 rfl ?_
          refine aw_lald dX11_ends_85 86 rfl at_119 (al_119 _) (ok_119 (by decide)) (fun h7 => ?_)
          refine aw_aload_n (i := 0) dX11_ends_86 87 rfl rfl 0 rfl ?_
          refine gf_X11_59 dX11_ends_87 90 rfl wd_326 (ok_11 (by decide)) ?_
          refine aw_iload (i := 6) dX11_ends_90 92 rfl 2 rfl ?_
          refine aw_lald dX11_ends_92 93 rfl at_119 (al_119 _) (ok_119 (by decide)) (fun h8 => ?_)
          refine aw_iload (i := 4) dX11_ends_93 95 rfl 1 rfl ?_
          refine aw_i2l dX11_ends_95 96 rfl ?_
          refine aw_ladd dX11_ends_96 97 rfl ?_
          refine aw_lcmp dX11_ends_97 98 rfl ?_
          refine aw_if_gt dX11_ends_98 101 rfl 119 rfl (fun h9 => ?_) (fun h9 => ?_)
          · exact hj1 x8 x9 u5
          · refine aw_iload (i := 7) dX11_ends_101 103 rfl 3 rfl ?_
            refine aw_jn (fun k => ∀ (x14 : Int32) (u7 : qM), qAW l G m_X11_ends (q_mq G q_cI) 113 [(0, .ref (q_ad G 11 0)), (4, .int x4), (6, .int x7), (9, .int x10)] [.int x14] u7 (k x14 u7)) ?_ ?_
            · intro x14 u7
              refine aw_istore dX11_ends_113 115 rfl [(7, .int x14), (0, .ref (q_ad G 11 0)), (4, .int x4), (6, .int x7), (9, .int x10)] (by decide) rfl ?_
              refine aw_iload (i := 9) dX11_ends_115 117 rfl 4 rfl ?_
              refine aw_istore dX11_ends_117 119 rfl [(8, .int x10), (7, .int x14), (0, .ref (q_ad G 11 0)), (4, .int x4), (6, .int x7), (9, .int x10)] (by decide) rfl ?_
              exact aw_conv [2, 3, 4, 1, 0, 5] rfl (hj1 x14 x10 u7)
            · intro j2 hj2
              refine aw_if_ne dX11_ends_103 106 rfl 111 rfl (fun h10 => ?_) (fun h10 => ?_)
              · refine aw_iload (i := 7) dX11_ends_111 113 rfl 3 rfl ?_
                exact aw_conv [0, 1, 2, 5] rfl (hj2 x8 u5)
              · refine aw_iload (i := 9) dX11_ends_106 108 rfl 5 rfl ?_
                refine aw_goto dX11_ends_108 113 rfl ?_
                exact aw_conv [0, 1, 2, 5] rfl (hj2 x10 u5)
set_option maxRecDepth 100000 in
set_option maxHeartbeats 4000000 in
theorem k_X11_ends (l : Launch) (G : qG) (x1 : Int32) (x2 : Int32) (x3 : Int32) (x4 : Int32)  (u0 : qM) : qCt l G m_X11_ends q_cI [.ref (q_ad G 11 0), .int x1, .int x2, .int x3, .int x4] u0 (f_X11_ends x1 x2 x3 x4 u0) := by
  refine q_entry pk_X11_ends (Nat.le_of_ble_eq_true rfl) ?_
  show qAW l G m_X11_ends (q_mq G q_cI) 0 [(0, .ref (q_ad G 11 0)), (1, .int x1), (2, .int x2), (3, .int x3), (4, .int x4)] [] u0 (f_X11_ends x1 x2 x3 x4 u0)
  unfold f_X11_ends
  refine aw_iload (i := 4) dX11_ends_0 2 rfl 4 rfl ?_
  refine aw_iconst (x := 0) dX11_ends_2 3 rfl rfl ?_
  refine aw_ldc (x := 100000) dX11_ends_3 5 rfl wd_232 ?_
  refine aw_callS (M2 := m_X11_in) (cv := q_cI) dX11_ends_5 8 rfl (k_X11_in l G x4 0 100000  u0) wd_226 wv_X11_in pk_X11_in rfl ⟨by decide, by decide⟩ ⟨Nat.zero_le _, Nat.zero_le _⟩ rfl (Nat.le_of_ble_eq_true rfl) (fun x5 u1 => ?_)
  show qAW l G m_X11_ends (q_mq G q_cI) 8 [(0, .ref (q_ad G 11 0)), (1, .int x1), (2, .int x2), (3, .int x3), (4, .int x4)] [.int x5] u1 _
  refine aw_if_ne dX11_ends_8 11 rfl 13 rfl (fun h1 => ?_) (fun h1 => ?_)
  · refine aw_aload_n (i := 0) dX11_ends_13 14 rfl rfl 0 rfl ?_
    refine aw_iload_n (i := 1) dX11_ends_14 15 rfl rfl 1 rfl ?_
    refine aw_iload_n (i := 2) dX11_ends_15 16 rfl rfl 2 rfl ?_
    refine aw_iload_n (i := 3) dX11_ends_16 17 rfl rfl 3 rfl ?_
    refine aw_callV (M2 := m_X11_askedFit) (cv := q_cI) dX11_ends_17 20 rfl (k_X11_askedFit l G x1 x2 x3  u1) wd_327 wv_X11_askedFit pk_X11_askedFit rfl rfl ⟨by decide, by decide⟩ ⟨Nat.zero_le _, Nat.zero_le _⟩ at_11 (ok_11 (by decide)) rfl rfl rfl (Nat.le_of_ble_eq_true rfl) (fun x6 u2 => ?_)
    show qAW l G m_X11_ends (q_mq G q_cI) 20 [(0, .ref (q_ad G 11 0)), (1, .int x1), (2, .int x2), (3, .int x3), (4, .int x4)] [.int x6] u2 _
    refine aw_istore dX11_ends_20 22 rfl [(5, .int x6), (0, .ref (q_ad G 11 0)), (1, .int x1), (2, .int x2), (3, .int x3), (4, .int x4)] (by decide) rfl ?_
    refine aw_iload (i := 5) dX11_ends_22 24 rfl 0 rfl ?_
    refine aw_if_ge dX11_ends_24 27 rfl 30 rfl (fun h2 => ?_) (fun h2 => ?_)
    · refine aw_aload_n (i := 0) dX11_ends_30 31 rfl rfl 1 rfl ?_
      refine aw_iload_n (i := 1) dX11_ends_31 32 rfl rfl 2 rfl ?_
      refine aw_iload_n (i := 2) dX11_ends_32 33 rfl rfl 3 rfl ?_
      refine aw_iload_n (i := 3) dX11_ends_33 34 rfl rfl 4 rfl ?_
      refine aw_callV (M2 := m_X11_tryPulls) (cv := q_cU) dX11_ends_34 37 rfl (k_X11_tryPulls l G x1 x2 x3  u2) wd_328 wv_X11_tryPulls pk_X11_tryPulls rfl rfl ⟨by decide, by decide⟩ ⟨Nat.zero_le _, Nat.zero_le _⟩ at_11 (ok_11 (by decide)) rfl rfl rfl (Nat.le_of_ble_eq_true rfl) (fun _z u3 => ?_)
      show qAW l G m_X11_ends (q_mq G q_cI) 37 [(5, .int x6), (0, .ref (q_ad G 11 0)), (1, .int x1), (2, .int x2), (3, .int x3), (4, .int x4)] [] u3 _
      refine aw_aload_n (i := 0) dX11_ends_37 38 rfl rfl 1 rfl ?_
      refine aw_callV (M2 := m_X11_bestPull) (cv := q_cI) dX11_ends_38 41 rfl (k_X11_bestPull l G   u3) wd_329 wv_X11_bestPull pk_X11_bestPull rfl rfl ⟨by decide, by decide⟩ ⟨Nat.zero_le _, Nat.zero_le _⟩ at_11 (ok_11 (by decide)) rfl rfl rfl (Nat.le_of_ble_eq_true rfl) (fun x7 u4 => ?_)
      show qAW l G m_X11_ends (q_mq G q_cI) 41 [(5, .int x6), (0, .ref (q_ad G 11 0)), (1, .int x1), (2, .int x2), (3, .int x3), (4, .int x4)] [.int x7] u4 _
      refine aw_istore dX11_ends_41 43 rfl [(6, .int x7), (5, .int x6), (0, .ref (q_ad G 11 0)), (1, .int x1), (2, .int x2), (3, .int x3), (4, .int x4)] (by decide) rfl ?_
      refine aw_iload (i := 6) dX11_ends_43 45 rfl 0 rfl ?_
      refine aw_if_ge dX11_ends_45 48 rfl 51 rfl (fun h3 => ?_) (fun h3 => ?_)
      · refine aw_iconst (x := 0) dX11_ends_51 52 rfl rfl ?_
        refine aw_istore dX11_ends_52 54 rfl [(7, .int 0), (6, .int x7), (5, .int x6), (0, .ref (q_ad G 11 0)), (1, .int x1), (2, .int x2), (3, .int x3), (4, .int x4)] (by decide) rfl ?_
        refine aw_iconst (x := 0) dX11_ends_54 55 rfl rfl ?_
        refine aw_istore dX11_ends_55 57 rfl [(8, .int 0), (7, .int 0), (6, .int x7), (5, .int x6), (0, .ref (q_ad G 11 0)), (1, .int x1), (2, .int x2), (3, .int x3), (4, .int x4)] (by decide) rfl ?_
        refine aw_iconst (x := 1) dX11_ends_57 58 rfl rfl ?_
        refine aw_istore dX11_ends_58 60 rfl [(9, .int 1), (8, .int 0), (7, .int 0), (6, .int x7), (5, .int x6), (0, .ref (q_ad G 11 0)), (1, .int x1), (2, .int x2), (3, .int x3), (4, .int x4)] (by decide) rfl ?_
        refine aw_conv [5, 9, 3, 2, 1, 0] rfl (TL_X11_ends_60 l G x4 x7  _ ?_ _ 0 0 1 u4)
        · intro x15 x16 u8
          refine aw_bipush (x := 10) dX11_ends_125 127 rfl rfl ?_
          refine aw_iload (i := 7) dX11_ends_127 129 rfl 0 rfl ?_
          refine aw_imul dX11_ends_129 130 rfl ?_
          refine aw_iload (i := 8) dX11_ends_130 132 rfl 1 rfl ?_
          refine aw_iadd dX11_ends_132 133 rfl ?_
          exact aw_iret dX11_ends_133 rfl
      · refine aw_bipush (x := (-9)) dX11_ends_48 50 rfl rfl ?_
        exact aw_iret dX11_ends_50 rfl
    · refine aw_iload (i := 5) dX11_ends_27 29 rfl 0 rfl ?_
      exact aw_iret dX11_ends_29 rfl
  · refine aw_iconst (x := (-1)) dX11_ends_11 12 rfl rfl ?_
    exact aw_iret dX11_ends_12 rfl
theorem dX11_turnGate_0 : decode cX11_turnGate 0 = .ok (.iload_n 2, 1) := by decide +kernel
theorem dX11_turnGate_1 : decode cX11_turnGate 1 = .ok (.bipush 96, 2) := by decide +kernel
theorem dX11_turnGate_3 : decode cX11_turnGate 3 = .ok (.if_icmp .ge 42, 3) := by decide +kernel
theorem dX11_turnGate_6 : decode cX11_turnGate 6 = .ok (.aload_n 0, 1) := by decide +kernel
theorem dX11_turnGate_7 : decode cX11_turnGate 7 = .ok (.iload_n 1, 1) := by decide +kernel
theorem dX11_turnGate_8 : decode cX11_turnGate 8 = .ok (.iload_n 2, 1) := by decide +kernel
theorem dX11_turnGate_9 : decode cX11_turnGate 9 = .ok (.invokevirtual 246, 3) := by decide +kernel
theorem dX11_turnGate_12 : decode cX11_turnGate 12 = .ok (.ifCond .lt 33, 3) := by decide +kernel
theorem dX11_turnGate_15 : decode cX11_turnGate 15 = .ok (.aload_n 0, 1) := by decide +kernel
theorem dX11_turnGate_16 : decode cX11_turnGate 16 = .ok (.getfield 101, 3) := by decide +kernel
theorem dX11_turnGate_19 : decode cX11_turnGate 19 = .ok (.bipush 96, 2) := by decide +kernel
theorem dX11_turnGate_21 : decode cX11_turnGate 21 = .ok (.iload_n 1, 1) := by decide +kernel
theorem dX11_turnGate_22 : decode cX11_turnGate 22 = .ok (.imul, 1) := by decide +kernel
theorem dX11_turnGate_23 : decode cX11_turnGate 23 = .ok (.iload_n 2, 1) := by decide +kernel
theorem dX11_turnGate_24 : decode cX11_turnGate 24 = .ok (.iadd, 1) := by decide +kernel
theorem dX11_turnGate_25 : decode cX11_turnGate 25 = .ok (.aload_n 0, 1) := by decide +kernel
theorem dX11_turnGate_26 : decode cX11_turnGate 26 = .ok (.getfield 101, 3) := by decide +kernel
theorem dX11_turnGate_29 : decode cX11_turnGate 29 = .ok (.bipush 96, 2) := by decide +kernel
theorem dX11_turnGate_31 : decode cX11_turnGate 31 = .ok (.iload_n 1, 1) := by decide +kernel
theorem dX11_turnGate_32 : decode cX11_turnGate 32 = .ok (.imul, 1) := by decide +kernel
theorem dX11_turnGate_33 : decode cX11_turnGate 33 = .ok (.iload_n 2, 1) := by decide +kernel
theorem dX11_turnGate_34 : decode cX11_turnGate 34 = .ok (.iadd, 1) := by decide +kernel
theorem dX11_turnGate_35 : decode cX11_turnGate 35 = .ok (.baload, 1) := by decide +kernel
theorem dX11_turnGate_36 : decode cX11_turnGate 36 = .ok (.ifCond .ne 7, 3) := by decide +kernel
theorem dX11_turnGate_39 : decode cX11_turnGate 39 = .ok (.iconst 1, 1) := by decide +kernel
theorem dX11_turnGate_40 : decode cX11_turnGate 40 = .ok (.goto 4, 3) := by decide +kernel
theorem dX11_turnGate_43 : decode cX11_turnGate 43 = .ok (.iconst 0, 1) := by decide +kernel
theorem dX11_turnGate_44 : decode cX11_turnGate 44 = .ok (.bastore, 1) := by decide +kernel
theorem dX11_turnGate_45 : decode cX11_turnGate 45 = .ok (.return_, 1) := by decide +kernel
noncomputable def f_X11_turnGate (x1 : Int32) (x2 : Int32) (u0 : qM) : Option (Unit × qM) :=
  q_jn (fun  (u1 : qM) => some ((), u1)) (fun j1 => if 96 ≤ x2 then j1 u0 else q_bd (f_X11_beyond x1 x2 u0) (fun (x3 : Int32) (u2 : qM) => if x3 < 0 then j1 u2 else q_ck (q_in ((96 * x1) + x2) 768) (q_jn (fun (x4 : Int32) (u3 : qM) => q_ck (q_in ((96 * x1) + x2) 768) (q_lt (q_si u3 95 0 (Int32.toNatClampNeg ((96 * x1) + x2)) (vp_nar .boolean x4)) (fun (u4 : qM) => j1 u4))) (fun j2 => if (u2.1 95 0 (Int32.toNatClampNeg ((96 * x1) + x2))) = 0 then j2 1 u2 else j2 0 u2))))
set_option maxRecDepth 100000 in
set_option maxHeartbeats 4000000 in
theorem k_X11_turnGate (l : Launch) (G : qG) (x1 : Int32) (x2 : Int32)  (u0 : qM) : qCt l G m_X11_turnGate q_cU [.ref (q_ad G 11 0), .int x1, .int x2] u0 (f_X11_turnGate x1 x2 u0) := by
  refine q_entry pk_X11_turnGate (Nat.le_of_ble_eq_true rfl) ?_
  show qAW l G m_X11_turnGate (q_mq G q_cU) 0 [(0, .ref (q_ad G 11 0)), (1, .int x1), (2, .int x2)] [] u0 (f_X11_turnGate x1 x2 u0)
  unfold f_X11_turnGate
  refine aw_iload_n (i := 2) dX11_turnGate_0 1 rfl rfl 2 rfl ?_
  refine aw_bipush (x := 96) dX11_turnGate_1 3 rfl rfl ?_
  refine aw_jn (fun k => ∀  (u1 : qM), qAW l G m_X11_turnGate (q_mq G q_cU) 45 [] [] u1 (k u1)) ?_ ?_
  · intro u1
    exact aw_vret dX11_turnGate_45 rfl
  · intro j1 hj1
    refine aw_icmp_ge dX11_turnGate_3 6 rfl 45 rfl (fun h1 => ?_) (fun h1 => ?_)
    · exact aw_conv [] rfl (hj1 u0)
    · refine aw_aload_n (i := 0) dX11_turnGate_6 7 rfl rfl 0 rfl ?_
      refine aw_iload_n (i := 1) dX11_turnGate_7 8 rfl rfl 1 rfl ?_
      refine aw_iload_n (i := 2) dX11_turnGate_8 9 rfl rfl 2 rfl ?_
      refine aw_callV (M2 := m_X11_beyond) (cv := q_cI) dX11_turnGate_9 12 rfl (k_X11_beyond l G x1 x2  u0) wd_277 wv_X11_beyond pk_X11_beyond rfl rfl ⟨by decide, by decide⟩ ⟨Nat.zero_le _, Nat.zero_le _⟩ at_11 (ok_11 (by decide)) rfl rfl rfl (Nat.le_of_ble_eq_true rfl) (fun x3 u2 => ?_)
      show qAW l G m_X11_turnGate (q_mq G q_cU) 12 [(0, .ref (q_ad G 11 0)), (1, .int x1), (2, .int x2)] [.int x3] u2 _
      refine aw_if_lt dX11_turnGate_12 15 rfl 45 rfl (fun h2 => ?_) (fun h2 => ?_)
      · exact aw_conv [] rfl (hj1 u2)
      · refine aw_aload_n (i := 0) dX11_turnGate_15 16 rfl rfl 0 rfl ?_
        refine gf_X11_35 dX11_turnGate_16 19 rfl wd_271 (ok_11 (by decide)) ?_
        refine aw_bipush (x := 96) dX11_turnGate_19 21 rfl rfl ?_
        refine aw_iload_n (i := 1) dX11_turnGate_21 22 rfl rfl 1 rfl ?_
        refine aw_imul dX11_turnGate_22 23 rfl ?_
        refine aw_iload_n (i := 2) dX11_turnGate_23 24 rfl rfl 2 rfl ?_
        refine aw_iadd dX11_turnGate_24 25 rfl ?_
        refine aw_aload_n (i := 0) dX11_turnGate_25 26 rfl rfl 0 rfl ?_
        refine gf_X11_35 dX11_turnGate_26 29 rfl wd_271 (ok_11 (by decide)) ?_
        refine aw_bipush (x := 96) dX11_turnGate_29 31 rfl rfl ?_
        refine aw_iload_n (i := 1) dX11_turnGate_31 32 rfl rfl 1 rfl ?_
        refine aw_imul dX11_turnGate_32 33 rfl ?_
        refine aw_iload_n (i := 2) dX11_turnGate_33 34 rfl rfl 2 rfl ?_
        refine aw_iadd dX11_turnGate_34 35 rfl ?_
        refine aw_zald dX11_turnGate_35 36 rfl at_95 (al_95 _) (ok_95 (by decide)) (fun h3 => ?_)
        refine aw_jn (fun k => ∀ (x4 : Int32) (u3 : qM), qAW l G m_X11_turnGate (q_mq G q_cU) 44 [] [.int x4, .int ((96 * x1) + x2), .ref (q_ad G 95 0)] u3 (k x4 u3)) ?_ ?_
        · intro x4 u3
          refine aw_zast dX11_turnGate_44 45 rfl at_95 (al_95 _) (ok_95 (by decide)) (fun h5 => ?_)
          refine aw_ltm (fun u4 => ?_)
          exact hj1 u4
        · intro j2 hj2
          refine aw_if_ne dX11_turnGate_36 39 rfl 43 rfl (fun h4 => ?_) (fun h4 => ?_)
          · refine aw_iconst (x := 0) dX11_turnGate_43 44 rfl rfl ?_
            exact aw_conv [] rfl (hj2 0 u2)
          · refine aw_iconst (x := 1) dX11_turnGate_39 40 rfl rfl ?_
            refine aw_goto dX11_turnGate_40 44 rfl ?_
            exact aw_conv [] rfl (hj2 1 u2)
theorem dX11_plays_0 : decode cX11_plays 0 = .ok (.iconst 0, 1) := by decide +kernel
theorem dX11_plays_1 : decode cX11_plays 1 = .ok (.istore 4, 2) := by decide +kernel
theorem dX11_plays_3 : decode cX11_plays 3 = .ok (.aload_n 0, 1) := by decide +kernel
theorem dX11_plays_4 : decode cX11_plays 4 = .ok (.iconst 0, 1) := by decide +kernel
theorem dX11_plays_5 : decode cX11_plays 5 = .ok (.putfield 359, 3) := by decide +kernel
theorem dX11_plays_8 : decode cX11_plays 8 = .ok (.iconst 0, 1) := by decide +kernel
theorem dX11_plays_9 : decode cX11_plays 9 = .ok (.istore 5, 2) := by decide +kernel
theorem dX11_plays_11 : decode cX11_plays 11 = .ok (.iload 5, 2) := by decide +kernel
theorem dX11_plays_13 : decode cX11_plays 13 = .ok (.aload_n 0, 1) := by decide +kernel
theorem dX11_plays_14 : decode cX11_plays 14 = .ok (.getfield 209, 3) := by decide +kernel
theorem dX11_plays_17 : decode cX11_plays 17 = .ok (.if_icmp .ge 305, 3) := by decide +kernel
theorem dX11_plays_20 : decode cX11_plays 20 = .ok (.aload_n 0, 1) := by decide +kernel
theorem dX11_plays_21 : decode cX11_plays 21 = .ok (.getfield 35, 3) := by decide +kernel
theorem dX11_plays_24 : decode cX11_plays 24 = .ok (.iload 5, 2) := by decide +kernel
theorem dX11_plays_26 : decode cX11_plays 26 = .ok (.iaload, 1) := by decide +kernel
theorem dX11_plays_27 : decode cX11_plays 27 = .ok (.istore 6, 2) := by decide +kernel
theorem dX11_plays_29 : decode cX11_plays 29 = .ok (.aload_n 0, 1) := by decide +kernel
theorem dX11_plays_30 : decode cX11_plays 30 = .ok (.getfield 32, 3) := by decide +kernel
theorem dX11_plays_33 : decode cX11_plays 33 = .ok (.iload 5, 2) := by decide +kernel
theorem dX11_plays_35 : decode cX11_plays 35 = .ok (.iaload, 1) := by decide +kernel
theorem dX11_plays_36 : decode cX11_plays 36 = .ok (.tableswitch 224 71 87 #[106, 224, 224, 224, 224, 224, 224, 224, 224, 144, 224, 155, 224, 116, 224, 95, 84], 84) := by decide +kernel
theorem dX11_plays_120 : decode cX11_plays 120 = .ok (.aload_n 0, 1) := by decide +kernel
theorem dX11_plays_121 : decode cX11_plays 121 = .ok (.getfield 53, 3) := by decide +kernel
theorem dX11_plays_124 : decode cX11_plays 124 = .ok (.iload_n 1, 1) := by decide +kernel
theorem dX11_plays_125 : decode cX11_plays 125 = .ok (.iload 6, 2) := by decide +kernel
theorem dX11_plays_127 : decode cX11_plays 127 = .ok (.iastore, 1) := by decide +kernel
theorem dX11_plays_128 : decode cX11_plays 128 = .ok (.goto 188, 3) := by decide +kernel
theorem dX11_plays_131 : decode cX11_plays 131 = .ok (.aload_n 0, 1) := by decide +kernel
theorem dX11_plays_132 : decode cX11_plays 132 = .ok (.getfield 56, 3) := by decide +kernel
theorem dX11_plays_135 : decode cX11_plays 135 = .ok (.iload_n 1, 1) := by decide +kernel
theorem dX11_plays_136 : decode cX11_plays 136 = .ok (.iload 6, 2) := by decide +kernel
theorem dX11_plays_138 : decode cX11_plays 138 = .ok (.iastore, 1) := by decide +kernel
theorem dX11_plays_139 : decode cX11_plays 139 = .ok (.goto 177, 3) := by decide +kernel
theorem dX11_plays_142 : decode cX11_plays 142 = .ok (.aload_n 0, 1) := by decide +kernel
theorem dX11_plays_143 : decode cX11_plays 143 = .ok (.iload_n 1, 1) := by decide +kernel
theorem dX11_plays_144 : decode cX11_plays 144 = .ok (.iload 6, 2) := by decide +kernel
theorem dX11_plays_146 : decode cX11_plays 146 = .ok (.invokevirtual 362, 3) := by decide +kernel
theorem dX11_plays_149 : decode cX11_plays 149 = .ok (.goto 167, 3) := by decide +kernel
theorem dX11_plays_152 : decode cX11_plays 152 = .ok (.aload_n 0, 1) := by decide +kernel
theorem dX11_plays_153 : decode cX11_plays 153 = .ok (.getfield 71, 3) := by decide +kernel
theorem dX11_plays_156 : decode cX11_plays 156 = .ok (.iload_n 1, 1) := by decide +kernel
theorem dX11_plays_157 : decode cX11_plays 157 = .ok (.aload_n 0, 1) := by decide +kernel
theorem dX11_plays_158 : decode cX11_plays 158 = .ok (.iload_n 1, 1) := by decide +kernel
theorem dX11_plays_159 : decode cX11_plays 159 = .ok (.invokevirtual 252, 3) := by decide +kernel
theorem dX11_plays_162 : decode cX11_plays 162 = .ok (.ifCond .eq 8, 3) := by decide +kernel
theorem dX11_plays_165 : decode cX11_plays 165 = .ok (.iload 6, 2) := by decide +kernel
theorem dX11_plays_167 : decode cX11_plays 167 = .ok (.goto 9, 3) := by decide +kernel
theorem dX11_plays_170 : decode cX11_plays 170 = .ok (.aload_n 0, 1) := by decide +kernel
theorem dX11_plays_171 : decode cX11_plays 171 = .ok (.getfield 71, 3) := by decide +kernel
theorem dX11_plays_174 : decode cX11_plays 174 = .ok (.iload_n 1, 1) := by decide +kernel
theorem dX11_plays_175 : decode cX11_plays 175 = .ok (.iaload, 1) := by decide +kernel
theorem dX11_plays_176 : decode cX11_plays 176 = .ok (.iastore, 1) := by decide +kernel
theorem dX11_plays_177 : decode cX11_plays 177 = .ok (.goto 139, 3) := by decide +kernel
theorem dX11_plays_180 : decode cX11_plays 180 = .ok (.aload_n 0, 1) := by decide +kernel
theorem dX11_plays_181 : decode cX11_plays 181 = .ok (.getfield 47, 3) := by decide +kernel
theorem dX11_plays_184 : decode cX11_plays 184 = .ok (.iload_n 1, 1) := by decide +kernel
theorem dX11_plays_185 : decode cX11_plays 185 = .ok (.iload 6, 2) := by decide +kernel
theorem dX11_plays_187 : decode cX11_plays 187 = .ok (.iastore, 1) := by decide +kernel
theorem dX11_plays_188 : decode cX11_plays 188 = .ok (.goto 128, 3) := by decide +kernel
theorem dX11_plays_191 : decode cX11_plays 191 = .ok (.iconst 0, 1) := by decide +kernel
theorem dX11_plays_192 : decode cX11_plays 192 = .ok (.istore 7, 2) := by decide +kernel
theorem dX11_plays_194 : decode cX11_plays 194 = .ok (.iload 7, 2) := by decide +kernel
theorem dX11_plays_196 : decode cX11_plays 196 = .ok (.aload_n 0, 1) := by decide +kernel
theorem dX11_plays_197 : decode cX11_plays 197 = .ok (.getfield 74, 3) := by decide +kernel
theorem dX11_plays_200 : decode cX11_plays 200 = .ok (.iload_n 1, 1) := by decide +kernel
theorem dX11_plays_201 : decode cX11_plays 201 = .ok (.iaload, 1) := by decide +kernel
theorem dX11_plays_202 : decode cX11_plays 202 = .ok (.if_icmp .ge 55, 3) := by decide +kernel
theorem dX11_plays_205 : decode cX11_plays 205 = .ok (.aload_n 0, 1) := by decide +kernel
theorem dX11_plays_206 : decode cX11_plays 206 = .ok (.getfield 80, 3) := by decide +kernel
theorem dX11_plays_209 : decode cX11_plays 209 = .ok (.iconst 4, 1) := by decide +kernel
theorem dX11_plays_210 : decode cX11_plays 210 = .ok (.iload_n 1, 1) := by decide +kernel
theorem dX11_plays_211 : decode cX11_plays 211 = .ok (.imul, 1) := by decide +kernel
theorem dX11_plays_212 : decode cX11_plays 212 = .ok (.iload 7, 2) := by decide +kernel
theorem dX11_plays_214 : decode cX11_plays 214 = .ok (.iadd, 1) := by decide +kernel
theorem dX11_plays_215 : decode cX11_plays 215 = .ok (.iaload, 1) := by decide +kernel
theorem dX11_plays_216 : decode cX11_plays 216 = .ok (.iload 6, 2) := by decide +kernel
theorem dX11_plays_218 : decode cX11_plays 218 = .ok (.imul, 1) := by decide +kernel
theorem dX11_plays_219 : decode cX11_plays 219 = .ok (.bipush 100, 2) := by decide +kernel
theorem dX11_plays_221 : decode cX11_plays 221 = .ok (.idiv, 1) := by decide +kernel
theorem dX11_plays_222 : decode cX11_plays 222 = .ok (.istore 8, 2) := by decide +kernel
theorem dX11_plays_224 : decode cX11_plays 224 = .ok (.aload_n 0, 1) := by decide +kernel
theorem dX11_plays_225 : decode cX11_plays 225 = .ok (.getfield 80, 3) := by decide +kernel
theorem dX11_plays_228 : decode cX11_plays 228 = .ok (.iconst 4, 1) := by decide +kernel
theorem dX11_plays_229 : decode cX11_plays 229 = .ok (.iload_n 1, 1) := by decide +kernel
theorem dX11_plays_230 : decode cX11_plays 230 = .ok (.imul, 1) := by decide +kernel
theorem dX11_plays_231 : decode cX11_plays 231 = .ok (.iload 7, 2) := by decide +kernel
theorem dX11_plays_233 : decode cX11_plays 233 = .ok (.iadd, 1) := by decide +kernel
theorem dX11_plays_234 : decode cX11_plays 234 = .ok (.iload 8, 2) := by decide +kernel
theorem dX11_plays_236 : decode cX11_plays 236 = .ok (.sipush 1000, 3) := by decide +kernel
theorem dX11_plays_239 : decode cX11_plays 239 = .ok (.if_icmp .le 9, 3) := by decide +kernel
theorem dX11_plays_242 : decode cX11_plays 242 = .ok (.sipush 1000, 3) := by decide +kernel
theorem dX11_plays_245 : decode cX11_plays 245 = .ok (.goto 5, 3) := by decide +kernel
theorem dX11_plays_248 : decode cX11_plays 248 = .ok (.iload 8, 2) := by decide +kernel
theorem dX11_plays_250 : decode cX11_plays 250 = .ok (.iastore, 1) := by decide +kernel
theorem dX11_plays_251 : decode cX11_plays 251 = .ok (.iinc 7 1, 3) := by decide +kernel
theorem dX11_plays_254 : decode cX11_plays 254 = .ok (.goto (-60), 3) := by decide +kernel
theorem dX11_plays_257 : decode cX11_plays 257 = .ok (.goto 59, 3) := by decide +kernel
theorem dX11_plays_260 : decode cX11_plays 260 = .ok (.iconst 0, 1) := by decide +kernel
theorem dX11_plays_261 : decode cX11_plays 261 = .ok (.istore 7, 2) := by decide +kernel
theorem dX11_plays_263 : decode cX11_plays 263 = .ok (.iload 7, 2) := by decide +kernel
theorem dX11_plays_265 : decode cX11_plays 265 = .ok (.iload 6, 2) := by decide +kernel
theorem dX11_plays_267 : decode cX11_plays 267 = .ok (.if_icmp .ge 49, 3) := by decide +kernel
theorem dX11_plays_270 : decode cX11_plays 270 = .ok (.aload_n 0, 1) := by decide +kernel
theorem dX11_plays_271 : decode cX11_plays 271 = .ok (.iload_n 1, 1) := by decide +kernel
theorem dX11_plays_272 : decode cX11_plays 272 = .ok (.invokevirtual 284, 3) := by decide +kernel
theorem dX11_plays_275 : decode cX11_plays 275 = .ok (.ifCond .ne 6, 3) := by decide +kernel
theorem dX11_plays_278 : decode cX11_plays 278 = .ok (.iload 4, 2) := by decide +kernel
theorem dX11_plays_280 : decode cX11_plays 280 = .ok (.ireturn, 1) := by decide +kernel
theorem dX11_plays_281 : decode cX11_plays 281 = .ok (.iinc 4 1, 3) := by decide +kernel
theorem dX11_plays_284 : decode cX11_plays 284 = .ok (.aload_n 0, 1) := by decide +kernel
theorem dX11_plays_285 : decode cX11_plays 285 = .ok (.aload_n 0, 1) := by decide +kernel
theorem dX11_plays_286 : decode cX11_plays 286 = .ok (.getfield 359, 3) := by decide +kernel
theorem dX11_plays_289 : decode cX11_plays 289 = .ok (.ifCond .ne 13, 3) := by decide +kernel
theorem dX11_plays_292 : decode cX11_plays 292 = .ok (.aload_n 0, 1) := by decide +kernel
theorem dX11_plays_293 : decode cX11_plays 293 = .ok (.iload_n 1, 1) := by decide +kernel
theorem dX11_plays_294 : decode cX11_plays 294 = .ok (.iload_n 2, 1) := by decide +kernel
theorem dX11_plays_295 : decode cX11_plays 295 = .ok (.invokevirtual 243, 3) := by decide +kernel
theorem dX11_plays_298 : decode cX11_plays 298 = .ok (.iload_n 3, 1) := by decide +kernel
theorem dX11_plays_299 : decode cX11_plays 299 = .ok (.if_icmp .lt 7, 3) := by decide +kernel
theorem dX11_plays_302 : decode cX11_plays 302 = .ok (.iconst 1, 1) := by decide +kernel
theorem dX11_plays_303 : decode cX11_plays 303 = .ok (.goto 4, 3) := by decide +kernel
theorem dX11_plays_306 : decode cX11_plays 306 = .ok (.iconst 0, 1) := by decide +kernel
theorem dX11_plays_307 : decode cX11_plays 307 = .ok (.putfield 359, 3) := by decide +kernel
theorem dX11_plays_310 : decode cX11_plays 310 = .ok (.iinc 7 1, 3) := by decide +kernel
theorem dX11_plays_313 : decode cX11_plays 313 = .ok (.goto (-50), 3) := by decide +kernel
theorem dX11_plays_316 : decode cX11_plays 316 = .ok (.iinc 5 1, 3) := by decide +kernel
theorem dX11_plays_319 : decode cX11_plays 319 = .ok (.goto (-308), 3) := by decide +kernel
theorem dX11_plays_322 : decode cX11_plays 322 = .ok (.iload 4, 2) := by decide +kernel
theorem dX11_plays_324 : decode cX11_plays 324 = .ok (.ireturn, 1) := by decide +kernel
noncomputable def L_X11_plays_194 (x1 : Int32) (x2 : Int32) (x3 : Int32) (x4 : Int32) (x5 : Int32) (x6 : Int32) : Nat → Int32 → qM → (qM → Option (Int32 × qM)) → Option (Int32 × qM)
  | 0, _, _, _ => none
  | n + 1, x10, u6, e1 => q_ck (q_in x1 8) (if (u6.1 86 0 (Int32.toNatClampNeg x1)) ≤ x10 then e1 u6 else q_ck (q_in ((4 * x1) + x10) 32) (q_lt (((u6.1 88 0 (Int32.toNatClampNeg ((4 * x1) + x10))) * x6) / 100) (fun (x11 : Int32) => q_jn (fun (x12 : Int32) (u7 : qM) => q_ck (q_in ((4 * x1) + x10) 32) (q_lt (q_si u7 88 0 (Int32.toNatClampNeg ((4 * x1) + x10)) x12) (fun (u8 : qM) => q_lt (x10 + 1) (fun (x13 : Int32) => L_X11_plays_194 x1 x2 x3 x4 x5 x6 n x13 u8 e1)))) (fun j2 => if x11 ≤ 1000 then j2 x11 u6 else j2 1000 u6))))
noncomputable def L_X11_plays_263 (x1 : Int32) (x2 : Int32) (x3 : Int32) (x5 : Int32) (x6 : Int32) : Nat → Int32 → Int32 → qM → (Int32 → qM → Option (Int32 × qM)) → (Int32 → qM → Option (Int32 × qM)) → Option (Int32 × qM)
  | 0, _, _, _, _, _ => none
  | n + 1, x16, x17, u15, e1, e2 => if x6 ≤ x17 then e1 x16 u15 else q_bd (f_X11_stepOnce x1 u15) (fun (x18 : Int32) (u16 : qM) => if x18 = 0 then e2 x16 u16 else q_lt (x16 + 1) (fun (x19 : Int32) => q_jn (fun (x20 : Int32) (u17 : qM) => q_ck (q_b x20) (q_lt (q_si u17 11 0 60 x20) (fun (u18 : qM) => q_lt (x17 + 1) (fun (x21 : Int32) => L_X11_plays_263 x1 x2 x3 x5 x6 n x19 x21 u18 e1 e2)))) (fun j4 => q_jn (fun  (u19 : qM) => j4 1 u19) (fun j5 => if (u16.1 11 0 60) = 0 then q_bd (f_X11_level x1 x2 u16) (fun (x22 : Int32) (u20 : qM) => if x22 < x3 then j4 0 u20 else j5 u20) else j5 u16))))
noncomputable def L_X11_plays_11 (x1 : Int32) (x2 : Int32) (x3 : Int32) : Nat → Int32 → Int32 → qM → (Int32 → qM → Option (Int32 × qM)) → (Int32 → qM → Option (Int32 × qM)) → Option (Int32 × qM)
  | 0, _, _, _, _, _ => none
  | n + 1, x4, x5, u2, e1, e2 => if (u2.1 11 0 11) ≤ x5 then e1 x4 u2 else q_ck (q_in x5 40) (q_lt (u2.1 73 0 (Int32.toNatClampNeg x5)) (fun (x6 : Int32) => q_ck (q_in x5 40) (q_lt (u2.1 72 0 (Int32.toNatClampNeg x5)) (fun (x7 : Int32) => q_jn (fun (x8 : Int32) (u3 : qM) => q_lt (x5 + 1) (fun (x9 : Int32) => L_X11_plays_11 x1 x2 x3 n x8 x9 u3 e1 e2)) (fun j1 => if x7 = 71 then q_bd (f_X11_turnGate x1 x6 u2) (fun (_z : Unit) (u4 : qM) => j1 x4 u4) else if x7 = 80 then q_ck (q_in x1 8) (q_lt (q_si u2 77 0 (Int32.toNatClampNeg x1) x6) (fun (u5 : qM) => j1 x4 u5)) else if x7 = 82 then L_X11_plays_194 x1 x2 x3 x4 x5 x6 q_fu 0 u2 (fun u9 => j1 x4 u9) else if x7 = 84 then q_bd (f_X11_isTidal x1 u2) (fun (x14 : Int32) (u10 : qM) => q_jn (fun (x15 : Int32) (u11 : qM) => q_ck (q_in x1 8) (q_lt (q_si u11 85 0 (Int32.toNatClampNeg x1) x15) (fun (u12 : qM) => j1 x4 u12))) (fun j3 => if x14 = 0 then q_ck (q_in x1 8) (j3 (u10.1 85 0 (Int32.toNatClampNeg x1)) u10) else j3 x6 u10)) else if x7 = 86 then q_ck (q_in x1 8) (q_lt (q_si u2 80 0 (Int32.toNatClampNeg x1) x6) (fun (u13 : qM) => j1 x4 u13)) else if x7 = 87 then q_ck (q_in x1 8) (q_lt (q_si u2 79 0 (Int32.toNatClampNeg x1) x6) (fun (u14 : qM) => j1 x4 u14)) else L_X11_plays_263 x1 x2 x3 x5 x6 q_fu x4 0 u2 (fun x23 u21 => j1 x23 u21) (fun x24 u22 => e2 x24 u22))))))
noncomputable def f_X11_plays (x1 : Int32) (x2 : Int32) (x3 : Int32) (u0 : qM) : Option (Int32 × qM) :=
  q_lt (q_si u0 11 0 60 0) (fun (u1 : qM) => L_X11_plays_11 x1 x2 x3 q_fu 0 0 u1 (fun x25 u23 => some (x25, u23)) (fun x26 u24 => some (x26, u24)))
set_option maxRecDepth 100000 in
set_option maxHeartbeats 4000000 in
theorem TL_X11_plays_194 (l : Launch) (G : qG) (x1 : Int32) (x2 : Int32) (x3 : Int32) (x4 : Int32) (x5 : Int32) (x6 : Int32)  (e1 : qM → Option (Int32 × qM)) (he1 : ∀  (v : qM), qAW l G m_X11_plays (q_mq G q_cI) 257 [(0, .ref (q_ad G 11 0)), (1, .int x1), (2, .int x2), (3, .int x3), (4, .int x4), (5, .int x5)] [] v (e1 v)) : ∀ (n : Nat) (x10 : Int32) (u6 : qM), qAW l G m_X11_plays (q_mq G q_cI) 194 [(0, .ref (q_ad G 11 0)), (1, .int x1), (2, .int x2), (3, .int x3), (4, .int x4), (5, .int x5), (6, .int x6), (7, .int x10)] [] u6 (L_X11_plays_194 x1 x2 x3 x4 x5 x6 n x10 u6 e1) := by
  intro n
  induction n with
  | zero => intros; exact aw_none
  | succ n ih =>
    intro x10 u6
    unfold L_X11_plays_194
    refine aw_iload (i := 7) dX11_plays_194 196 rfl 7 rfl ?_
    refine aw_aload_n (i := 0) dX11_plays_196 197 rfl rfl 0 rfl ?_
    refine gf_X11_26 dX11_plays_197 200 rfl wd_265 (ok_11 (by decide)) ?_
    refine aw_iload_n (i := 1) dX11_plays_200 201 rfl rfl 1 rfl ?_
    refine aw_iald dX11_plays_201 202 rfl at_86 (al_86 _) (ok_86 (by decide)) (fun h8 => ?_)
    refine aw_icmp_ge dX11_plays_202 205 rfl 257 rfl (fun h9 => ?_) (fun h9 => ?_)
    · exact aw_conv [0, 1, 2, 3, 4, 5] rfl (he1 u6)
    · refine aw_aload_n (i := 0) dX11_plays_205 206 rfl rfl 0 rfl ?_
      refine gf_X11_28 dX11_plays_206 209 rfl wd_280 (ok_11 (by decide)) ?_
      refine aw_iconst (x := 4) dX11_plays_209 210 rfl rfl ?_
      refine aw_iload_n (i := 1) dX11_plays_210 211 rfl rfl 1 rfl ?_
      refine aw_imul dX11_plays_211 212 rfl ?_
      refine aw_iload (i := 7) dX11_plays_212 214 rfl 7 rfl ?_
      refine aw_iadd dX11_plays_214 215 rfl ?_
      refine aw_iald dX11_plays_215 216 rfl at_88 (al_88 _) (ok_88 (by decide)) (fun h10 => ?_)
      refine aw_iload (i := 6) dX11_plays_216 218 rfl 6 rfl ?_
      refine aw_imul dX11_plays_218 219 rfl ?_
      refine aw_bipush (x := 100) dX11_plays_219 221 rfl rfl ?_
      refine aw_idiv dX11_plays_221 222 rfl (by decide) ?_
      refine aw_lti (fun x11 => ?_)
      refine aw_istore dX11_plays_222 224 rfl [(8, .int x11), (0, .ref (q_ad G 11 0)), (1, .int x1), (2, .int x2), (3, .int x3), (4, .int x4), (5, .int x5), (6, .int x6), (7, .int x10)] (by decide) rfl ?_
      refine aw_aload_n (i := 0) dX11_plays_224 225 rfl rfl 1 rfl ?_
      refine gf_X11_28 dX11_plays_225 228 rfl wd_280 (ok_11 (by decide)) ?_
      refine aw_iconst (x := 4) dX11_plays_228 229 rfl rfl ?_
      refine aw_iload_n (i := 1) dX11_plays_229 230 rfl rfl 2 rfl ?_
      refine aw_imul dX11_plays_230 231 rfl ?_
      refine aw_iload (i := 7) dX11_plays_231 233 rfl 8 rfl ?_
      refine aw_iadd dX11_plays_233 234 rfl ?_
      refine aw_iload (i := 8) dX11_plays_234 236 rfl 0 rfl ?_
      refine aw_sipush (x := 1000) dX11_plays_236 239 rfl rfl ?_
      refine aw_jn (fun k => ∀ (x12 : Int32) (u7 : qM), qAW l G m_X11_plays (q_mq G q_cI) 250 [(0, .ref (q_ad G 11 0)), (1, .int x1), (2, .int x2), (3, .int x3), (4, .int x4), (5, .int x5), (6, .int x6), (7, .int x10)] [.int x12, .int ((4 * x1) + x10), .ref (q_ad G 88 0)] u7 (k x12 u7)) ?_ ?_
      · intro x12 u7
        refine aw_iast dX11_plays_250 251 rfl at_88 (al_88 _) (ok_88 (by decide)) (fun h12 => ?_)
        refine aw_ltm (fun u8 => ?_)
        refine aw_iincx (i := 7) dX11_plays_251 254 rfl 7 rfl 1 rfl (fun x13 => [(7, .int x13), (0, .ref (q_ad G 11 0)), (1, .int x1), (2, .int x2), (3, .int x3), (4, .int x4), (5, .int x5), (6, .int x6)]) (by decide) (fun _ => rfl) (fun x13 => ?_)
        refine aw_goto dX11_plays_254 194 rfl ?_
        exact aw_conv [1, 2, 3, 4, 5, 6, 7, 0] rfl (ih x13 u8)
      · intro j2 hj2
        refine aw_icmp_le dX11_plays_239 242 rfl 248 rfl (fun h11 => ?_) (fun h11 => ?_)
        · refine aw_iload (i := 8) dX11_plays_248 250 rfl 0 rfl ?_
          exact aw_conv [1, 2, 3, 4, 5, 6, 7, 8] rfl (hj2 x11 u6)
        · refine aw_sipush (x := 1000) dX11_plays_242 245 rfl rfl ?_
          refine aw_goto dX11_plays_245 250 rfl ?_
          exact aw_conv [1, 2, 3, 4, 5, 6, 7, 8] rfl (hj2 1000 u6)
set_option maxRecDepth 100000 in
set_option maxHeartbeats 4000000 in
theorem TL_X11_plays_263 (l : Launch) (G : qG) (x1 : Int32) (x2 : Int32) (x3 : Int32) (x5 : Int32) (x6 : Int32)  (e1 : Int32 → qM → Option (Int32 × qM)) (e2 : Int32 → qM → Option (Int32 × qM)) (he1 : ∀ (y1 : Int32) (v : qM), qAW l G m_X11_plays (q_mq G q_cI) 316 [(0, .ref (q_ad G 11 0)), (1, .int x1), (2, .int x2), (3, .int x3), (4, .int y1), (5, .int x5)] [] v (e1 y1 v)) (he2 : ∀ (y1 : Int32) (v : qM), qAW l G m_X11_plays (q_mq G q_cI) 278 [(4, .int y1)] [] v (e2 y1 v)) : ∀ (n : Nat) (x16 : Int32) (x17 : Int32) (u15 : qM), qAW l G m_X11_plays (q_mq G q_cI) 263 [(0, .ref (q_ad G 11 0)), (1, .int x1), (2, .int x2), (3, .int x3), (4, .int x16), (5, .int x5), (6, .int x6), (7, .int x17)] [] u15 (L_X11_plays_263 x1 x2 x3 x5 x6 n x16 x17 u15 e1 e2) := by
  intro n
  induction n with
  | zero => intros; exact aw_none
  | succ n ih =>
    intro x16 x17 u15
    unfold L_X11_plays_263
    refine aw_iload (i := 7) dX11_plays_263 265 rfl 7 rfl ?_
    refine aw_iload (i := 6) dX11_plays_265 267 rfl 6 rfl ?_
    refine aw_icmp_ge dX11_plays_267 270 rfl 316 rfl (fun h21 => ?_) (fun h21 => ?_)
    · exact aw_conv [0, 1, 2, 3, 4, 5] rfl (he1 x16 u15)
    · refine aw_aload_n (i := 0) dX11_plays_270 271 rfl rfl 0 rfl ?_
      refine aw_iload_n (i := 1) dX11_plays_271 272 rfl rfl 1 rfl ?_
      refine aw_callV (M2 := m_X11_stepOnce) (cv := q_cI) dX11_plays_272 275 rfl (k_X11_stepOnce l G x1  u15) wd_301 wv_X11_stepOnce pk_X11_stepOnce rfl rfl ⟨by decide, by decide⟩ ⟨Nat.zero_le _, Nat.zero_le _⟩ at_11 (ok_11 (by decide)) rfl rfl rfl (Nat.le_of_ble_eq_true rfl) (fun x18 u16 => ?_)
      show qAW l G m_X11_plays (q_mq G q_cI) 275 [(0, .ref (q_ad G 11 0)), (1, .int x1), (2, .int x2), (3, .int x3), (4, .int x16), (5, .int x5), (6, .int x6), (7, .int x17)] [.int x18] u16 _
      refine aw_if_ne dX11_plays_275 278 rfl 281 rfl (fun h22 => ?_) (fun h22 => ?_)
      · refine aw_iincx (i := 4) dX11_plays_281 284 rfl 4 rfl 1 rfl (fun x19 => [(4, .int x19), (0, .ref (q_ad G 11 0)), (1, .int x1), (2, .int x2), (3, .int x3), (5, .int x5), (6, .int x6), (7, .int x17)]) (by decide) (fun _ => rfl) (fun x19 => ?_)
        refine aw_aload_n (i := 0) dX11_plays_284 285 rfl rfl 1 rfl ?_
        refine aw_aload_n (i := 0) dX11_plays_285 286 rfl rfl 1 rfl ?_
        refine gf_X11_60 dX11_plays_286 289 rfl wd_330 (ok_11 (by decide)) ?_
        refine aw_jn (fun k => ∀ (x20 : Int32) (u17 : qM), qAW l G m_X11_plays (q_mq G q_cI) 307 [(0, .ref (q_ad G 11 0)), (1, .int x1), (2, .int x2), (3, .int x3), (4, .int x19), (5, .int x5), (6, .int x6), (7, .int x17)] [.int x20, .ref (q_ad G 11 0)] u17 (k x20 u17)) ?_ ?_
        · intro x20 u17
          refine aw_ck (fun h24 => ?_)
          refine pf_X11_60 dX11_plays_307 310 rfl wd_330 (ok_11 (by decide)) h24 ?_
          refine aw_ltm (fun u18 => ?_)
          refine aw_iincx (i := 7) dX11_plays_310 313 rfl 7 rfl 1 rfl (fun x21 => [(7, .int x21), (0, .ref (q_ad G 11 0)), (1, .int x1), (2, .int x2), (3, .int x3), (4, .int x19), (5, .int x5), (6, .int x6)]) (by decide) (fun _ => rfl) (fun x21 => ?_)
          refine aw_goto dX11_plays_313 263 rfl ?_
          exact aw_conv [1, 2, 3, 4, 5, 6, 7, 0] rfl (ih x19 x21 u18)
        · intro j4 hj4
          refine aw_jn (fun k => ∀  (u19 : qM), qAW l G m_X11_plays (q_mq G q_cI) 302 [(0, .ref (q_ad G 11 0)), (1, .int x1), (2, .int x2), (3, .int x3), (4, .int x19), (5, .int x5), (6, .int x6), (7, .int x17)] [.ref (q_ad G 11 0)] u19 (k u19)) ?_ ?_
          · intro u19
            refine aw_iconst (x := 1) dX11_plays_302 303 rfl rfl ?_
            refine aw_goto dX11_plays_303 307 rfl ?_
            exact hj4 1 u19
          · intro j5 hj5
            refine aw_if_ne dX11_plays_289 292 rfl 302 rfl (fun h23 => ?_) (fun h23 => ?_)
            · exact aw_conv [1, 2, 3, 4, 0, 5, 6, 7] rfl (hj5 u16)
            · refine aw_aload_n (i := 0) dX11_plays_292 293 rfl rfl 1 rfl ?_
              refine aw_iload_n (i := 1) dX11_plays_293 294 rfl rfl 2 rfl ?_
              refine aw_iload_n (i := 2) dX11_plays_294 295 rfl rfl 3 rfl ?_
              refine aw_callV (M2 := m_X11_level) (cv := q_cI) dX11_plays_295 298 rfl (k_X11_level l G x1 x2  u16) wd_276 wv_X11_level pk_X11_level rfl rfl ⟨by decide, by decide⟩ ⟨Nat.zero_le _, Nat.zero_le _⟩ at_11 (ok_11 (by decide)) rfl rfl rfl (Nat.le_of_ble_eq_true rfl) (fun x22 u20 => ?_)
              show qAW l G m_X11_plays (q_mq G q_cI) 298 [(4, .int x19), (0, .ref (q_ad G 11 0)), (1, .int x1), (2, .int x2), (3, .int x3), (5, .int x5), (6, .int x6), (7, .int x17)] [.int x22, .ref (q_ad G 11 0)] u20 _
              refine aw_iload_n (i := 3) dX11_plays_298 299 rfl rfl 4 rfl ?_
              refine aw_icmp_lt dX11_plays_299 302 rfl 306 rfl (fun h25 => ?_) (fun h25 => ?_)
              · refine aw_iconst (x := 0) dX11_plays_306 307 rfl rfl ?_
                exact aw_conv [1, 2, 3, 4, 0, 5, 6, 7] rfl (hj4 0 u20)
              · exact aw_conv [1, 2, 3, 4, 0, 5, 6, 7] rfl (hj5 u20)
      · exact aw_conv [4] rfl (he2 x16 u16)
set_option maxRecDepth 100000 in
set_option maxHeartbeats 4000000 in
theorem TL_X11_plays_11 (l : Launch) (G : qG) (x1 : Int32) (x2 : Int32) (x3 : Int32)  (e1 : Int32 → qM → Option (Int32 × qM)) (e2 : Int32 → qM → Option (Int32 × qM)) (he1 : ∀ (y1 : Int32) (v : qM), qAW l G m_X11_plays (q_mq G q_cI) 322 [(4, .int y1)] [] v (e1 y1 v)) (he2 : ∀ (y1 : Int32) (v : qM), qAW l G m_X11_plays (q_mq G q_cI) 278 [(4, .int y1)] [] v (e2 y1 v)) : ∀ (n : Nat) (x4 : Int32) (x5 : Int32) (u2 : qM), qAW l G m_X11_plays (q_mq G q_cI) 11 [(0, .ref (q_ad G 11 0)), (1, .int x1), (2, .int x2), (3, .int x3), (4, .int x4), (5, .int x5)] [] u2 (L_X11_plays_11 x1 x2 x3 n x4 x5 u2 e1 e2) := by
  intro n
  induction n with
  | zero => intros; exact aw_none
  | succ n ih =>
    intro x4 x5 u2
    unfold L_X11_plays_11
    refine aw_iload (i := 5) dX11_plays_11 13 rfl 5 rfl ?_
    refine aw_aload_n (i := 0) dX11_plays_13 14 rfl rfl 0 rfl ?_
    refine gf_X11_11 dX11_plays_14 17 rfl wd_240 (ok_11 (by decide)) ?_
    refine aw_icmp_ge dX11_plays_17 20 rfl 322 rfl (fun h1 => ?_) (fun h1 => ?_)
    · exact aw_conv [4] rfl (he1 x4 u2)
    · refine aw_aload_n (i := 0) dX11_plays_20 21 rfl rfl 0 rfl ?_
      refine gf_X11_13 dX11_plays_21 24 rfl wd_244 (ok_11 (by decide)) ?_
      refine aw_iload (i := 5) dX11_plays_24 26 rfl 5 rfl ?_
      refine aw_iald dX11_plays_26 27 rfl at_73 (al_73 _) (ok_73 (by decide)) (fun h2 => ?_)
      refine aw_lti (fun x6 => ?_)
      refine aw_istore dX11_plays_27 29 rfl [(6, .int x6), (0, .ref (q_ad G 11 0)), (1, .int x1), (2, .int x2), (3, .int x3), (4, .int x4), (5, .int x5)] (by decide) rfl ?_
      refine aw_aload_n (i := 0) dX11_plays_29 30 rfl rfl 1 rfl ?_
      refine gf_X11_12 dX11_plays_30 33 rfl wd_243 (ok_11 (by decide)) ?_
      refine aw_iload (i := 5) dX11_plays_33 35 rfl 6 rfl ?_
      refine aw_iald dX11_plays_35 36 rfl at_72 (al_72 _) (ok_72 (by decide)) (fun h3 => ?_)
      refine aw_lti (fun x7 => ?_)
      refine aw_jn (fun k => ∀ (x8 : Int32) (u3 : qM), qAW l G m_X11_plays (q_mq G q_cI) 316 [(0, .ref (q_ad G 11 0)), (1, .int x1), (2, .int x2), (3, .int x3), (4, .int x8), (5, .int x5)] [] u3 (k x8 u3)) ?_ ?_
      · intro x8 u3
        refine aw_iincx (i := 5) dX11_plays_316 319 rfl 5 rfl 1 rfl (fun x9 => [(5, .int x9), (0, .ref (q_ad G 11 0)), (1, .int x1), (2, .int x2), (3, .int x3), (4, .int x8)]) (by decide) (fun _ => rfl) (fun x9 => ?_)
        refine aw_goto dX11_plays_319 11 rfl ?_
        exact aw_conv [1, 2, 3, 4, 5, 0] rfl (ih x8 x9 u3)
      · intro j1 hj1
        refine aw_swIn (y := 71) dX11_plays_36 142 (by decide) (by decide) rfl rfl (fun h4 => ?_) (fun h4 => ?_)
        · refine aw_aload_n (i := 0) dX11_plays_142 143 rfl rfl 1 rfl ?_
          refine aw_iload_n (i := 1) dX11_plays_143 144 rfl rfl 2 rfl ?_
          refine aw_iload (i := 6) dX11_plays_144 146 rfl 0 rfl ?_
          refine aw_callV (M2 := m_X11_turnGate) (cv := q_cU) dX11_plays_146 149 rfl (k_X11_turnGate l G x1 x6  u2) wd_331 wv_X11_turnGate pk_X11_turnGate rfl rfl ⟨by decide, by decide⟩ ⟨Nat.zero_le _, Nat.zero_le _⟩ at_11 (ok_11 (by decide)) rfl rfl rfl (Nat.le_of_ble_eq_true rfl) (fun _z u4 => ?_)
          show qAW l G m_X11_plays (q_mq G q_cI) 149 [(6, .int x6), (0, .ref (q_ad G 11 0)), (1, .int x1), (2, .int x2), (3, .int x3), (4, .int x4), (5, .int x5)] [] u4 _
          refine aw_goto dX11_plays_149 316 rfl ?_
          exact aw_conv [1, 2, 3, 4, 5, 6] rfl (hj1 x4 u4)
        · refine aw_swIn (y := 80) dX11_plays_36 180 (by decide) (by decide) rfl rfl (fun h5 => ?_) (fun h5 => ?_)
          · refine aw_aload_n (i := 0) dX11_plays_180 181 rfl rfl 1 rfl ?_
            refine gf_X11_17 dX11_plays_181 184 rfl wd_256 (ok_11 (by decide)) ?_
            refine aw_iload_n (i := 1) dX11_plays_184 185 rfl rfl 2 rfl ?_
            refine aw_iload (i := 6) dX11_plays_185 187 rfl 0 rfl ?_
            refine aw_iast dX11_plays_187 188 rfl at_77 (al_77 _) (ok_77 (by decide)) (fun h6 => ?_)
            refine aw_ltm (fun u5 => ?_)
            refine aw_goto dX11_plays_188 316 rfl ?_
            exact aw_conv [1, 2, 3, 4, 5, 6] rfl (hj1 x4 u5)
          · refine aw_swIn (y := 82) dX11_plays_36 191 (by decide) (by decide) rfl rfl (fun h7 => ?_) (fun h7 => ?_)
            · refine aw_iconst (x := 0) dX11_plays_191 192 rfl rfl ?_
              refine aw_istore dX11_plays_192 194 rfl [(7, .int 0), (6, .int x6), (0, .ref (q_ad G 11 0)), (1, .int x1), (2, .int x2), (3, .int x3), (4, .int x4), (5, .int x5)] (by decide) rfl ?_
              refine aw_conv [2, 3, 4, 5, 6, 7, 1, 0] rfl (TL_X11_plays_194 l G x1 x2 x3 x4 x5 x6  _ ?_ _ 0 u2)
              · intro u9
                refine aw_goto dX11_plays_257 316 rfl ?_
                exact hj1 x4 u9
            · refine aw_swIn (y := 84) dX11_plays_36 152 (by decide) (by decide) rfl rfl (fun h13 => ?_) (fun h13 => ?_)
              · refine aw_aload_n (i := 0) dX11_plays_152 153 rfl rfl 1 rfl ?_
                refine gf_X11_25 dX11_plays_153 156 rfl wd_264 (ok_11 (by decide)) ?_
                refine aw_iload_n (i := 1) dX11_plays_156 157 rfl rfl 2 rfl ?_
                refine aw_aload_n (i := 0) dX11_plays_157 158 rfl rfl 1 rfl ?_
                refine aw_iload_n (i := 1) dX11_plays_158 159 rfl rfl 2 rfl ?_
                refine aw_callV (M2 := m_X11_isTidal) (cv := q_cI) dX11_plays_159 162 rfl (k_X11_isTidal l G x1  u2) wd_281 wv_X11_isTidal pk_X11_isTidal rfl rfl ⟨by decide, by decide⟩ ⟨Nat.zero_le _, Nat.zero_le _⟩ at_11 (ok_11 (by decide)) rfl rfl rfl (Nat.le_of_ble_eq_true rfl) (fun x14 u10 => ?_)
                show qAW l G m_X11_plays (q_mq G q_cI) 162 [(6, .int x6), (0, .ref (q_ad G 11 0)), (1, .int x1), (2, .int x2), (3, .int x3), (4, .int x4), (5, .int x5)] [.int x14, .int x1, .ref (q_ad G 85 0)] u10 _
                refine aw_jn (fun k => ∀ (x15 : Int32) (u11 : qM), qAW l G m_X11_plays (q_mq G q_cI) 176 [(0, .ref (q_ad G 11 0)), (1, .int x1), (2, .int x2), (3, .int x3), (4, .int x4), (5, .int x5)] [.int x15, .int x1, .ref (q_ad G 85 0)] u11 (k x15 u11)) ?_ ?_
                · intro x15 u11
                  refine aw_iast dX11_plays_176 177 rfl at_85 (al_85 _) (ok_85 (by decide)) (fun h15 => ?_)
                  refine aw_ltm (fun u12 => ?_)
                  refine aw_goto dX11_plays_177 316 rfl ?_
                  exact hj1 x4 u12
                · intro j3 hj3
                  refine aw_if_eq dX11_plays_162 165 rfl 170 rfl (fun h14 => ?_) (fun h14 => ?_)
                  · refine aw_aload_n (i := 0) dX11_plays_170 171 rfl rfl 1 rfl ?_
                    refine gf_X11_25 dX11_plays_171 174 rfl wd_264 (ok_11 (by decide)) ?_
                    refine aw_iload_n (i := 1) dX11_plays_174 175 rfl rfl 2 rfl ?_
                    refine aw_iald dX11_plays_175 176 rfl at_85 (al_85 _) (ok_85 (by decide)) (fun h16 => ?_)
                    exact aw_conv [1, 2, 3, 4, 5, 6] rfl (hj3 (u10.1 85 0 (Int32.toNatClampNeg x1)) u10)
                  · refine aw_iload (i := 6) dX11_plays_165 167 rfl 0 rfl ?_
                    refine aw_goto dX11_plays_167 176 rfl ?_
                    exact aw_conv [1, 2, 3, 4, 5, 6] rfl (hj3 x6 u10)
              · refine aw_swIn (y := 86) dX11_plays_36 131 (by decide) (by decide) rfl rfl (fun h17 => ?_) (fun h17 => ?_)
                · refine aw_aload_n (i := 0) dX11_plays_131 132 rfl rfl 1 rfl ?_
                  refine gf_X11_20 dX11_plays_132 135 rfl wd_259 (ok_11 (by decide)) ?_
                  refine aw_iload_n (i := 1) dX11_plays_135 136 rfl rfl 2 rfl ?_
                  refine aw_iload (i := 6) dX11_plays_136 138 rfl 0 rfl ?_
                  refine aw_iast dX11_plays_138 139 rfl at_80 (al_80 _) (ok_80 (by decide)) (fun h18 => ?_)
                  refine aw_ltm (fun u13 => ?_)
                  refine aw_goto dX11_plays_139 316 rfl ?_
                  exact aw_conv [1, 2, 3, 4, 5, 6] rfl (hj1 x4 u13)
                · refine aw_swIn (y := 87) dX11_plays_36 120 (by decide) (by decide) rfl rfl (fun h19 => ?_) (fun h19 => ?_)
                  · refine aw_aload_n (i := 0) dX11_plays_120 121 rfl rfl 1 rfl ?_
                    refine gf_X11_19 dX11_plays_121 124 rfl wd_258 (ok_11 (by decide)) ?_
                    refine aw_iload_n (i := 1) dX11_plays_124 125 rfl rfl 2 rfl ?_
                    refine aw_iload (i := 6) dX11_plays_125 127 rfl 0 rfl ?_
                    refine aw_iast dX11_plays_127 128 rfl at_79 (al_79 _) (ok_79 (by decide)) (fun h20 => ?_)
                    refine aw_ltm (fun u14 => ?_)
                    refine aw_goto dX11_plays_128 316 rfl ?_
                    exact aw_conv [1, 2, 3, 4, 5, 6] rfl (hj1 x4 u14)
                  · refine aw_swOut dX11_plays_36 260 rfl (q_swD [71, 80, 82, 84, 86, 87] (by decide +kernel) (by decide) (by simp only [List.mem_cons, List.not_mem_nil, or_false]; rintro c (rfl | rfl | rfl | rfl | rfl | rfl) <;> assumption)) ?_
                    refine aw_iconst (x := 0) dX11_plays_260 261 rfl rfl ?_
                    refine aw_istore dX11_plays_261 263 rfl [(7, .int 0), (6, .int x6), (0, .ref (q_ad G 11 0)), (1, .int x1), (2, .int x2), (3, .int x3), (4, .int x4), (5, .int x5)] (by decide) rfl ?_
                    refine aw_conv [2, 3, 4, 5, 6, 7, 1, 0] rfl (TL_X11_plays_263 l G x1 x2 x3 x5 x6  _ _ ?_ ?_ _ x4 0 u2)
                    · intro x23 u21
                      exact hj1 x23 u21
                    · intro x24 u22
                      exact he2 x24 u22
set_option maxRecDepth 100000 in
set_option maxHeartbeats 4000000 in
theorem k_X11_plays (l : Launch) (G : qG) (x1 : Int32) (x2 : Int32) (x3 : Int32)  (u0 : qM) : qCt l G m_X11_plays q_cI [.ref (q_ad G 11 0), .int x1, .int x2, .int x3] u0 (f_X11_plays x1 x2 x3 u0) := by
  refine q_entry pk_X11_plays (Nat.le_of_ble_eq_true rfl) ?_
  show qAW l G m_X11_plays (q_mq G q_cI) 0 [(0, .ref (q_ad G 11 0)), (1, .int x1), (2, .int x2), (3, .int x3)] [] u0 (f_X11_plays x1 x2 x3 u0)
  unfold f_X11_plays
  refine aw_iconst (x := 0) dX11_plays_0 1 rfl rfl ?_
  refine aw_istore dX11_plays_1 3 rfl [(4, .int 0), (0, .ref (q_ad G 11 0)), (1, .int x1), (2, .int x2), (3, .int x3)] (by decide) rfl ?_
  refine aw_aload_n (i := 0) dX11_plays_3 4 rfl rfl 1 rfl ?_
  refine aw_iconst (x := 0) dX11_plays_4 5 rfl rfl ?_
  refine pf_X11_60 dX11_plays_5 8 rfl wd_330 (ok_11 (by decide)) (by decide) ?_
  refine aw_ltm (fun u1 => ?_)
  refine aw_iconst (x := 0) dX11_plays_8 9 rfl rfl ?_
  refine aw_istore dX11_plays_9 11 rfl [(5, .int 0), (4, .int 0), (0, .ref (q_ad G 11 0)), (1, .int x1), (2, .int x2), (3, .int x3)] (by decide) rfl ?_
  refine aw_conv [2, 3, 4, 5, 1, 0] rfl (TL_X11_plays_11 l G x1 x2 x3  _ _ ?_ ?_ _ 0 0 u1)
  · intro x25 u23
    refine aw_iload (i := 4) dX11_plays_322 324 rfl 0 rfl ?_
    exact aw_iret dX11_plays_324 rfl
  · intro x26 u24
    refine aw_iload (i := 4) dX11_plays_278 280 rfl 0 rfl ?_
    exact aw_iret dX11_plays_280 rfl
theorem dX11_play_0 : decode cX11_play 0 = .ok (.iload_n 1, 1) := by decide +kernel
theorem dX11_play_1 : decode cX11_play 1 = .ok (.invokestatic 186, 3) := by decide +kernel
theorem dX11_play_4 : decode cX11_play 4 = .ok (.ifCond .eq 10, 3) := by decide +kernel
theorem dX11_play_7 : decode cX11_play 7 = .ok (.iload_n 2, 1) := by decide +kernel
theorem dX11_play_8 : decode cX11_play 8 = .ok (.invokestatic 186, 3) := by decide +kernel
theorem dX11_play_11 : decode cX11_play 11 = .ok (.ifCond .ne 5, 3) := by decide +kernel
theorem dX11_play_14 : decode cX11_play 14 = .ok (.iconst (-1), 1) := by decide +kernel
theorem dX11_play_15 : decode cX11_play 15 = .ok (.ireturn, 1) := by decide +kernel
theorem dX11_play_16 : decode cX11_play 16 = .ok (.aload_n 0, 1) := by decide +kernel
theorem dX11_play_17 : decode cX11_play 17 = .ok (.getfield 38, 3) := by decide +kernel
theorem dX11_play_20 : decode cX11_play 20 = .ok (.iload_n 1, 1) := by decide +kernel
theorem dX11_play_21 : decode cX11_play 21 = .ok (.iaload, 1) := by decide +kernel
theorem dX11_play_22 : decode cX11_play 22 = .ok (.ifCond .lt 12, 3) := by decide +kernel
theorem dX11_play_25 : decode cX11_play 25 = .ok (.aload_n 0, 1) := by decide +kernel
theorem dX11_play_26 : decode cX11_play 26 = .ok (.getfield 26, 3) := by decide +kernel
theorem dX11_play_29 : decode cX11_play 29 = .ok (.iload_n 2, 1) := by decide +kernel
theorem dX11_play_30 : decode cX11_play 30 = .ok (.iaload, 1) := by decide +kernel
theorem dX11_play_31 : decode cX11_play 31 = .ok (.ifCond .ge 9, 3) := by decide +kernel
theorem dX11_play_34 : decode cX11_play 34 = .ok (.aload_n 0, 1) := by decide +kernel
theorem dX11_play_35 : decode cX11_play 35 = .ok (.iconst 1, 1) := by decide +kernel
theorem dX11_play_36 : decode cX11_play 36 = .ok (.invokevirtual 190, 3) := by decide +kernel
theorem dX11_play_39 : decode cX11_play 39 = .ok (.ireturn, 1) := by decide +kernel
theorem dX11_play_40 : decode cX11_play 40 = .ok (.aload_n 0, 1) := by decide +kernel
theorem dX11_play_41 : decode cX11_play 41 = .ok (.aload_n 0, 1) := by decide +kernel
theorem dX11_play_42 : decode cX11_play 42 = .ok (.getfield 29, 3) := by decide +kernel
theorem dX11_play_45 : decode cX11_play 45 = .ok (.bipush 40, 2) := by decide +kernel
theorem dX11_play_47 : decode cX11_play 47 = .ok (.iload_n 2, 1) := by decide +kernel
theorem dX11_play_48 : decode cX11_play 48 = .ok (.imul, 1) := by decide +kernel
theorem dX11_play_49 : decode cX11_play 49 = .ok (.aload_n 0, 1) := by decide +kernel
theorem dX11_play_50 : decode cX11_play 50 = .ok (.getfield 26, 3) := by decide +kernel
theorem dX11_play_53 : decode cX11_play 53 = .ok (.iload_n 2, 1) := by decide +kernel
theorem dX11_play_54 : decode cX11_play 54 = .ok (.iaload, 1) := by decide +kernel
theorem dX11_play_55 : decode cX11_play 55 = .ok (.invokevirtual 219, 3) := by decide +kernel
theorem dX11_play_58 : decode cX11_play 58 = .ok (.bipush (-9), 2) := by decide +kernel
theorem dX11_play_60 : decode cX11_play 60 = .ok (.if_icmp .eq 8, 3) := by decide +kernel
theorem dX11_play_63 : decode cX11_play 63 = .ok (.bipush (-4), 2) := by decide +kernel
theorem dX11_play_65 : decode cX11_play 65 = .ok (.goto 10, 3) := by decide +kernel
theorem dX11_play_68 : decode cX11_play 68 = .ok (.aload_n 0, 1) := by decide +kernel
theorem dX11_play_69 : decode cX11_play 69 = .ok (.iload_n 1, 1) := by decide +kernel
theorem dX11_play_70 : decode cX11_play 70 = .ok (.iconst 0, 1) := by decide +kernel
theorem dX11_play_71 : decode cX11_play 71 = .ok (.iconst 0, 1) := by decide +kernel
theorem dX11_play_72 : decode cX11_play 72 = .ok (.invokevirtual 365, 3) := by decide +kernel
theorem dX11_play_75 : decode cX11_play 75 = .ok (.ireturn, 1) := by decide +kernel
noncomputable def f_X11_play (x1 : Int32) (x2 : Int32) (u0 : qM) : Option (Int32 × qM) :=
  q_bd (f_X11_isSix x1 u0) (fun (x3 : Int32) (u1 : qM) => q_jn (fun  (u2 : qM) => some ((-1), u2)) (fun j1 => if x3 = 0 then j1 u1 else q_bd (f_X11_isSix x2 u1) (fun (x4 : Int32) (u3 : qM) => if x4 = 0 then j1 u3 else q_ck (q_in x1 8) (q_jn (fun  (u4 : qM) => q_bd (f_X11_meets 1 u4) (fun (x5 : Int32) (u5 : qM) => some (x5, u5))) (fun j2 => if (u3.1 74 0 (Int32.toNatClampNeg x1)) < 0 then j2 u3 else q_ck (q_in x2 6) (if (0 : Int32) ≤ (u3.1 69 0 (Int32.toNatClampNeg x2)) then q_ck (q_in x2 6) (q_bd (f_X11_reads 70 0 (40 * x2) (u3.1 69 0 (Int32.toNatClampNeg x2)) u3) (fun (x6 : Int32) (u6 : qM) => q_jn (fun (x7 : Int32) (u7 : qM) => some (x7, u7)) (fun j3 => if x6 = (-9) then q_bd (f_X11_plays x1 0 0 u6) (fun (x8 : Int32) (u8 : qM) => j3 x8 u8) else j3 (-4) u6))) else j2 u3))))))
set_option maxRecDepth 100000 in
set_option maxHeartbeats 4000000 in
theorem k_X11_play (l : Launch) (G : qG) (x1 : Int32) (x2 : Int32)  (u0 : qM) : qCt l G m_X11_play q_cI [.ref (q_ad G 11 0), .int x1, .int x2] u0 (f_X11_play x1 x2 u0) := by
  refine q_entry pk_X11_play (Nat.le_of_ble_eq_true rfl) ?_
  show qAW l G m_X11_play (q_mq G q_cI) 0 [(0, .ref (q_ad G 11 0)), (1, .int x1), (2, .int x2)] [] u0 (f_X11_play x1 x2 u0)
  unfold f_X11_play
  refine aw_iload_n (i := 1) dX11_play_0 1 rfl rfl 1 rfl ?_
  refine aw_callS (M2 := m_X11_isSix) (cv := q_cI) dX11_play_1 4 rfl (k_X11_isSix l G x1  u0) wd_227 wv_X11_isSix pk_X11_isSix rfl ⟨by decide, by decide⟩ ⟨Nat.zero_le _, Nat.zero_le _⟩ rfl (Nat.le_of_ble_eq_true rfl) (fun x3 u1 => ?_)
  show qAW l G m_X11_play (q_mq G q_cI) 4 [(0, .ref (q_ad G 11 0)), (1, .int x1), (2, .int x2)] [.int x3] u1 _
  refine aw_jn (fun k => ∀  (u2 : qM), qAW l G m_X11_play (q_mq G q_cI) 14 [] [] u2 (k u2)) ?_ ?_
  · intro u2
    refine aw_iconst (x := (-1)) dX11_play_14 15 rfl rfl ?_
    exact aw_iret dX11_play_15 rfl
  · intro j1 hj1
    refine aw_if_eq dX11_play_4 7 rfl 14 rfl (fun h1 => ?_) (fun h1 => ?_)
    · exact aw_conv [] rfl (hj1 u1)
    · refine aw_iload_n (i := 2) dX11_play_7 8 rfl rfl 2 rfl ?_
      refine aw_callS (M2 := m_X11_isSix) (cv := q_cI) dX11_play_8 11 rfl (k_X11_isSix l G x2  u1) wd_227 wv_X11_isSix pk_X11_isSix rfl ⟨by decide, by decide⟩ ⟨Nat.zero_le _, Nat.zero_le _⟩ rfl (Nat.le_of_ble_eq_true rfl) (fun x4 u3 => ?_)
      show qAW l G m_X11_play (q_mq G q_cI) 11 [(0, .ref (q_ad G 11 0)), (1, .int x1), (2, .int x2)] [.int x4] u3 _
      refine aw_if_ne dX11_play_11 14 rfl 16 rfl (fun h2 => ?_) (fun h2 => ?_)
      · refine aw_aload_n (i := 0) dX11_play_16 17 rfl rfl 0 rfl ?_
        refine gf_X11_14 dX11_play_17 20 rfl wd_250 (ok_11 (by decide)) ?_
        refine aw_iload_n (i := 1) dX11_play_20 21 rfl rfl 1 rfl ?_
        refine aw_iald dX11_play_21 22 rfl at_74 (al_74 _) (ok_74 (by decide)) (fun h3 => ?_)
        refine aw_jn (fun k => ∀  (u4 : qM), qAW l G m_X11_play (q_mq G q_cI) 34 [(0, .ref (q_ad G 11 0))] [] u4 (k u4)) ?_ ?_
        · intro u4
          refine aw_aload_n (i := 0) dX11_play_34 35 rfl rfl 0 rfl ?_
          refine aw_iconst (x := 1) dX11_play_35 36 rfl rfl ?_
          refine aw_callV (M2 := m_X11_meets) (cv := q_cI) dX11_play_36 39 rfl (k_X11_meets l G 1  u4) wd_229 wv_X11_meets pk_X11_meets rfl rfl ⟨by decide, by decide⟩ ⟨Nat.zero_le _, Nat.zero_le _⟩ at_11 (ok_11 (by decide)) rfl rfl rfl (Nat.le_of_ble_eq_true rfl) (fun x5 u5 => ?_)
          show qAW l G m_X11_play (q_mq G q_cI) 39 [(0, .ref (q_ad G 11 0))] [.int x5] u5 _
          exact aw_iret dX11_play_39 rfl
        · intro j2 hj2
          refine aw_if_lt dX11_play_22 25 rfl 34 rfl (fun h4 => ?_) (fun h4 => ?_)
          · exact aw_conv [0] rfl (hj2 u3)
          · refine aw_aload_n (i := 0) dX11_play_25 26 rfl rfl 0 rfl ?_
            refine gf_X11_9 dX11_play_26 29 rfl wd_237 (ok_11 (by decide)) ?_
            refine aw_iload_n (i := 2) dX11_play_29 30 rfl rfl 2 rfl ?_
            refine aw_iald dX11_play_30 31 rfl at_69 (al_69 _) (ok_69 (by decide)) (fun h5 => ?_)
            refine aw_if_ge dX11_play_31 34 rfl 40 rfl (fun h6 => ?_) (fun h6 => ?_)
            · refine aw_aload_n (i := 0) dX11_play_40 41 rfl rfl 0 rfl ?_
              refine aw_aload_n (i := 0) dX11_play_41 42 rfl rfl 0 rfl ?_
              refine gf_X11_10 dX11_play_42 45 rfl wd_238 (ok_11 (by decide)) ?_
              refine aw_bipush (x := 40) dX11_play_45 47 rfl rfl ?_
              refine aw_iload_n (i := 2) dX11_play_47 48 rfl rfl 2 rfl ?_
              refine aw_imul dX11_play_48 49 rfl ?_
              refine aw_aload_n (i := 0) dX11_play_49 50 rfl rfl 0 rfl ?_
              refine gf_X11_9 dX11_play_50 53 rfl wd_237 (ok_11 (by decide)) ?_
              refine aw_iload_n (i := 2) dX11_play_53 54 rfl rfl 2 rfl ?_
              refine aw_iald dX11_play_54 55 rfl at_69 (al_69 _) (ok_69 (by decide)) (fun h7 => ?_)
              refine aw_callV (M2 := m_X11_reads) (cv := q_cI) dX11_play_55 58 rfl (k_X11_reads l G 70 0 (40 * x2) (u3.1 69 0 (Int32.toNatClampNeg x2)) at_70 (ok_70 (by decide)) u3) wd_245 wv_X11_reads pk_X11_reads rfl rfl ⟨by decide, by decide⟩ ⟨Nat.zero_le _, Nat.zero_le _⟩ at_11 (ok_11 (by decide)) rfl rfl rfl (Nat.le_of_ble_eq_true rfl) (fun x6 u6 => ?_)
              show qAW l G m_X11_play (q_mq G q_cI) 58 [(0, .ref (q_ad G 11 0)), (1, .int x1), (2, .int x2)] [.int x6] u6 _
              refine aw_bipush (x := (-9)) dX11_play_58 60 rfl rfl ?_
              refine aw_jn (fun k => ∀ (x7 : Int32) (u7 : qM), qAW l G m_X11_play (q_mq G q_cI) 75 [] [.int x7] u7 (k x7 u7)) ?_ ?_
              · intro x7 u7
                exact aw_iret dX11_play_75 rfl
              · intro j3 hj3
                refine aw_icmp_eq dX11_play_60 63 rfl 68 rfl (fun h8 => ?_) (fun h8 => ?_)
                · refine aw_aload_n (i := 0) dX11_play_68 69 rfl rfl 0 rfl ?_
                  refine aw_iload_n (i := 1) dX11_play_69 70 rfl rfl 1 rfl ?_
                  refine aw_iconst (x := 0) dX11_play_70 71 rfl rfl ?_
                  refine aw_iconst (x := 0) dX11_play_71 72 rfl rfl ?_
                  refine aw_callV (M2 := m_X11_plays) (cv := q_cI) dX11_play_72 75 rfl (k_X11_plays l G x1 0 0  u6) wd_332 wv_X11_plays pk_X11_plays rfl rfl ⟨by decide, by decide⟩ ⟨Nat.zero_le _, Nat.zero_le _⟩ at_11 (ok_11 (by decide)) rfl rfl rfl (Nat.le_of_ble_eq_true rfl) (fun x8 u8 => ?_)
                  show qAW l G m_X11_play (q_mq G q_cI) 75 [(0, .ref (q_ad G 11 0)), (1, .int x1), (2, .int x2)] [.int x8] u8 _
                  exact aw_conv [] rfl (hj3 x8 u8)
                · refine aw_bipush (x := (-4)) dX11_play_63 65 rfl rfl ?_
                  refine aw_goto dX11_play_65 75 rfl ?_
                  exact aw_conv [] rfl (hj3 (-4) u6)
            · exact aw_conv [0] rfl (hj2 u3)
      · exact aw_conv [] rfl (hj1 u3)
theorem dX11_world_0 : decode cX11_world 0 = .ok (.iload_n 1, 1) := by decide +kernel
theorem dX11_world_1 : decode cX11_world 1 = .ok (.invokestatic 186, 3) := by decide +kernel
theorem dX11_world_4 : decode cX11_world 4 = .ok (.ifCond .eq 13, 3) := by decide +kernel
theorem dX11_world_7 : decode cX11_world 7 = .ok (.iload_n 2, 1) := by decide +kernel
theorem dX11_world_8 : decode cX11_world 8 = .ok (.iconst 0, 1) := by decide +kernel
theorem dX11_world_9 : decode cX11_world 9 = .ok (.bipush 99, 2) := by decide +kernel
theorem dX11_world_11 : decode cX11_world 11 = .ok (.invokestatic 182, 3) := by decide +kernel
theorem dX11_world_14 : decode cX11_world 14 = .ok (.ifCond .ne 5, 3) := by decide +kernel
theorem dX11_world_17 : decode cX11_world 17 = .ok (.iconst (-1), 1) := by decide +kernel
theorem dX11_world_18 : decode cX11_world 18 = .ok (.ireturn, 1) := by decide +kernel
theorem dX11_world_19 : decode cX11_world 19 = .ok (.aload_n 0, 1) := by decide +kernel
theorem dX11_world_20 : decode cX11_world 20 = .ok (.getfield 368, 3) := by decide +kernel
theorem dX11_world_23 : decode cX11_world 23 = .ok (.bipush 8, 2) := by decide +kernel
theorem dX11_world_25 : decode cX11_world 25 = .ok (.if_icmp .ne 6, 3) := by decide +kernel
theorem dX11_world_28 : decode cX11_world 28 = .ok (.bipush (-2), 2) := by decide +kernel
theorem dX11_world_30 : decode cX11_world 30 = .ok (.ireturn, 1) := by decide +kernel
theorem dX11_world_31 : decode cX11_world 31 = .ok (.aload_n 0, 1) := by decide +kernel
theorem dX11_world_32 : decode cX11_world 32 = .ok (.getfield 26, 3) := by decide +kernel
theorem dX11_world_35 : decode cX11_world 35 = .ok (.iload_n 1, 1) := by decide +kernel
theorem dX11_world_36 : decode cX11_world 36 = .ok (.iaload, 1) := by decide +kernel
theorem dX11_world_37 : decode cX11_world 37 = .ok (.ifCond .ge 9, 3) := by decide +kernel
theorem dX11_world_40 : decode cX11_world 40 = .ok (.aload_n 0, 1) := by decide +kernel
theorem dX11_world_41 : decode cX11_world 41 = .ok (.iconst 1, 1) := by decide +kernel
theorem dX11_world_42 : decode cX11_world 42 = .ok (.invokevirtual 190, 3) := by decide +kernel
theorem dX11_world_45 : decode cX11_world 45 = .ok (.ireturn, 1) := by decide +kernel
theorem dX11_world_46 : decode cX11_world 46 = .ok (.aload_n 0, 1) := by decide +kernel
theorem dX11_world_47 : decode cX11_world 47 = .ok (.aload_n 0, 1) := by decide +kernel
theorem dX11_world_48 : decode cX11_world 48 = .ok (.getfield 29, 3) := by decide +kernel
theorem dX11_world_51 : decode cX11_world 51 = .ok (.bipush 40, 2) := by decide +kernel
theorem dX11_world_53 : decode cX11_world 53 = .ok (.iload_n 1, 1) := by decide +kernel
theorem dX11_world_54 : decode cX11_world 54 = .ok (.imul, 1) := by decide +kernel
theorem dX11_world_55 : decode cX11_world 55 = .ok (.aload_n 0, 1) := by decide +kernel
theorem dX11_world_56 : decode cX11_world 56 = .ok (.getfield 26, 3) := by decide +kernel
theorem dX11_world_59 : decode cX11_world 59 = .ok (.iload_n 1, 1) := by decide +kernel
theorem dX11_world_60 : decode cX11_world 60 = .ok (.iaload, 1) := by decide +kernel
theorem dX11_world_61 : decode cX11_world 61 = .ok (.invokevirtual 219, 3) := by decide +kernel
theorem dX11_world_64 : decode cX11_world 64 = .ok (.bipush (-9), 2) := by decide +kernel
theorem dX11_world_66 : decode cX11_world 66 = .ok (.if_icmp .eq 6, 3) := by decide +kernel
theorem dX11_world_69 : decode cX11_world 69 = .ok (.bipush (-4), 2) := by decide +kernel
theorem dX11_world_71 : decode cX11_world 71 = .ok (.ireturn, 1) := by decide +kernel
theorem dX11_world_72 : decode cX11_world 72 = .ok (.aload_n 0, 1) := by decide +kernel
theorem dX11_world_73 : decode cX11_world 73 = .ok (.getfield 163, 3) := by decide +kernel
theorem dX11_world_76 : decode cX11_world 76 = .ok (.aload_n 0, 1) := by decide +kernel
theorem dX11_world_77 : decode cX11_world 77 = .ok (.getfield 368, 3) := by decide +kernel
theorem dX11_world_80 : decode cX11_world 80 = .ok (.aload_n 0, 1) := by decide +kernel
theorem dX11_world_81 : decode cX11_world 81 = .ok (.getfield 26, 3) := by decide +kernel
theorem dX11_world_84 : decode cX11_world 84 = .ok (.iload_n 1, 1) := by decide +kernel
theorem dX11_world_85 : decode cX11_world 85 = .ok (.iaload, 1) := by decide +kernel
theorem dX11_world_86 : decode cX11_world 86 = .ok (.iastore, 1) := by decide +kernel
theorem dX11_world_87 : decode cX11_world 87 = .ok (.aload_n 0, 1) := by decide +kernel
theorem dX11_world_88 : decode cX11_world 88 = .ok (.getfield 169, 3) := by decide +kernel
theorem dX11_world_91 : decode cX11_world 91 = .ok (.aload_n 0, 1) := by decide +kernel
theorem dX11_world_92 : decode cX11_world 92 = .ok (.getfield 368, 3) := by decide +kernel
theorem dX11_world_95 : decode cX11_world 95 = .ok (.iload_n 2, 1) := by decide +kernel
theorem dX11_world_96 : decode cX11_world 96 = .ok (.iastore, 1) := by decide +kernel
theorem dX11_world_97 : decode cX11_world 97 = .ok (.iconst 0, 1) := by decide +kernel
theorem dX11_world_98 : decode cX11_world 98 = .ok (.istore_n 3, 1) := by decide +kernel
theorem dX11_world_99 : decode cX11_world 99 = .ok (.iload_n 3, 1) := by decide +kernel
theorem dX11_world_100 : decode cX11_world 100 = .ok (.aload_n 0, 1) := by decide +kernel
theorem dX11_world_101 : decode cX11_world 101 = .ok (.getfield 26, 3) := by decide +kernel
theorem dX11_world_104 : decode cX11_world 104 = .ok (.iload_n 1, 1) := by decide +kernel
theorem dX11_world_105 : decode cX11_world 105 = .ok (.iaload, 1) := by decide +kernel
theorem dX11_world_106 : decode cX11_world 106 = .ok (.if_icmp .ge 34, 3) := by decide +kernel
theorem dX11_world_109 : decode cX11_world 109 = .ok (.aload_n 0, 1) := by decide +kernel
theorem dX11_world_110 : decode cX11_world 110 = .ok (.getfield 166, 3) := by decide +kernel
theorem dX11_world_113 : decode cX11_world 113 = .ok (.bipush 40, 2) := by decide +kernel
theorem dX11_world_115 : decode cX11_world 115 = .ok (.aload_n 0, 1) := by decide +kernel
theorem dX11_world_116 : decode cX11_world 116 = .ok (.getfield 368, 3) := by decide +kernel
theorem dX11_world_119 : decode cX11_world 119 = .ok (.imul, 1) := by decide +kernel
theorem dX11_world_120 : decode cX11_world 120 = .ok (.iload_n 3, 1) := by decide +kernel
theorem dX11_world_121 : decode cX11_world 121 = .ok (.iadd, 1) := by decide +kernel
theorem dX11_world_122 : decode cX11_world 122 = .ok (.aload_n 0, 1) := by decide +kernel
theorem dX11_world_123 : decode cX11_world 123 = .ok (.getfield 29, 3) := by decide +kernel
theorem dX11_world_126 : decode cX11_world 126 = .ok (.bipush 40, 2) := by decide +kernel
theorem dX11_world_128 : decode cX11_world 128 = .ok (.iload_n 1, 1) := by decide +kernel
theorem dX11_world_129 : decode cX11_world 129 = .ok (.imul, 1) := by decide +kernel
theorem dX11_world_130 : decode cX11_world 130 = .ok (.iload_n 3, 1) := by decide +kernel
theorem dX11_world_131 : decode cX11_world 131 = .ok (.iadd, 1) := by decide +kernel
theorem dX11_world_132 : decode cX11_world 132 = .ok (.iaload, 1) := by decide +kernel
theorem dX11_world_133 : decode cX11_world 133 = .ok (.iastore, 1) := by decide +kernel
theorem dX11_world_134 : decode cX11_world 134 = .ok (.iinc 3 1, 3) := by decide +kernel
theorem dX11_world_137 : decode cX11_world 137 = .ok (.goto (-38), 3) := by decide +kernel
theorem dX11_world_140 : decode cX11_world 140 = .ok (.aload_n 0, 1) := by decide +kernel
theorem dX11_world_141 : decode cX11_world 141 = .ok (.dup, 1) := by decide +kernel
theorem dX11_world_142 : decode cX11_world 142 = .ok (.getfield 368, 3) := by decide +kernel
theorem dX11_world_145 : decode cX11_world 145 = .ok (.iconst 1, 1) := by decide +kernel
theorem dX11_world_146 : decode cX11_world 146 = .ok (.iadd, 1) := by decide +kernel
theorem dX11_world_147 : decode cX11_world 147 = .ok (.putfield 368, 3) := by decide +kernel
theorem dX11_world_150 : decode cX11_world 150 = .ok (.aload_n 0, 1) := by decide +kernel
theorem dX11_world_151 : decode cX11_world 151 = .ok (.getfield 368, 3) := by decide +kernel
theorem dX11_world_154 : decode cX11_world 154 = .ok (.iconst 1, 1) := by decide +kernel
theorem dX11_world_155 : decode cX11_world 155 = .ok (.isub, 1) := by decide +kernel
theorem dX11_world_156 : decode cX11_world 156 = .ok (.ireturn, 1) := by decide +kernel
noncomputable def L_X11_world_99 (x1 : Int32) : Nat → Int32 → qM → (qM → Option (Int32 × qM)) → Option (Int32 × qM)
  | 0, _, _, _ => none
  | n + 1, x6, u7, e1 => q_ck (q_in x1 6) (if (u7.1 69 0 (Int32.toNatClampNeg x1)) ≤ x6 then e1 u7 else q_ck (q_in ((40 * x1) + x6) 240) (q_ck (q_in ((40 * (u7.1 11 0 61)) + x6) 320) (q_lt (q_si u7 123 0 (Int32.toNatClampNeg ((40 * (u7.1 11 0 61)) + x6)) (u7.1 70 0 (Int32.toNatClampNeg ((40 * x1) + x6)))) (fun (u8 : qM) => q_lt (x6 + 1) (fun (x7 : Int32) => L_X11_world_99 x1 n x7 u8 e1)))))
noncomputable def f_X11_world (x1 : Int32) (x2 : Int32) (u0 : qM) : Option (Int32 × qM) :=
  q_bd (f_X11_isSix x1 u0) (fun (x3 : Int32) (u1 : qM) => q_jn (fun  (u2 : qM) => some ((-1), u2)) (fun j1 => if x3 = 0 then j1 u1 else q_bd (f_X11_in x2 0 99 u1) (fun (x4 : Int32) (u3 : qM) => if x4 = 0 then j1 u3 else if (u3.1 11 0 61) = 8 then some ((-2), u3) else q_ck (q_in x1 6) (if (0 : Int32) ≤ (u3.1 69 0 (Int32.toNatClampNeg x1)) then q_ck (q_in x1 6) (q_bd (f_X11_reads 70 0 (40 * x1) (u3.1 69 0 (Int32.toNatClampNeg x1)) u3) (fun (x5 : Int32) (u4 : qM) => if x5 = (-9) then q_ck (q_in x1 6) (q_ck (q_in (u4.1 11 0 61) 8) (q_lt (q_si u4 122 0 (Int32.toNatClampNeg (u4.1 11 0 61)) (u4.1 69 0 (Int32.toNatClampNeg x1))) (fun (u5 : qM) => q_ck (q_in (u5.1 11 0 61) 8) (q_lt (q_si u5 124 0 (Int32.toNatClampNeg (u5.1 11 0 61)) x2) (fun (u6 : qM) => L_X11_world_99 x1 q_fu 0 u6 (fun u9 => q_lt (q_si u9 11 0 61 ((u9.1 11 0 61) + 1)) (fun (u10 : qM) => some ((u10.1 11 0 61) - 1, u10)))))))) else some ((-4), u4))) else q_bd (f_X11_meets 1 u3) (fun (x8 : Int32) (u11 : qM) => some (x8, u11))))))
set_option maxRecDepth 100000 in
set_option maxHeartbeats 4000000 in
theorem TL_X11_world_99 (l : Launch) (G : qG) (x1 : Int32)  (e1 : qM → Option (Int32 × qM)) (he1 : ∀  (v : qM), qAW l G m_X11_world (q_mq G q_cI) 140 [(0, .ref (q_ad G 11 0))] [] v (e1 v)) : ∀ (n : Nat) (x6 : Int32) (u7 : qM), qAW l G m_X11_world (q_mq G q_cI) 99 [(0, .ref (q_ad G 11 0)), (1, .int x1), (3, .int x6)] [] u7 (L_X11_world_99 x1 n x6 u7 e1) := by
  intro n
  induction n with
  | zero => intros; exact aw_none
  | succ n ih =>
    intro x6 u7
    unfold L_X11_world_99
    refine aw_iload_n (i := 3) dX11_world_99 100 rfl rfl 2 rfl ?_
    refine aw_aload_n (i := 0) dX11_world_100 101 rfl rfl 0 rfl ?_
    refine gf_X11_9 dX11_world_101 104 rfl wd_237 (ok_11 (by decide)) ?_
    refine aw_iload_n (i := 1) dX11_world_104 105 rfl rfl 1 rfl ?_
    refine aw_iald dX11_world_105 106 rfl at_69 (al_69 _) (ok_69 (by decide)) (fun h11 => ?_)
    refine aw_icmp_ge dX11_world_106 109 rfl 140 rfl (fun h12 => ?_) (fun h12 => ?_)
    · exact aw_conv [0] rfl (he1 u7)
    · refine aw_aload_n (i := 0) dX11_world_109 110 rfl rfl 0 rfl ?_
      refine gf_X11_63 dX11_world_110 113 rfl wd_336 (ok_11 (by decide)) ?_
      refine aw_bipush (x := 40) dX11_world_113 115 rfl rfl ?_
      refine aw_aload_n (i := 0) dX11_world_115 116 rfl rfl 0 rfl ?_
      refine gf_X11_61 dX11_world_116 119 rfl wd_333 (ok_11 (by decide)) ?_
      refine aw_imul dX11_world_119 120 rfl ?_
      refine aw_iload_n (i := 3) dX11_world_120 121 rfl rfl 2 rfl ?_
      refine aw_iadd dX11_world_121 122 rfl ?_
      refine aw_aload_n (i := 0) dX11_world_122 123 rfl rfl 0 rfl ?_
      refine gf_X11_10 dX11_world_123 126 rfl wd_238 (ok_11 (by decide)) ?_
      refine aw_bipush (x := 40) dX11_world_126 128 rfl rfl ?_
      refine aw_iload_n (i := 1) dX11_world_128 129 rfl rfl 1 rfl ?_
      refine aw_imul dX11_world_129 130 rfl ?_
      refine aw_iload_n (i := 3) dX11_world_130 131 rfl rfl 2 rfl ?_
      refine aw_iadd dX11_world_131 132 rfl ?_
      refine aw_iald dX11_world_132 133 rfl at_70 (al_70 _) (ok_70 (by decide)) (fun h13 => ?_)
      refine aw_iast dX11_world_133 134 rfl at_123 (al_123 _) (ok_123 (by decide)) (fun h14 => ?_)
      refine aw_ltm (fun u8 => ?_)
      refine aw_iincx (i := 3) dX11_world_134 137 rfl 2 rfl 1 rfl (fun x7 => [(3, .int x7), (0, .ref (q_ad G 11 0)), (1, .int x1)]) (by decide) (fun _ => rfl) (fun x7 => ?_)
      refine aw_goto dX11_world_137 99 rfl ?_
      exact aw_conv [1, 2, 0] rfl (ih x7 u8)
set_option maxRecDepth 100000 in
set_option maxHeartbeats 4000000 in
theorem k_X11_world (l : Launch) (G : qG) (x1 : Int32) (x2 : Int32)  (u0 : qM) : qCt l G m_X11_world q_cI [.ref (q_ad G 11 0), .int x1, .int x2] u0 (f_X11_world x1 x2 u0) := by
  refine q_entry pk_X11_world (Nat.le_of_ble_eq_true rfl) ?_
  show qAW l G m_X11_world (q_mq G q_cI) 0 [(0, .ref (q_ad G 11 0)), (1, .int x1), (2, .int x2)] [] u0 (f_X11_world x1 x2 u0)
  unfold f_X11_world
  refine aw_iload_n (i := 1) dX11_world_0 1 rfl rfl 1 rfl ?_
  refine aw_callS (M2 := m_X11_isSix) (cv := q_cI) dX11_world_1 4 rfl (k_X11_isSix l G x1  u0) wd_227 wv_X11_isSix pk_X11_isSix rfl ⟨by decide, by decide⟩ ⟨Nat.zero_le _, Nat.zero_le _⟩ rfl (Nat.le_of_ble_eq_true rfl) (fun x3 u1 => ?_)
  show qAW l G m_X11_world (q_mq G q_cI) 4 [(0, .ref (q_ad G 11 0)), (1, .int x1), (2, .int x2)] [.int x3] u1 _
  refine aw_jn (fun k => ∀  (u2 : qM), qAW l G m_X11_world (q_mq G q_cI) 17 [] [] u2 (k u2)) ?_ ?_
  · intro u2
    refine aw_iconst (x := (-1)) dX11_world_17 18 rfl rfl ?_
    exact aw_iret dX11_world_18 rfl
  · intro j1 hj1
    refine aw_if_eq dX11_world_4 7 rfl 17 rfl (fun h1 => ?_) (fun h1 => ?_)
    · exact aw_conv [] rfl (hj1 u1)
    · refine aw_iload_n (i := 2) dX11_world_7 8 rfl rfl 2 rfl ?_
      refine aw_iconst (x := 0) dX11_world_8 9 rfl rfl ?_
      refine aw_bipush (x := 99) dX11_world_9 11 rfl rfl ?_
      refine aw_callS (M2 := m_X11_in) (cv := q_cI) dX11_world_11 14 rfl (k_X11_in l G x2 0 99  u1) wd_226 wv_X11_in pk_X11_in rfl ⟨by decide, by decide⟩ ⟨Nat.zero_le _, Nat.zero_le _⟩ rfl (Nat.le_of_ble_eq_true rfl) (fun x4 u3 => ?_)
      show qAW l G m_X11_world (q_mq G q_cI) 14 [(0, .ref (q_ad G 11 0)), (1, .int x1), (2, .int x2)] [.int x4] u3 _
      refine aw_if_ne dX11_world_14 17 rfl 19 rfl (fun h2 => ?_) (fun h2 => ?_)
      · refine aw_aload_n (i := 0) dX11_world_19 20 rfl rfl 0 rfl ?_
        refine gf_X11_61 dX11_world_20 23 rfl wd_333 (ok_11 (by decide)) ?_
        refine aw_bipush (x := 8) dX11_world_23 25 rfl rfl ?_
        refine aw_icmp_ne dX11_world_25 28 rfl 31 rfl (fun h3 => ?_) (fun h3 => ?_)
        · refine aw_aload_n (i := 0) dX11_world_31 32 rfl rfl 0 rfl ?_
          refine gf_X11_9 dX11_world_32 35 rfl wd_237 (ok_11 (by decide)) ?_
          refine aw_iload_n (i := 1) dX11_world_35 36 rfl rfl 1 rfl ?_
          refine aw_iald dX11_world_36 37 rfl at_69 (al_69 _) (ok_69 (by decide)) (fun h4 => ?_)
          refine aw_if_ge dX11_world_37 40 rfl 46 rfl (fun h5 => ?_) (fun h5 => ?_)
          · refine aw_aload_n (i := 0) dX11_world_46 47 rfl rfl 0 rfl ?_
            refine aw_aload_n (i := 0) dX11_world_47 48 rfl rfl 0 rfl ?_
            refine gf_X11_10 dX11_world_48 51 rfl wd_238 (ok_11 (by decide)) ?_
            refine aw_bipush (x := 40) dX11_world_51 53 rfl rfl ?_
            refine aw_iload_n (i := 1) dX11_world_53 54 rfl rfl 1 rfl ?_
            refine aw_imul dX11_world_54 55 rfl ?_
            refine aw_aload_n (i := 0) dX11_world_55 56 rfl rfl 0 rfl ?_
            refine gf_X11_9 dX11_world_56 59 rfl wd_237 (ok_11 (by decide)) ?_
            refine aw_iload_n (i := 1) dX11_world_59 60 rfl rfl 1 rfl ?_
            refine aw_iald dX11_world_60 61 rfl at_69 (al_69 _) (ok_69 (by decide)) (fun h6 => ?_)
            refine aw_callV (M2 := m_X11_reads) (cv := q_cI) dX11_world_61 64 rfl (k_X11_reads l G 70 0 (40 * x1) (u3.1 69 0 (Int32.toNatClampNeg x1)) at_70 (ok_70 (by decide)) u3) wd_245 wv_X11_reads pk_X11_reads rfl rfl ⟨by decide, by decide⟩ ⟨Nat.zero_le _, Nat.zero_le _⟩ at_11 (ok_11 (by decide)) rfl rfl rfl (Nat.le_of_ble_eq_true rfl) (fun x5 u4 => ?_)
            show qAW l G m_X11_world (q_mq G q_cI) 64 [(0, .ref (q_ad G 11 0)), (1, .int x1), (2, .int x2)] [.int x5] u4 _
            refine aw_bipush (x := (-9)) dX11_world_64 66 rfl rfl ?_
            refine aw_icmp_eq dX11_world_66 69 rfl 72 rfl (fun h7 => ?_) (fun h7 => ?_)
            · refine aw_aload_n (i := 0) dX11_world_72 73 rfl rfl 0 rfl ?_
              refine gf_X11_62 dX11_world_73 76 rfl wd_334 (ok_11 (by decide)) ?_
              refine aw_aload_n (i := 0) dX11_world_76 77 rfl rfl 0 rfl ?_
              refine gf_X11_61 dX11_world_77 80 rfl wd_333 (ok_11 (by decide)) ?_
              refine aw_aload_n (i := 0) dX11_world_80 81 rfl rfl 0 rfl ?_
              refine gf_X11_9 dX11_world_81 84 rfl wd_237 (ok_11 (by decide)) ?_
              refine aw_iload_n (i := 1) dX11_world_84 85 rfl rfl 1 rfl ?_
              refine aw_iald dX11_world_85 86 rfl at_69 (al_69 _) (ok_69 (by decide)) (fun h8 => ?_)
              refine aw_iast dX11_world_86 87 rfl at_122 (al_122 _) (ok_122 (by decide)) (fun h9 => ?_)
              refine aw_ltm (fun u5 => ?_)
              refine aw_aload_n (i := 0) dX11_world_87 88 rfl rfl 0 rfl ?_
              refine gf_X11_64 dX11_world_88 91 rfl wd_335 (ok_11 (by decide)) ?_
              refine aw_aload_n (i := 0) dX11_world_91 92 rfl rfl 0 rfl ?_
              refine gf_X11_61 dX11_world_92 95 rfl wd_333 (ok_11 (by decide)) ?_
              refine aw_iload_n (i := 2) dX11_world_95 96 rfl rfl 2 rfl ?_
              refine aw_iast dX11_world_96 97 rfl at_124 (al_124 _) (ok_124 (by decide)) (fun h10 => ?_)
              refine aw_ltm (fun u6 => ?_)
              refine aw_iconst (x := 0) dX11_world_97 98 rfl rfl ?_
              refine aw_istore_n dX11_world_98 99 rfl rfl [(3, .int 0), (0, .ref (q_ad G 11 0)), (1, .int x1), (2, .int x2)] (by decide) rfl ?_
              refine aw_conv [1, 2, 0] rfl (TL_X11_world_99 l G x1  _ ?_ _ 0 u6)
              · intro u9
                refine aw_aload_n (i := 0) dX11_world_140 141 rfl rfl 0 rfl ?_
                refine aw_dup dX11_world_141 142 rfl rfl ?_
                refine gf_X11_61 dX11_world_142 145 rfl wd_333 (ok_11 (by decide)) ?_
                refine aw_iconst (x := 1) dX11_world_145 146 rfl rfl ?_
                refine aw_iadd dX11_world_146 147 rfl ?_
                refine pf_X11_61 dX11_world_147 150 rfl wd_333 (ok_11 (by decide)) ?_
                refine aw_ltm (fun u10 => ?_)
                refine aw_aload_n (i := 0) dX11_world_150 151 rfl rfl 0 rfl ?_
                refine gf_X11_61 dX11_world_151 154 rfl wd_333 (ok_11 (by decide)) ?_
                refine aw_iconst (x := 1) dX11_world_154 155 rfl rfl ?_
                refine aw_isub dX11_world_155 156 rfl ?_
                exact aw_iret dX11_world_156 rfl
            · refine aw_bipush (x := (-4)) dX11_world_69 71 rfl rfl ?_
              exact aw_iret dX11_world_71 rfl
          · refine aw_aload_n (i := 0) dX11_world_40 41 rfl rfl 0 rfl ?_
            refine aw_iconst (x := 1) dX11_world_41 42 rfl rfl ?_
            refine aw_callV (M2 := m_X11_meets) (cv := q_cI) dX11_world_42 45 rfl (k_X11_meets l G 1  u3) wd_229 wv_X11_meets pk_X11_meets rfl rfl ⟨by decide, by decide⟩ ⟨Nat.zero_le _, Nat.zero_le _⟩ at_11 (ok_11 (by decide)) rfl rfl rfl (Nat.le_of_ble_eq_true rfl) (fun x8 u11 => ?_)
            show qAW l G m_X11_world (q_mq G q_cI) 45 [(0, .ref (q_ad G 11 0)), (1, .int x1), (2, .int x2)] [.int x8] u11 _
            exact aw_iret dX11_world_45 rfl
        · refine aw_bipush (x := (-2)) dX11_world_28 30 rfl rfl ?_
          exact aw_iret dX11_world_30 rfl
      · exact aw_conv [] rfl (hj1 u3)
theorem dX11_forget_0 : decode cX11_forget 0 = .ok (.aload_n 0, 1) := by decide +kernel
theorem dX11_forget_1 : decode cX11_forget 1 = .ok (.getfield 368, 3) := by decide +kernel
theorem dX11_forget_4 : decode cX11_forget 4 = .ok (.istore_n 1, 1) := by decide +kernel
theorem dX11_forget_5 : decode cX11_forget 5 = .ok (.aload_n 0, 1) := by decide +kernel
theorem dX11_forget_6 : decode cX11_forget 6 = .ok (.iconst 0, 1) := by decide +kernel
theorem dX11_forget_7 : decode cX11_forget 7 = .ok (.putfield 368, 3) := by decide +kernel
theorem dX11_forget_10 : decode cX11_forget 10 = .ok (.iload_n 1, 1) := by decide +kernel
theorem dX11_forget_11 : decode cX11_forget 11 = .ok (.ireturn, 1) := by decide +kernel
noncomputable def f_X11_forget  (u0 : qM) : Option (Int32 × qM) :=
  q_lt (u0.1 11 0 61) (fun (x1 : Int32) => q_lt (q_si u0 11 0 61 0) (fun (u1 : qM) => some (x1, u1)))
set_option maxRecDepth 100000 in
set_option maxHeartbeats 4000000 in
theorem k_X11_forget (l : Launch) (G : qG)   (u0 : qM) : qCt l G m_X11_forget q_cI [.ref (q_ad G 11 0)] u0 (f_X11_forget  u0) := by
  refine q_entry pk_X11_forget (Nat.le_of_ble_eq_true rfl) ?_
  show qAW l G m_X11_forget (q_mq G q_cI) 0 [(0, .ref (q_ad G 11 0))] [] u0 (f_X11_forget  u0)
  unfold f_X11_forget
  refine aw_aload_n (i := 0) dX11_forget_0 1 rfl rfl 0 rfl ?_
  refine gf_X11_61 dX11_forget_1 4 rfl wd_333 (ok_11 (by decide)) ?_
  refine aw_lti (fun x1 => ?_)
  refine aw_istore_n dX11_forget_4 5 rfl rfl [(1, .int x1), (0, .ref (q_ad G 11 0))] (by decide) rfl ?_
  refine aw_aload_n (i := 0) dX11_forget_5 6 rfl rfl 1 rfl ?_
  refine aw_iconst (x := 0) dX11_forget_6 7 rfl rfl ?_
  refine pf_X11_61 dX11_forget_7 10 rfl wd_333 (ok_11 (by decide)) ?_
  refine aw_ltm (fun u1 => ?_)
  refine aw_iload_n (i := 1) dX11_forget_10 11 rfl rfl 0 rfl ?_
  exact aw_iret dX11_forget_11 rfl
theorem dX11_allWeights_0 : decode cX11_allWeights 0 = .ok (.aload_n 0, 1) := by decide +kernel
theorem dX11_allWeights_1 : decode cX11_allWeights 1 = .ok (.aload_n 0, 1) := by decide +kernel
theorem dX11_allWeights_2 : decode cX11_allWeights 2 = .ok (.getfield 169, 3) := by decide +kernel
theorem dX11_allWeights_5 : decode cX11_allWeights 5 = .ok (.iconst 0, 1) := by decide +kernel
theorem dX11_allWeights_6 : decode cX11_allWeights 6 = .ok (.aload_n 0, 1) := by decide +kernel
theorem dX11_allWeights_7 : decode cX11_allWeights 7 = .ok (.getfield 368, 3) := by decide +kernel
theorem dX11_allWeights_10 : decode cX11_allWeights 10 = .ok (.invokevirtual 287, 3) := by decide +kernel
theorem dX11_allWeights_13 : decode cX11_allWeights 13 = .ok (.ireturn, 1) := by decide +kernel
noncomputable def f_X11_allWeights  (u0 : qM) : Option (Int32 × qM) :=
  q_bd (f_X11_sumOf 124 0 0 (u0.1 11 0 61) u0) (fun (x1 : Int32) (u1 : qM) => some (x1, u1))
set_option maxRecDepth 100000 in
set_option maxHeartbeats 4000000 in
theorem k_X11_allWeights (l : Launch) (G : qG)   (u0 : qM) : qCt l G m_X11_allWeights q_cI [.ref (q_ad G 11 0)] u0 (f_X11_allWeights  u0) := by
  refine q_entry pk_X11_allWeights (Nat.le_of_ble_eq_true rfl) ?_
  show qAW l G m_X11_allWeights (q_mq G q_cI) 0 [(0, .ref (q_ad G 11 0))] [] u0 (f_X11_allWeights  u0)
  unfold f_X11_allWeights
  refine aw_aload_n (i := 0) dX11_allWeights_0 1 rfl rfl 0 rfl ?_
  refine aw_aload_n (i := 0) dX11_allWeights_1 2 rfl rfl 0 rfl ?_
  refine gf_X11_64 dX11_allWeights_2 5 rfl wd_335 (ok_11 (by decide)) ?_
  refine aw_iconst (x := 0) dX11_allWeights_5 6 rfl rfl ?_
  refine aw_aload_n (i := 0) dX11_allWeights_6 7 rfl rfl 0 rfl ?_
  refine gf_X11_61 dX11_allWeights_7 10 rfl wd_333 (ok_11 (by decide)) ?_
  refine aw_callV (M2 := m_X11_sumOf) (cv := q_cI) dX11_allWeights_10 13 rfl (k_X11_sumOf l G 124 0 0 (u0.1 11 0 61) at_124 (ok_124 (by decide)) u0) wd_302 wv_X11_sumOf pk_X11_sumOf rfl rfl ⟨by decide, by decide⟩ ⟨Nat.zero_le _, Nat.zero_le _⟩ at_11 (ok_11 (by decide)) rfl rfl rfl (Nat.le_of_ble_eq_true rfl) (fun x1 u1 => ?_)
  show qAW l G m_X11_allWeights (q_mq G q_cI) 13 [(0, .ref (q_ad G 11 0))] [.int x1] u1 _
  exact aw_iret dX11_allWeights_13 rfl
theorem dX11_alarmOf_0 : decode cX11_alarmOf 0 = .ok (.iconst 0, 1) := by decide +kernel
theorem dX11_alarmOf_1 : decode cX11_alarmOf 1 = .ok (.istore 4, 2) := by decide +kernel
theorem dX11_alarmOf_3 : decode cX11_alarmOf 3 = .ok (.iconst 0, 1) := by decide +kernel
theorem dX11_alarmOf_4 : decode cX11_alarmOf 4 = .ok (.istore 5, 2) := by decide +kernel
theorem dX11_alarmOf_6 : decode cX11_alarmOf 6 = .ok (.iload 5, 2) := by decide +kernel
theorem dX11_alarmOf_8 : decode cX11_alarmOf 8 = .ok (.aload_n 0, 1) := by decide +kernel
theorem dX11_alarmOf_9 : decode cX11_alarmOf 9 = .ok (.getfield 368, 3) := by decide +kernel
theorem dX11_alarmOf_12 : decode cX11_alarmOf 12 = .ok (.if_icmp .ge 71, 3) := by decide +kernel
theorem dX11_alarmOf_15 : decode cX11_alarmOf 15 = .ok (.aload_n 0, 1) := by decide +kernel
theorem dX11_alarmOf_16 : decode cX11_alarmOf 16 = .ok (.iload_n 1, 1) := by decide +kernel
theorem dX11_alarmOf_17 : decode cX11_alarmOf 17 = .ok (.bipush 6, 2) := by decide +kernel
theorem dX11_alarmOf_19 : decode cX11_alarmOf 19 = .ok (.invokevirtual 299, 3) := by decide +kernel
theorem dX11_alarmOf_22 : decode cX11_alarmOf 22 = .ok (.aload_n 0, 1) := by decide +kernel
theorem dX11_alarmOf_23 : decode cX11_alarmOf 23 = .ok (.aload_n 0, 1) := by decide +kernel
theorem dX11_alarmOf_24 : decode cX11_alarmOf 24 = .ok (.getfield 166, 3) := by decide +kernel
theorem dX11_alarmOf_27 : decode cX11_alarmOf 27 = .ok (.bipush 40, 2) := by decide +kernel
theorem dX11_alarmOf_29 : decode cX11_alarmOf 29 = .ok (.iload 5, 2) := by decide +kernel
theorem dX11_alarmOf_31 : decode cX11_alarmOf 31 = .ok (.imul, 1) := by decide +kernel
theorem dX11_alarmOf_32 : decode cX11_alarmOf 32 = .ok (.aload_n 0, 1) := by decide +kernel
theorem dX11_alarmOf_33 : decode cX11_alarmOf 33 = .ok (.getfield 163, 3) := by decide +kernel
theorem dX11_alarmOf_36 : decode cX11_alarmOf 36 = .ok (.iload 5, 2) := by decide +kernel
theorem dX11_alarmOf_38 : decode cX11_alarmOf 38 = .ok (.iaload, 1) := by decide +kernel
theorem dX11_alarmOf_39 : decode cX11_alarmOf 39 = .ok (.invokevirtual 219, 3) := by decide +kernel
theorem dX11_alarmOf_42 : decode cX11_alarmOf 42 = .ok (.bipush (-9), 2) := by decide +kernel
theorem dX11_alarmOf_44 : decode cX11_alarmOf 44 = .ok (.if_icmp .ne 33, 3) := by decide +kernel
theorem dX11_alarmOf_47 : decode cX11_alarmOf 47 = .ok (.aload_n 0, 1) := by decide +kernel
theorem dX11_alarmOf_48 : decode cX11_alarmOf 48 = .ok (.bipush 6, 2) := by decide +kernel
theorem dX11_alarmOf_50 : decode cX11_alarmOf 50 = .ok (.iload_n 2, 1) := by decide +kernel
theorem dX11_alarmOf_51 : decode cX11_alarmOf 51 = .ok (.iload_n 3, 1) := by decide +kernel
theorem dX11_alarmOf_52 : decode cX11_alarmOf 52 = .ok (.invokevirtual 365, 3) := by decide +kernel
theorem dX11_alarmOf_55 : decode cX11_alarmOf 55 = .ok (.ifCond .lt 22, 3) := by decide +kernel
theorem dX11_alarmOf_58 : decode cX11_alarmOf 58 = .ok (.aload_n 0, 1) := by decide +kernel
theorem dX11_alarmOf_59 : decode cX11_alarmOf 59 = .ok (.getfield 359, 3) := by decide +kernel
theorem dX11_alarmOf_62 : decode cX11_alarmOf 62 = .ok (.ifCond .eq 15, 3) := by decide +kernel
theorem dX11_alarmOf_65 : decode cX11_alarmOf 65 = .ok (.iload 4, 2) := by decide +kernel
theorem dX11_alarmOf_67 : decode cX11_alarmOf 67 = .ok (.aload_n 0, 1) := by decide +kernel
theorem dX11_alarmOf_68 : decode cX11_alarmOf 68 = .ok (.getfield 169, 3) := by decide +kernel
theorem dX11_alarmOf_71 : decode cX11_alarmOf 71 = .ok (.iload 5, 2) := by decide +kernel
theorem dX11_alarmOf_73 : decode cX11_alarmOf 73 = .ok (.iaload, 1) := by decide +kernel
theorem dX11_alarmOf_74 : decode cX11_alarmOf 74 = .ok (.iadd, 1) := by decide +kernel
theorem dX11_alarmOf_75 : decode cX11_alarmOf 75 = .ok (.istore 4, 2) := by decide +kernel
theorem dX11_alarmOf_77 : decode cX11_alarmOf 77 = .ok (.iinc 5 1, 3) := by decide +kernel
theorem dX11_alarmOf_80 : decode cX11_alarmOf 80 = .ok (.goto (-74), 3) := by decide +kernel
theorem dX11_alarmOf_83 : decode cX11_alarmOf 83 = .ok (.aload_n 0, 1) := by decide +kernel
theorem dX11_alarmOf_84 : decode cX11_alarmOf 84 = .ok (.getfield 38, 3) := by decide +kernel
theorem dX11_alarmOf_87 : decode cX11_alarmOf 87 = .ok (.bipush 6, 2) := by decide +kernel
theorem dX11_alarmOf_89 : decode cX11_alarmOf 89 = .ok (.bipush (-9), 2) := by decide +kernel
theorem dX11_alarmOf_91 : decode cX11_alarmOf 91 = .ok (.iastore, 1) := by decide +kernel
theorem dX11_alarmOf_92 : decode cX11_alarmOf 92 = .ok (.iload 4, 2) := by decide +kernel
theorem dX11_alarmOf_94 : decode cX11_alarmOf 94 = .ok (.ireturn, 1) := by decide +kernel
noncomputable def L_X11_alarmOf_6 (x1 : Int32) (x2 : Int32) (x3 : Int32) : Nat → Int32 → Int32 → qM → (Int32 → qM → Option (Int32 × qM)) → Option (Int32 × qM)
  | 0, _, _, _, _ => none
  | n + 1, x4, x5, u1, e1 => if (u1.1 11 0 61) ≤ x5 then e1 x4 u1 else q_bd (f_X11_bring x1 6 u1) (fun (_z : Unit) (u2 : qM) => q_ck (q_in x5 8) (q_bd (f_X11_reads 123 0 (40 * x5) (u2.1 122 0 (Int32.toNatClampNeg x5)) u2) (fun (x6 : Int32) (u3 : qM) => q_jn (fun (x7 : Int32) (u4 : qM) => q_lt (x5 + 1) (fun (x8 : Int32) => L_X11_alarmOf_6 x1 x2 x3 n x7 x8 u4 e1)) (fun j1 => if x6 = (-9) then q_bd (f_X11_plays 6 x2 x3 u3) (fun (x9 : Int32) (u5 : qM) => if x9 < 0 then j1 x4 u5 else if (u5.1 11 0 60) = 0 then j1 x4 u5 else q_ck (q_in x5 8) (q_lt (x4 + (u5.1 124 0 (Int32.toNatClampNeg x5))) (fun (x10 : Int32) => j1 x10 u5))) else j1 x4 u3))))
noncomputable def f_X11_alarmOf (x1 : Int32) (x2 : Int32) (x3 : Int32) (u0 : qM) : Option (Int32 × qM) :=
  L_X11_alarmOf_6 x1 x2 x3 q_fu 0 0 u0 (fun x11 u6 => q_ck (q_in 6 8) (q_lt (q_si u6 74 0 (Int32.toNatClampNeg 6) (-9)) (fun (u7 : qM) => some (x11, u7))))
set_option maxRecDepth 100000 in
set_option maxHeartbeats 4000000 in
theorem TL_X11_alarmOf_6 (l : Launch) (G : qG) (x1 : Int32) (x2 : Int32) (x3 : Int32)  (e1 : Int32 → qM → Option (Int32 × qM)) (he1 : ∀ (y1 : Int32) (v : qM), qAW l G m_X11_alarmOf (q_mq G q_cI) 83 [(0, .ref (q_ad G 11 0)), (4, .int y1)] [] v (e1 y1 v)) : ∀ (n : Nat) (x4 : Int32) (x5 : Int32) (u1 : qM), qAW l G m_X11_alarmOf (q_mq G q_cI) 6 [(0, .ref (q_ad G 11 0)), (1, .int x1), (2, .int x2), (3, .int x3), (4, .int x4), (5, .int x5)] [] u1 (L_X11_alarmOf_6 x1 x2 x3 n x4 x5 u1 e1) := by
  intro n
  induction n with
  | zero => intros; exact aw_none
  | succ n ih =>
    intro x4 x5 u1
    unfold L_X11_alarmOf_6
    refine aw_iload (i := 5) dX11_alarmOf_6 8 rfl 5 rfl ?_
    refine aw_aload_n (i := 0) dX11_alarmOf_8 9 rfl rfl 0 rfl ?_
    refine gf_X11_61 dX11_alarmOf_9 12 rfl wd_333 (ok_11 (by decide)) ?_
    refine aw_icmp_ge dX11_alarmOf_12 15 rfl 83 rfl (fun h1 => ?_) (fun h1 => ?_)
    · exact aw_conv [0, 4] rfl (he1 x4 u1)
    · refine aw_aload_n (i := 0) dX11_alarmOf_15 16 rfl rfl 0 rfl ?_
      refine aw_iload_n (i := 1) dX11_alarmOf_16 17 rfl rfl 1 rfl ?_
      refine aw_bipush (x := 6) dX11_alarmOf_17 19 rfl rfl ?_
      refine aw_callV (M2 := m_X11_bring) (cv := q_cU) dX11_alarmOf_19 22 rfl (k_X11_bring l G x1 6  u1) wd_307 wv_X11_bring pk_X11_bring rfl rfl ⟨by decide, by decide⟩ ⟨Nat.zero_le _, Nat.zero_le _⟩ at_11 (ok_11 (by decide)) rfl rfl rfl (Nat.le_of_ble_eq_true rfl) (fun _z u2 => ?_)
      show qAW l G m_X11_alarmOf (q_mq G q_cI) 22 [(0, .ref (q_ad G 11 0)), (1, .int x1), (2, .int x2), (3, .int x3), (4, .int x4), (5, .int x5)] [] u2 _
      refine aw_aload_n (i := 0) dX11_alarmOf_22 23 rfl rfl 0 rfl ?_
      refine aw_aload_n (i := 0) dX11_alarmOf_23 24 rfl rfl 0 rfl ?_
      refine gf_X11_63 dX11_alarmOf_24 27 rfl wd_336 (ok_11 (by decide)) ?_
      refine aw_bipush (x := 40) dX11_alarmOf_27 29 rfl rfl ?_
      refine aw_iload (i := 5) dX11_alarmOf_29 31 rfl 5 rfl ?_
      refine aw_imul dX11_alarmOf_31 32 rfl ?_
      refine aw_aload_n (i := 0) dX11_alarmOf_32 33 rfl rfl 0 rfl ?_
      refine gf_X11_62 dX11_alarmOf_33 36 rfl wd_334 (ok_11 (by decide)) ?_
      refine aw_iload (i := 5) dX11_alarmOf_36 38 rfl 5 rfl ?_
      refine aw_iald dX11_alarmOf_38 39 rfl at_122 (al_122 _) (ok_122 (by decide)) (fun h2 => ?_)
      refine aw_callV (M2 := m_X11_reads) (cv := q_cI) dX11_alarmOf_39 42 rfl (k_X11_reads l G 123 0 (40 * x5) (u2.1 122 0 (Int32.toNatClampNeg x5)) at_123 (ok_123 (by decide)) u2) wd_245 wv_X11_reads pk_X11_reads rfl rfl ⟨by decide, by decide⟩ ⟨Nat.zero_le _, Nat.zero_le _⟩ at_11 (ok_11 (by decide)) rfl rfl rfl (Nat.le_of_ble_eq_true rfl) (fun x6 u3 => ?_)
      show qAW l G m_X11_alarmOf (q_mq G q_cI) 42 [(0, .ref (q_ad G 11 0)), (1, .int x1), (2, .int x2), (3, .int x3), (4, .int x4), (5, .int x5)] [.int x6] u3 _
      refine aw_bipush (x := (-9)) dX11_alarmOf_42 44 rfl rfl ?_
      refine aw_jn (fun k => ∀ (x7 : Int32) (u4 : qM), qAW l G m_X11_alarmOf (q_mq G q_cI) 77 [(0, .ref (q_ad G 11 0)), (1, .int x1), (2, .int x2), (3, .int x3), (4, .int x7), (5, .int x5)] [] u4 (k x7 u4)) ?_ ?_
      · intro x7 u4
        refine aw_iincx (i := 5) dX11_alarmOf_77 80 rfl 5 rfl 1 rfl (fun x8 => [(5, .int x8), (0, .ref (q_ad G 11 0)), (1, .int x1), (2, .int x2), (3, .int x3), (4, .int x7)]) (by decide) (fun _ => rfl) (fun x8 => ?_)
        refine aw_goto dX11_alarmOf_80 6 rfl ?_
        exact aw_conv [1, 2, 3, 4, 5, 0] rfl (ih x7 x8 u4)
      · intro j1 hj1
        refine aw_icmp_ne dX11_alarmOf_44 47 rfl 77 rfl (fun h3 => ?_) (fun h3 => ?_)
        · exact hj1 x4 u3
        · refine aw_aload_n (i := 0) dX11_alarmOf_47 48 rfl rfl 0 rfl ?_
          refine aw_bipush (x := 6) dX11_alarmOf_48 50 rfl rfl ?_
          refine aw_iload_n (i := 2) dX11_alarmOf_50 51 rfl rfl 2 rfl ?_
          refine aw_iload_n (i := 3) dX11_alarmOf_51 52 rfl rfl 3 rfl ?_
          refine aw_callV (M2 := m_X11_plays) (cv := q_cI) dX11_alarmOf_52 55 rfl (k_X11_plays l G 6 x2 x3  u3) wd_332 wv_X11_plays pk_X11_plays rfl rfl ⟨by decide, by decide⟩ ⟨Nat.zero_le _, Nat.zero_le _⟩ at_11 (ok_11 (by decide)) rfl rfl rfl (Nat.le_of_ble_eq_true rfl) (fun x9 u5 => ?_)
          show qAW l G m_X11_alarmOf (q_mq G q_cI) 55 [(0, .ref (q_ad G 11 0)), (1, .int x1), (2, .int x2), (3, .int x3), (4, .int x4), (5, .int x5)] [.int x9] u5 _
          refine aw_if_lt dX11_alarmOf_55 58 rfl 77 rfl (fun h4 => ?_) (fun h4 => ?_)
          · exact hj1 x4 u5
          · refine aw_aload_n (i := 0) dX11_alarmOf_58 59 rfl rfl 0 rfl ?_
            refine gf_X11_60 dX11_alarmOf_59 62 rfl wd_330 (ok_11 (by decide)) ?_
            refine aw_if_eq dX11_alarmOf_62 65 rfl 77 rfl (fun h5 => ?_) (fun h5 => ?_)
            · exact hj1 x4 u5
            · refine aw_iload (i := 4) dX11_alarmOf_65 67 rfl 4 rfl ?_
              refine aw_aload_n (i := 0) dX11_alarmOf_67 68 rfl rfl 0 rfl ?_
              refine gf_X11_64 dX11_alarmOf_68 71 rfl wd_335 (ok_11 (by decide)) ?_
              refine aw_iload (i := 5) dX11_alarmOf_71 73 rfl 5 rfl ?_
              refine aw_iald dX11_alarmOf_73 74 rfl at_124 (al_124 _) (ok_124 (by decide)) (fun h6 => ?_)
              refine aw_iadd dX11_alarmOf_74 75 rfl ?_
              refine aw_lti (fun x10 => ?_)
              refine aw_istore dX11_alarmOf_75 77 rfl [(4, .int x10), (0, .ref (q_ad G 11 0)), (1, .int x1), (2, .int x2), (3, .int x3), (5, .int x5)] (by decide) rfl ?_
              exact aw_conv [1, 2, 3, 4, 0, 5] rfl (hj1 x10 u5)
set_option maxRecDepth 100000 in
set_option maxHeartbeats 4000000 in
theorem k_X11_alarmOf (l : Launch) (G : qG) (x1 : Int32) (x2 : Int32) (x3 : Int32)  (u0 : qM) : qCt l G m_X11_alarmOf q_cI [.ref (q_ad G 11 0), .int x1, .int x2, .int x3] u0 (f_X11_alarmOf x1 x2 x3 u0) := by
  refine q_entry pk_X11_alarmOf (Nat.le_of_ble_eq_true rfl) ?_
  show qAW l G m_X11_alarmOf (q_mq G q_cI) 0 [(0, .ref (q_ad G 11 0)), (1, .int x1), (2, .int x2), (3, .int x3)] [] u0 (f_X11_alarmOf x1 x2 x3 u0)
  unfold f_X11_alarmOf
  refine aw_iconst (x := 0) dX11_alarmOf_0 1 rfl rfl ?_
  refine aw_istore dX11_alarmOf_1 3 rfl [(4, .int 0), (0, .ref (q_ad G 11 0)), (1, .int x1), (2, .int x2), (3, .int x3)] (by decide) rfl ?_
  refine aw_iconst (x := 0) dX11_alarmOf_3 4 rfl rfl ?_
  refine aw_istore dX11_alarmOf_4 6 rfl [(5, .int 0), (4, .int 0), (0, .ref (q_ad G 11 0)), (1, .int x1), (2, .int x2), (3, .int x3)] (by decide) rfl ?_
  refine aw_conv [2, 3, 4, 5, 1, 0] rfl (TL_X11_alarmOf_6 l G x1 x2 x3  _ ?_ _ 0 0 u0)
  · intro x11 u6
    refine aw_aload_n (i := 0) dX11_alarmOf_83 84 rfl rfl 0 rfl ?_
    refine gf_X11_14 dX11_alarmOf_84 87 rfl wd_250 (ok_11 (by decide)) ?_
    refine aw_bipush (x := 6) dX11_alarmOf_87 89 rfl rfl ?_
    refine aw_bipush (x := (-9)) dX11_alarmOf_89 91 rfl rfl ?_
    refine aw_iast dX11_alarmOf_91 92 rfl at_74 (al_74 _) (ok_74 (by decide)) (fun h7 => ?_)
    refine aw_ltm (fun u7 => ?_)
    refine aw_iload (i := 4) dX11_alarmOf_92 94 rfl 1 rfl ?_
    exact aw_iret dX11_alarmOf_94 rfl
theorem dX11_askedAlarm_0 : decode cX11_askedAlarm 0 = .ok (.iload_n 3, 1) := by decide +kernel
theorem dX11_askedAlarm_1 : decode cX11_askedAlarm 1 = .ok (.sipush (-1000), 3) := by decide +kernel
theorem dX11_askedAlarm_4 : decode cX11_askedAlarm 4 = .ok (.ldc_w 371, 3) := by decide +kernel
theorem dX11_askedAlarm_7 : decode cX11_askedAlarm 7 = .ok (.invokestatic 182, 3) := by decide +kernel
theorem dX11_askedAlarm_10 : decode cX11_askedAlarm 10 = .ok (.ifCond .ne 5, 3) := by decide +kernel
theorem dX11_askedAlarm_13 : decode cX11_askedAlarm 13 = .ok (.iconst (-1), 1) := by decide +kernel
theorem dX11_askedAlarm_14 : decode cX11_askedAlarm 14 = .ok (.ireturn, 1) := by decide +kernel
theorem dX11_askedAlarm_15 : decode cX11_askedAlarm 15 = .ok (.aload_n 0, 1) := by decide +kernel
theorem dX11_askedAlarm_16 : decode cX11_askedAlarm 16 = .ok (.iload_n 1, 1) := by decide +kernel
theorem dX11_askedAlarm_17 : decode cX11_askedAlarm 17 = .ok (.iload_n 2, 1) := by decide +kernel
theorem dX11_askedAlarm_18 : decode cX11_askedAlarm 18 = .ok (.invokevirtual 240, 3) := by decide +kernel
theorem dX11_askedAlarm_21 : decode cX11_askedAlarm 21 = .ok (.istore 4, 2) := by decide +kernel
theorem dX11_askedAlarm_23 : decode cX11_askedAlarm 23 = .ok (.iload 4, 2) := by decide +kernel
theorem dX11_askedAlarm_25 : decode cX11_askedAlarm 25 = .ok (.ifCond .ge 8, 3) := by decide +kernel
theorem dX11_askedAlarm_28 : decode cX11_askedAlarm 28 = .ok (.iload 4, 2) := by decide +kernel
theorem dX11_askedAlarm_30 : decode cX11_askedAlarm 30 = .ok (.goto 19, 3) := by decide +kernel
theorem dX11_askedAlarm_33 : decode cX11_askedAlarm 33 = .ok (.aload_n 0, 1) := by decide +kernel
theorem dX11_askedAlarm_34 : decode cX11_askedAlarm 34 = .ok (.invokevirtual 372, 3) := by decide +kernel
theorem dX11_askedAlarm_37 : decode cX11_askedAlarm 37 = .ok (.ifCond .ne 11, 3) := by decide +kernel
theorem dX11_askedAlarm_40 : decode cX11_askedAlarm 40 = .ok (.aload_n 0, 1) := by decide +kernel
theorem dX11_askedAlarm_41 : decode cX11_askedAlarm 41 = .ok (.iconst 4, 1) := by decide +kernel
theorem dX11_askedAlarm_42 : decode cX11_askedAlarm 42 = .ok (.invokevirtual 190, 3) := by decide +kernel
theorem dX11_askedAlarm_45 : decode cX11_askedAlarm 45 = .ok (.goto 4, 3) := by decide +kernel
theorem dX11_askedAlarm_48 : decode cX11_askedAlarm 48 = .ok (.iconst 0, 1) := by decide +kernel
theorem dX11_askedAlarm_49 : decode cX11_askedAlarm 49 = .ok (.ireturn, 1) := by decide +kernel
noncomputable def f_X11_askedAlarm (x1 : Int32) (x2 : Int32) (x3 : Int32) (u0 : qM) : Option (Int32 × qM) :=
  q_bd (f_X11_in x3 (-1000) 101000 u0) (fun (x4 : Int32) (u1 : qM) => if x4 = 0 then some ((-1), u1) else q_bd (f_X11_askedCell x1 x2 u1) (fun (x5 : Int32) (u2 : qM) => q_jn (fun (x6 : Int32) (u3 : qM) => some (x6, u3)) (fun j1 => if (0 : Int32) ≤ x5 then q_bd (f_X11_allWeights  u2) (fun (x7 : Int32) (u4 : qM) => if x7 = 0 then q_bd (f_X11_meets 4 u4) (fun (x8 : Int32) (u5 : qM) => j1 x8 u5) else j1 0 u4) else j1 x5 u2)))
set_option maxRecDepth 100000 in
set_option maxHeartbeats 4000000 in
theorem k_X11_askedAlarm (l : Launch) (G : qG) (x1 : Int32) (x2 : Int32) (x3 : Int32)  (u0 : qM) : qCt l G m_X11_askedAlarm q_cI [.ref (q_ad G 11 0), .int x1, .int x2, .int x3] u0 (f_X11_askedAlarm x1 x2 x3 u0) := by
  refine q_entry pk_X11_askedAlarm (Nat.le_of_ble_eq_true rfl) ?_
  show qAW l G m_X11_askedAlarm (q_mq G q_cI) 0 [(0, .ref (q_ad G 11 0)), (1, .int x1), (2, .int x2), (3, .int x3)] [] u0 (f_X11_askedAlarm x1 x2 x3 u0)
  unfold f_X11_askedAlarm
  refine aw_iload_n (i := 3) dX11_askedAlarm_0 1 rfl rfl 3 rfl ?_
  refine aw_sipush (x := (-1000)) dX11_askedAlarm_1 4 rfl rfl ?_
  refine aw_ldcw (x := 101000) dX11_askedAlarm_4 7 rfl wd_337 ?_
  refine aw_callS (M2 := m_X11_in) (cv := q_cI) dX11_askedAlarm_7 10 rfl (k_X11_in l G x3 (-1000) 101000  u0) wd_226 wv_X11_in pk_X11_in rfl ⟨by decide, by decide⟩ ⟨Nat.zero_le _, Nat.zero_le _⟩ rfl (Nat.le_of_ble_eq_true rfl) (fun x4 u1 => ?_)
  show qAW l G m_X11_askedAlarm (q_mq G q_cI) 10 [(0, .ref (q_ad G 11 0)), (1, .int x1), (2, .int x2), (3, .int x3)] [.int x4] u1 _
  refine aw_if_ne dX11_askedAlarm_10 13 rfl 15 rfl (fun h1 => ?_) (fun h1 => ?_)
  · refine aw_aload_n (i := 0) dX11_askedAlarm_15 16 rfl rfl 0 rfl ?_
    refine aw_iload_n (i := 1) dX11_askedAlarm_16 17 rfl rfl 1 rfl ?_
    refine aw_iload_n (i := 2) dX11_askedAlarm_17 18 rfl rfl 2 rfl ?_
    refine aw_callV (M2 := m_X11_askedCell) (cv := q_cI) dX11_askedAlarm_18 21 rfl (k_X11_askedCell l G x1 x2  u1) wd_275 wv_X11_askedCell pk_X11_askedCell rfl rfl ⟨by decide, by decide⟩ ⟨Nat.zero_le _, Nat.zero_le _⟩ at_11 (ok_11 (by decide)) rfl rfl rfl (Nat.le_of_ble_eq_true rfl) (fun x5 u2 => ?_)
    show qAW l G m_X11_askedAlarm (q_mq G q_cI) 21 [(0, .ref (q_ad G 11 0)), (1, .int x1), (2, .int x2), (3, .int x3)] [.int x5] u2 _
    refine aw_istore dX11_askedAlarm_21 23 rfl [(4, .int x5), (0, .ref (q_ad G 11 0)), (1, .int x1), (2, .int x2), (3, .int x3)] (by decide) rfl ?_
    refine aw_iload (i := 4) dX11_askedAlarm_23 25 rfl 0 rfl ?_
    refine aw_jn (fun k => ∀ (x6 : Int32) (u3 : qM), qAW l G m_X11_askedAlarm (q_mq G q_cI) 49 [] [.int x6] u3 (k x6 u3)) ?_ ?_
    · intro x6 u3
      exact aw_iret dX11_askedAlarm_49 rfl
    · intro j1 hj1
      refine aw_if_ge dX11_askedAlarm_25 28 rfl 33 rfl (fun h2 => ?_) (fun h2 => ?_)
      · refine aw_aload_n (i := 0) dX11_askedAlarm_33 34 rfl rfl 1 rfl ?_
        refine aw_callV (M2 := m_X11_allWeights) (cv := q_cI) dX11_askedAlarm_34 37 rfl (k_X11_allWeights l G   u2) wd_338 wv_X11_allWeights pk_X11_allWeights rfl rfl ⟨by decide, by decide⟩ ⟨Nat.zero_le _, Nat.zero_le _⟩ at_11 (ok_11 (by decide)) rfl rfl rfl (Nat.le_of_ble_eq_true rfl) (fun x7 u4 => ?_)
        show qAW l G m_X11_askedAlarm (q_mq G q_cI) 37 [(4, .int x5), (0, .ref (q_ad G 11 0)), (1, .int x1), (2, .int x2), (3, .int x3)] [.int x7] u4 _
        refine aw_if_ne dX11_askedAlarm_37 40 rfl 48 rfl (fun h3 => ?_) (fun h3 => ?_)
        · refine aw_iconst (x := 0) dX11_askedAlarm_48 49 rfl rfl ?_
          exact aw_conv [] rfl (hj1 0 u4)
        · refine aw_aload_n (i := 0) dX11_askedAlarm_40 41 rfl rfl 1 rfl ?_
          refine aw_iconst (x := 4) dX11_askedAlarm_41 42 rfl rfl ?_
          refine aw_callV (M2 := m_X11_meets) (cv := q_cI) dX11_askedAlarm_42 45 rfl (k_X11_meets l G 4  u4) wd_229 wv_X11_meets pk_X11_meets rfl rfl ⟨by decide, by decide⟩ ⟨Nat.zero_le _, Nat.zero_le _⟩ at_11 (ok_11 (by decide)) rfl rfl rfl (Nat.le_of_ble_eq_true rfl) (fun x8 u5 => ?_)
          show qAW l G m_X11_askedAlarm (q_mq G q_cI) 45 [(4, .int x5), (0, .ref (q_ad G 11 0)), (1, .int x1), (2, .int x2), (3, .int x3)] [.int x8] u5 _
          refine aw_goto dX11_askedAlarm_45 49 rfl ?_
          exact aw_conv [] rfl (hj1 x8 u5)
      · refine aw_iload (i := 4) dX11_askedAlarm_28 30 rfl 0 rfl ?_
        refine aw_goto dX11_askedAlarm_30 49 rfl ?_
        exact aw_conv [] rfl (hj1 x5 u2)
  · refine aw_iconst (x := (-1)) dX11_askedAlarm_13 14 rfl rfl ?_
    exact aw_iret dX11_askedAlarm_14 rfl
theorem dX11_alarm_0 : decode cX11_alarm 0 = .ok (.aload_n 0, 1) := by decide +kernel
theorem dX11_alarm_1 : decode cX11_alarm 1 = .ok (.iload_n 1, 1) := by decide +kernel
theorem dX11_alarm_2 : decode cX11_alarm 2 = .ok (.iload_n 2, 1) := by decide +kernel
theorem dX11_alarm_3 : decode cX11_alarm 3 = .ok (.iload_n 3, 1) := by decide +kernel
theorem dX11_alarm_4 : decode cX11_alarm 4 = .ok (.invokevirtual 375, 3) := by decide +kernel
theorem dX11_alarm_7 : decode cX11_alarm 7 = .ok (.istore 4, 2) := by decide +kernel
theorem dX11_alarm_9 : decode cX11_alarm 9 = .ok (.iload 4, 2) := by decide +kernel
theorem dX11_alarm_11 : decode cX11_alarm 11 = .ok (.ifCond .ge 8, 3) := by decide +kernel
theorem dX11_alarm_14 : decode cX11_alarm 14 = .ok (.iload 4, 2) := by decide +kernel
theorem dX11_alarm_16 : decode cX11_alarm 16 = .ok (.goto 21, 3) := by decide +kernel
theorem dX11_alarm_19 : decode cX11_alarm 19 = .ok (.aload_n 0, 1) := by decide +kernel
theorem dX11_alarm_20 : decode cX11_alarm 20 = .ok (.aload_n 0, 1) := by decide +kernel
theorem dX11_alarm_21 : decode cX11_alarm 21 = .ok (.iload_n 1, 1) := by decide +kernel
theorem dX11_alarm_22 : decode cX11_alarm 22 = .ok (.iload_n 2, 1) := by decide +kernel
theorem dX11_alarm_23 : decode cX11_alarm 23 = .ok (.iload_n 3, 1) := by decide +kernel
theorem dX11_alarm_24 : decode cX11_alarm 24 = .ok (.invokevirtual 378, 3) := by decide +kernel
theorem dX11_alarm_27 : decode cX11_alarm 27 = .ok (.i2l, 1) := by decide +kernel
theorem dX11_alarm_28 : decode cX11_alarm 28 = .ok (.aload_n 0, 1) := by decide +kernel
theorem dX11_alarm_29 : decode cX11_alarm 29 = .ok (.invokevirtual 372, 3) := by decide +kernel
theorem dX11_alarm_32 : decode cX11_alarm 32 = .ok (.i2l, 1) := by decide +kernel
theorem dX11_alarm_33 : decode cX11_alarm 33 = .ok (.iconst 1, 1) := by decide +kernel
theorem dX11_alarm_34 : decode cX11_alarm 34 = .ok (.invokevirtual 381, 3) := by decide +kernel
theorem dX11_alarm_37 : decode cX11_alarm 37 = .ok (.ireturn, 1) := by decide +kernel
noncomputable def f_X11_alarm (x1 : Int32) (x2 : Int32) (x3 : Int32) (u0 : qM) : Option (Int32 × qM) :=
  q_bd (f_X11_askedAlarm x1 x2 x3 u0) (fun (x4 : Int32) (u1 : qM) => q_jn (fun (x5 : Int32) (u2 : qM) => some (x5, u2)) (fun j1 => if (0 : Int32) ≤ x4 then q_bd (f_X11_alarmOf x1 x2 x3 u1) (fun (x6 : Int32) (u3 : qM) => q_bd (f_X11_allWeights  u3) (fun (x7 : Int32) (u4 : qM) => q_bd (f_X11_tell (Int32.toInt64 x6) (Int32.toInt64 x7) 1 u4) (fun (x8 : Int32) (u5 : qM) => j1 x8 u5))) else j1 x4 u1))
set_option maxRecDepth 100000 in
set_option maxHeartbeats 4000000 in
theorem k_X11_alarm (l : Launch) (G : qG) (x1 : Int32) (x2 : Int32) (x3 : Int32)  (u0 : qM) : qCt l G m_X11_alarm q_cI [.ref (q_ad G 11 0), .int x1, .int x2, .int x3] u0 (f_X11_alarm x1 x2 x3 u0) := by
  refine q_entry pk_X11_alarm (Nat.le_of_ble_eq_true rfl) ?_
  show qAW l G m_X11_alarm (q_mq G q_cI) 0 [(0, .ref (q_ad G 11 0)), (1, .int x1), (2, .int x2), (3, .int x3)] [] u0 (f_X11_alarm x1 x2 x3 u0)
  unfold f_X11_alarm
  refine aw_aload_n (i := 0) dX11_alarm_0 1 rfl rfl 0 rfl ?_
  refine aw_iload_n (i := 1) dX11_alarm_1 2 rfl rfl 1 rfl ?_
  refine aw_iload_n (i := 2) dX11_alarm_2 3 rfl rfl 2 rfl ?_
  refine aw_iload_n (i := 3) dX11_alarm_3 4 rfl rfl 3 rfl ?_
  refine aw_callV (M2 := m_X11_askedAlarm) (cv := q_cI) dX11_alarm_4 7 rfl (k_X11_askedAlarm l G x1 x2 x3  u0) wd_339 wv_X11_askedAlarm pk_X11_askedAlarm rfl rfl ⟨by decide, by decide⟩ ⟨Nat.zero_le _, Nat.zero_le _⟩ at_11 (ok_11 (by decide)) rfl rfl rfl (Nat.le_of_ble_eq_true rfl) (fun x4 u1 => ?_)
  show qAW l G m_X11_alarm (q_mq G q_cI) 7 [(0, .ref (q_ad G 11 0)), (1, .int x1), (2, .int x2), (3, .int x3)] [.int x4] u1 _
  refine aw_istore dX11_alarm_7 9 rfl [(4, .int x4), (0, .ref (q_ad G 11 0)), (1, .int x1), (2, .int x2), (3, .int x3)] (by decide) rfl ?_
  refine aw_iload (i := 4) dX11_alarm_9 11 rfl 0 rfl ?_
  refine aw_jn (fun k => ∀ (x5 : Int32) (u2 : qM), qAW l G m_X11_alarm (q_mq G q_cI) 37 [] [.int x5] u2 (k x5 u2)) ?_ ?_
  · intro x5 u2
    exact aw_iret dX11_alarm_37 rfl
  · intro j1 hj1
    refine aw_if_ge dX11_alarm_11 14 rfl 19 rfl (fun h1 => ?_) (fun h1 => ?_)
    · refine aw_aload_n (i := 0) dX11_alarm_19 20 rfl rfl 1 rfl ?_
      refine aw_aload_n (i := 0) dX11_alarm_20 21 rfl rfl 1 rfl ?_
      refine aw_iload_n (i := 1) dX11_alarm_21 22 rfl rfl 2 rfl ?_
      refine aw_iload_n (i := 2) dX11_alarm_22 23 rfl rfl 3 rfl ?_
      refine aw_iload_n (i := 3) dX11_alarm_23 24 rfl rfl 4 rfl ?_
      refine aw_callV (M2 := m_X11_alarmOf) (cv := q_cI) dX11_alarm_24 27 rfl (k_X11_alarmOf l G x1 x2 x3  u1) wd_340 wv_X11_alarmOf pk_X11_alarmOf rfl rfl ⟨by decide, by decide⟩ ⟨Nat.zero_le _, Nat.zero_le _⟩ at_11 (ok_11 (by decide)) rfl rfl rfl (Nat.le_of_ble_eq_true rfl) (fun x6 u3 => ?_)
      show qAW l G m_X11_alarm (q_mq G q_cI) 27 [(4, .int x4), (0, .ref (q_ad G 11 0)), (1, .int x1), (2, .int x2), (3, .int x3)] [.int x6, .ref (q_ad G 11 0)] u3 _
      refine aw_i2l dX11_alarm_27 28 rfl ?_
      refine aw_aload_n (i := 0) dX11_alarm_28 29 rfl rfl 1 rfl ?_
      refine aw_callV (M2 := m_X11_allWeights) (cv := q_cI) dX11_alarm_29 32 rfl (k_X11_allWeights l G   u3) wd_338 wv_X11_allWeights pk_X11_allWeights rfl rfl ⟨by decide, by decide⟩ ⟨Nat.zero_le _, Nat.zero_le _⟩ at_11 (ok_11 (by decide)) rfl rfl rfl (Nat.le_of_ble_eq_true rfl) (fun x7 u4 => ?_)
      show qAW l G m_X11_alarm (q_mq G q_cI) 32 [(4, .int x4), (0, .ref (q_ad G 11 0)), (1, .int x1), (2, .int x2), (3, .int x3)] [.int x7, .long (Int32.toInt64 x6), .ref (q_ad G 11 0)] u4 _
      refine aw_i2l dX11_alarm_32 33 rfl ?_
      refine aw_iconst (x := 1) dX11_alarm_33 34 rfl rfl ?_
      refine aw_callV (M2 := m_X11_tell) (cv := q_cI) dX11_alarm_34 37 rfl (k_X11_tell l G (Int32.toInt64 x6) (Int32.toInt64 x7) 1  u4) wd_341 wv_X11_tell pk_X11_tell rfl rfl ⟨by decide, by decide⟩ ⟨Nat.zero_le _, Nat.zero_le _⟩ at_11 (ok_11 (by decide)) rfl rfl rfl (Nat.le_of_ble_eq_true rfl) (fun x8 u5 => ?_)
      show qAW l G m_X11_alarm (q_mq G q_cI) 37 [(4, .int x4), (0, .ref (q_ad G 11 0)), (1, .int x1), (2, .int x2), (3, .int x3)] [.int x8] u5 _
      exact aw_conv [] rfl (hj1 x8 u5)
    · refine aw_iload (i := 4) dX11_alarm_14 16 rfl 0 rfl ?_
      refine aw_goto dX11_alarm_16 37 rfl ?_
      exact aw_conv [] rfl (hj1 x4 u1)
theorem dX11_post_0 : decode cX11_post 0 = .ok (.aload_n 0, 1) := by decide +kernel
theorem dX11_post_1 : decode cX11_post 1 = .ok (.iload_n 1, 1) := by decide +kernel
theorem dX11_post_2 : decode cX11_post 2 = .ok (.iload_n 2, 1) := by decide +kernel
theorem dX11_post_3 : decode cX11_post 3 = .ok (.invokevirtual 249, 3) := by decide +kernel
theorem dX11_post_6 : decode cX11_post 6 = .ok (.istore_n 3, 1) := by decide +kernel
theorem dX11_post_7 : decode cX11_post 7 = .ok (.iload_n 3, 1) := by decide +kernel
theorem dX11_post_8 : decode cX11_post 8 = .ok (.ifCond .ge 5, 3) := by decide +kernel
theorem dX11_post_11 : decode cX11_post 11 = .ok (.iload_n 3, 1) := by decide +kernel
theorem dX11_post_12 : decode cX11_post 12 = .ok (.ireturn, 1) := by decide +kernel
theorem dX11_post_13 : decode cX11_post 13 = .ok (.aload_n 0, 1) := by decide +kernel
theorem dX11_post_14 : decode cX11_post 14 = .ok (.getfield 83, 3) := by decide +kernel
theorem dX11_post_17 : decode cX11_post 17 = .ok (.iload_n 1, 1) := by decide +kernel
theorem dX11_post_18 : decode cX11_post 18 = .ok (.iaload, 1) := by decide +kernel
theorem dX11_post_19 : decode cX11_post 19 = .ok (.iconst 4, 1) := by decide +kernel
theorem dX11_post_20 : decode cX11_post 20 = .ok (.if_icmp .ne 6, 3) := by decide +kernel
theorem dX11_post_23 : decode cX11_post 23 = .ok (.bipush (-2), 2) := by decide +kernel
theorem dX11_post_25 : decode cX11_post 25 = .ok (.ireturn, 1) := by decide +kernel
theorem dX11_post_26 : decode cX11_post 26 = .ok (.aload_n 0, 1) := by decide +kernel
theorem dX11_post_27 : decode cX11_post 27 = .ok (.getfield 86, 3) := by decide +kernel
theorem dX11_post_30 : decode cX11_post 30 = .ok (.iconst 4, 1) := by decide +kernel
theorem dX11_post_31 : decode cX11_post 31 = .ok (.iload_n 1, 1) := by decide +kernel
theorem dX11_post_32 : decode cX11_post 32 = .ok (.imul, 1) := by decide +kernel
theorem dX11_post_33 : decode cX11_post 33 = .ok (.aload_n 0, 1) := by decide +kernel
theorem dX11_post_34 : decode cX11_post 34 = .ok (.getfield 83, 3) := by decide +kernel
theorem dX11_post_37 : decode cX11_post 37 = .ok (.iload_n 1, 1) := by decide +kernel
theorem dX11_post_38 : decode cX11_post 38 = .ok (.iaload, 1) := by decide +kernel
theorem dX11_post_39 : decode cX11_post 39 = .ok (.iadd, 1) := by decide +kernel
theorem dX11_post_40 : decode cX11_post 40 = .ok (.iload_n 2, 1) := by decide +kernel
theorem dX11_post_41 : decode cX11_post 41 = .ok (.iastore, 1) := by decide +kernel
theorem dX11_post_42 : decode cX11_post 42 = .ok (.aload_n 0, 1) := by decide +kernel
theorem dX11_post_43 : decode cX11_post 43 = .ok (.getfield 83, 3) := by decide +kernel
theorem dX11_post_46 : decode cX11_post 46 = .ok (.iload_n 1, 1) := by decide +kernel
theorem dX11_post_47 : decode cX11_post 47 = .ok (.dup2, 1) := by decide +kernel
theorem dX11_post_48 : decode cX11_post 48 = .ok (.iaload, 1) := by decide +kernel
theorem dX11_post_49 : decode cX11_post 49 = .ok (.iconst 1, 1) := by decide +kernel
theorem dX11_post_50 : decode cX11_post 50 = .ok (.iadd, 1) := by decide +kernel
theorem dX11_post_51 : decode cX11_post 51 = .ok (.iastore, 1) := by decide +kernel
theorem dX11_post_52 : decode cX11_post 52 = .ok (.aload_n 0, 1) := by decide +kernel
theorem dX11_post_53 : decode cX11_post 53 = .ok (.getfield 83, 3) := by decide +kernel
theorem dX11_post_56 : decode cX11_post 56 = .ok (.iload_n 1, 1) := by decide +kernel
theorem dX11_post_57 : decode cX11_post 57 = .ok (.iaload, 1) := by decide +kernel
theorem dX11_post_58 : decode cX11_post 58 = .ok (.ireturn, 1) := by decide +kernel
noncomputable def f_X11_post (x1 : Int32) (x2 : Int32) (u0 : qM) : Option (Int32 × qM) :=
  q_bd (f_X11_askedFace x1 x2 u0) (fun (x3 : Int32) (u1 : qM) => if (0 : Int32) ≤ x3 then q_ck (q_in x1 8) (if (u1.1 89 0 (Int32.toNatClampNeg x1)) = 4 then some ((-2), u1) else q_ck (q_in x1 8) (q_ck (q_in ((4 * x1) + (u1.1 89 0 (Int32.toNatClampNeg x1))) 32) (q_lt (q_si u1 90 0 (Int32.toNatClampNeg ((4 * x1) + (u1.1 89 0 (Int32.toNatClampNeg x1)))) x2) (fun (u2 : qM) => q_ck (q_in x1 8) (q_ck (q_in x1 8) (q_lt (q_si u2 89 0 (Int32.toNatClampNeg x1) ((u2.1 89 0 (Int32.toNatClampNeg x1)) + 1)) (fun (u3 : qM) => q_ck (q_in x1 8) (some (u3.1 89 0 (Int32.toNatClampNeg x1), u3))))))))) else some (x3, u1))
set_option maxRecDepth 100000 in
set_option maxHeartbeats 4000000 in
theorem k_X11_post (l : Launch) (G : qG) (x1 : Int32) (x2 : Int32)  (u0 : qM) : qCt l G m_X11_post q_cI [.ref (q_ad G 11 0), .int x1, .int x2] u0 (f_X11_post x1 x2 u0) := by
  refine q_entry pk_X11_post (Nat.le_of_ble_eq_true rfl) ?_
  show qAW l G m_X11_post (q_mq G q_cI) 0 [(0, .ref (q_ad G 11 0)), (1, .int x1), (2, .int x2)] [] u0 (f_X11_post x1 x2 u0)
  unfold f_X11_post
  refine aw_aload_n (i := 0) dX11_post_0 1 rfl rfl 0 rfl ?_
  refine aw_iload_n (i := 1) dX11_post_1 2 rfl rfl 1 rfl ?_
  refine aw_iload_n (i := 2) dX11_post_2 3 rfl rfl 2 rfl ?_
  refine aw_callV (M2 := m_X11_askedFace) (cv := q_cI) dX11_post_3 6 rfl (k_X11_askedFace l G x1 x2  u0) wd_278 wv_X11_askedFace pk_X11_askedFace rfl rfl ⟨by decide, by decide⟩ ⟨Nat.zero_le _, Nat.zero_le _⟩ at_11 (ok_11 (by decide)) rfl rfl rfl (Nat.le_of_ble_eq_true rfl) (fun x3 u1 => ?_)
  show qAW l G m_X11_post (q_mq G q_cI) 6 [(0, .ref (q_ad G 11 0)), (1, .int x1), (2, .int x2)] [.int x3] u1 _
  refine aw_istore_n dX11_post_6 7 rfl rfl [(3, .int x3), (0, .ref (q_ad G 11 0)), (1, .int x1), (2, .int x2)] (by decide) rfl ?_
  refine aw_iload_n (i := 3) dX11_post_7 8 rfl rfl 0 rfl ?_
  refine aw_if_ge dX11_post_8 11 rfl 13 rfl (fun h1 => ?_) (fun h1 => ?_)
  · refine aw_aload_n (i := 0) dX11_post_13 14 rfl rfl 1 rfl ?_
    refine gf_X11_29 dX11_post_14 17 rfl wd_266 (ok_11 (by decide)) ?_
    refine aw_iload_n (i := 1) dX11_post_17 18 rfl rfl 2 rfl ?_
    refine aw_iald dX11_post_18 19 rfl at_89 (al_89 _) (ok_89 (by decide)) (fun h2 => ?_)
    refine aw_iconst (x := 4) dX11_post_19 20 rfl rfl ?_
    refine aw_icmp_ne dX11_post_20 23 rfl 26 rfl (fun h3 => ?_) (fun h3 => ?_)
    · refine aw_aload_n (i := 0) dX11_post_26 27 rfl rfl 1 rfl ?_
      refine gf_X11_30 dX11_post_27 30 rfl wd_305 (ok_11 (by decide)) ?_
      refine aw_iconst (x := 4) dX11_post_30 31 rfl rfl ?_
      refine aw_iload_n (i := 1) dX11_post_31 32 rfl rfl 2 rfl ?_
      refine aw_imul dX11_post_32 33 rfl ?_
      refine aw_aload_n (i := 0) dX11_post_33 34 rfl rfl 1 rfl ?_
      refine gf_X11_29 dX11_post_34 37 rfl wd_266 (ok_11 (by decide)) ?_
      refine aw_iload_n (i := 1) dX11_post_37 38 rfl rfl 2 rfl ?_
      refine aw_iald dX11_post_38 39 rfl at_89 (al_89 _) (ok_89 (by decide)) (fun h4 => ?_)
      refine aw_iadd dX11_post_39 40 rfl ?_
      refine aw_iload_n (i := 2) dX11_post_40 41 rfl rfl 3 rfl ?_
      refine aw_iast dX11_post_41 42 rfl at_90 (al_90 _) (ok_90 (by decide)) (fun h5 => ?_)
      refine aw_ltm (fun u2 => ?_)
      refine aw_aload_n (i := 0) dX11_post_42 43 rfl rfl 1 rfl ?_
      refine gf_X11_29 dX11_post_43 46 rfl wd_266 (ok_11 (by decide)) ?_
      refine aw_iload_n (i := 1) dX11_post_46 47 rfl rfl 2 rfl ?_
      refine aw_dup2 dX11_post_47 48 rfl rfl rfl ?_
      refine aw_iald dX11_post_48 49 rfl at_89 (al_89 _) (ok_89 (by decide)) (fun h6 => ?_)
      refine aw_iconst (x := 1) dX11_post_49 50 rfl rfl ?_
      refine aw_iadd dX11_post_50 51 rfl ?_
      refine aw_iast dX11_post_51 52 rfl at_89 (al_89 _) (ok_89 (by decide)) (fun h7 => ?_)
      refine aw_ltm (fun u3 => ?_)
      refine aw_aload_n (i := 0) dX11_post_52 53 rfl rfl 1 rfl ?_
      refine gf_X11_29 dX11_post_53 56 rfl wd_266 (ok_11 (by decide)) ?_
      refine aw_iload_n (i := 1) dX11_post_56 57 rfl rfl 2 rfl ?_
      refine aw_iald dX11_post_57 58 rfl at_89 (al_89 _) (ok_89 (by decide)) (fun h8 => ?_)
      exact aw_iret dX11_post_58 rfl
    · refine aw_bipush (x := (-2)) dX11_post_23 25 rfl rfl ?_
      exact aw_iret dX11_post_25 rfl
  · refine aw_iload_n (i := 3) dX11_post_11 12 rfl rfl 0 rfl ?_
    exact aw_iret dX11_post_12 rfl
theorem dX11_bits_0 : decode cX11_bits 0 = .ok (.iconst 0, 1) := by decide +kernel
theorem dX11_bits_1 : decode cX11_bits 1 = .ok (.istore_n 1, 1) := by decide +kernel
theorem dX11_bits_2 : decode cX11_bits 2 = .ok (.iconst 0, 1) := by decide +kernel
theorem dX11_bits_3 : decode cX11_bits 3 = .ok (.istore_n 2, 1) := by decide +kernel
theorem dX11_bits_4 : decode cX11_bits 4 = .ok (.iload_n 2, 1) := by decide +kernel
theorem dX11_bits_5 : decode cX11_bits 5 = .ok (.iconst 4, 1) := by decide +kernel
theorem dX11_bits_6 : decode cX11_bits 6 = .ok (.if_icmp .ge 17, 3) := by decide +kernel
theorem dX11_bits_9 : decode cX11_bits 9 = .ok (.iload_n 1, 1) := by decide +kernel
theorem dX11_bits_10 : decode cX11_bits 10 = .ok (.iload_n 0, 1) := by decide +kernel
theorem dX11_bits_11 : decode cX11_bits 11 = .ok (.iload_n 2, 1) := by decide +kernel
theorem dX11_bits_12 : decode cX11_bits 12 = .ok (.ishr, 1) := by decide +kernel
theorem dX11_bits_13 : decode cX11_bits 13 = .ok (.iconst 1, 1) := by decide +kernel
theorem dX11_bits_14 : decode cX11_bits 14 = .ok (.iand, 1) := by decide +kernel
theorem dX11_bits_15 : decode cX11_bits 15 = .ok (.iadd, 1) := by decide +kernel
theorem dX11_bits_16 : decode cX11_bits 16 = .ok (.istore_n 1, 1) := by decide +kernel
theorem dX11_bits_17 : decode cX11_bits 17 = .ok (.iinc 2 1, 3) := by decide +kernel
theorem dX11_bits_20 : decode cX11_bits 20 = .ok (.goto (-16), 3) := by decide +kernel
theorem dX11_bits_23 : decode cX11_bits 23 = .ok (.iload_n 1, 1) := by decide +kernel
theorem dX11_bits_24 : decode cX11_bits 24 = .ok (.ireturn, 1) := by decide +kernel
noncomputable def L_X11_bits_4 (x1 : Int32) : Nat → Int32 → Int32 → qM → (Int32 → qM → Option (Int32 × qM)) → Option (Int32 × qM)
  | 0, _, _, _, _ => none
  | n + 1, x2, x3, u1, e1 => if 4 ≤ x3 then e1 x2 u1 else q_lt (x2 + ((x1 >>> (x3 &&& 31)) &&& 1)) (fun (x4 : Int32) => q_lt (x3 + 1) (fun (x5 : Int32) => L_X11_bits_4 x1 n x4 x5 u1 e1))
noncomputable def f_X11_bits (x1 : Int32) (u0 : qM) : Option (Int32 × qM) :=
  L_X11_bits_4 x1 q_fu 0 0 u0 (fun x6 u2 => some (x6, u2))
set_option maxRecDepth 100000 in
set_option maxHeartbeats 4000000 in
theorem TL_X11_bits_4 (l : Launch) (G : qG) (x1 : Int32)  (e1 : Int32 → qM → Option (Int32 × qM)) (he1 : ∀ (y1 : Int32) (v : qM), qAW l G m_X11_bits (q_mq G q_cI) 23 [(1, .int y1)] [] v (e1 y1 v)) : ∀ (n : Nat) (x2 : Int32) (x3 : Int32) (u1 : qM), qAW l G m_X11_bits (q_mq G q_cI) 4 [(0, .int x1), (1, .int x2), (2, .int x3)] [] u1 (L_X11_bits_4 x1 n x2 x3 u1 e1) := by
  intro n
  induction n with
  | zero => intros; exact aw_none
  | succ n ih =>
    intro x2 x3 u1
    unfold L_X11_bits_4
    refine aw_iload_n (i := 2) dX11_bits_4 5 rfl rfl 2 rfl ?_
    refine aw_iconst (x := 4) dX11_bits_5 6 rfl rfl ?_
    refine aw_icmp_ge dX11_bits_6 9 rfl 23 rfl (fun h1 => ?_) (fun h1 => ?_)
    · exact aw_conv [1] rfl (he1 x2 u1)
    · refine aw_iload_n (i := 1) dX11_bits_9 10 rfl rfl 1 rfl ?_
      refine aw_iload_n (i := 0) dX11_bits_10 11 rfl rfl 0 rfl ?_
      refine aw_iload_n (i := 2) dX11_bits_11 12 rfl rfl 2 rfl ?_
      refine aw_ishr dX11_bits_12 13 rfl ?_
      refine aw_iconst (x := 1) dX11_bits_13 14 rfl rfl ?_
      refine aw_iand dX11_bits_14 15 rfl ?_
      refine aw_iadd dX11_bits_15 16 rfl ?_
      refine aw_lti (fun x4 => ?_)
      refine aw_istore_n dX11_bits_16 17 rfl rfl [(1, .int x4), (0, .int x1), (2, .int x3)] (by decide) rfl ?_
      refine aw_iincx (i := 2) dX11_bits_17 20 rfl 2 rfl 1 rfl (fun x5 => [(2, .int x5), (1, .int x4), (0, .int x1)]) (by decide) (fun _ => rfl) (fun x5 => ?_)
      refine aw_goto dX11_bits_20 4 rfl ?_
      exact aw_conv [2, 1, 0] rfl (ih x4 x5 u1)
set_option maxRecDepth 100000 in
set_option maxHeartbeats 4000000 in
theorem k_X11_bits (l : Launch) (G : qG) (x1 : Int32)  (u0 : qM) : qCt l G m_X11_bits q_cI [.int x1] u0 (f_X11_bits x1 u0) := by
  refine q_entry pk_X11_bits (Nat.le_of_ble_eq_true rfl) ?_
  show qAW l G m_X11_bits (q_mq G q_cI) 0 [(0, .int x1)] [] u0 (f_X11_bits x1 u0)
  unfold f_X11_bits
  refine aw_iconst (x := 0) dX11_bits_0 1 rfl rfl ?_
  refine aw_istore_n dX11_bits_1 2 rfl rfl [(1, .int 0), (0, .int x1)] (by decide) rfl ?_
  refine aw_iconst (x := 0) dX11_bits_2 3 rfl rfl ?_
  refine aw_istore_n dX11_bits_3 4 rfl rfl [(2, .int 0), (1, .int 0), (0, .int x1)] (by decide) rfl ?_
  refine aw_conv [2, 1, 0] rfl (TL_X11_bits_4 l G x1  _ ?_ _ 0 0 u0)
  · intro x6 u2
    refine aw_iload_n (i := 1) dX11_bits_23 24 rfl rfl 0 rfl ?_
    exact aw_iret dX11_bits_24 rfl
theorem dX11_gates_0 : decode cX11_gates 0 = .ok (.aload_n 0, 1) := by decide +kernel
theorem dX11_gates_1 : decode cX11_gates 1 = .ok (.iload_n 1, 1) := by decide +kernel
theorem dX11_gates_2 : decode cX11_gates 2 = .ok (.iload_n 2, 1) := by decide +kernel
theorem dX11_gates_3 : decode cX11_gates 3 = .ok (.iload_n 3, 1) := by decide +kernel
theorem dX11_gates_4 : decode cX11_gates 4 = .ok (.invokevirtual 375, 3) := by decide +kernel
theorem dX11_gates_7 : decode cX11_gates 7 = .ok (.istore 4, 2) := by decide +kernel
theorem dX11_gates_9 : decode cX11_gates 9 = .ok (.iload 4, 2) := by decide +kernel
theorem dX11_gates_11 : decode cX11_gates 11 = .ok (.ifCond .ge 6, 3) := by decide +kernel
theorem dX11_gates_14 : decode cX11_gates 14 = .ok (.iload 4, 2) := by decide +kernel
theorem dX11_gates_16 : decode cX11_gates 16 = .ok (.ireturn, 1) := by decide +kernel
theorem dX11_gates_17 : decode cX11_gates 17 = .ok (.iconst 0, 1) := by decide +kernel
theorem dX11_gates_18 : decode cX11_gates 18 = .ok (.istore 5, 2) := by decide +kernel
theorem dX11_gates_20 : decode cX11_gates 20 = .ok (.bipush (-9), 2) := by decide +kernel
theorem dX11_gates_22 : decode cX11_gates 22 = .ok (.istore 6, 2) := by decide +kernel
theorem dX11_gates_24 : decode cX11_gates 24 = .ok (.iconst 0, 1) := by decide +kernel
theorem dX11_gates_25 : decode cX11_gates 25 = .ok (.istore 7, 2) := by decide +kernel
theorem dX11_gates_27 : decode cX11_gates 27 = .ok (.iload 7, 2) := by decide +kernel
theorem dX11_gates_29 : decode cX11_gates 29 = .ok (.iconst 1, 1) := by decide +kernel
theorem dX11_gates_30 : decode cX11_gates 30 = .ok (.aload_n 0, 1) := by decide +kernel
theorem dX11_gates_31 : decode cX11_gates 31 = .ok (.getfield 83, 3) := by decide +kernel
theorem dX11_gates_34 : decode cX11_gates 34 = .ok (.iload_n 1, 1) := by decide +kernel
theorem dX11_gates_35 : decode cX11_gates 35 = .ok (.iaload, 1) := by decide +kernel
theorem dX11_gates_36 : decode cX11_gates 36 = .ok (.ishl, 1) := by decide +kernel
theorem dX11_gates_37 : decode cX11_gates 37 = .ok (.if_icmp .ge 118, 3) := by decide +kernel
theorem dX11_gates_40 : decode cX11_gates 40 = .ok (.aload_n 0, 1) := by decide +kernel
theorem dX11_gates_41 : decode cX11_gates 41 = .ok (.iload_n 1, 1) := by decide +kernel
theorem dX11_gates_42 : decode cX11_gates 42 = .ok (.bipush 7, 2) := by decide +kernel
theorem dX11_gates_44 : decode cX11_gates 44 = .ok (.invokevirtual 299, 3) := by decide +kernel
theorem dX11_gates_47 : decode cX11_gates 47 = .ok (.iconst 0, 1) := by decide +kernel
theorem dX11_gates_48 : decode cX11_gates 48 = .ok (.istore 8, 2) := by decide +kernel
theorem dX11_gates_50 : decode cX11_gates 50 = .ok (.iload 8, 2) := by decide +kernel
theorem dX11_gates_52 : decode cX11_gates 52 = .ok (.aload_n 0, 1) := by decide +kernel
theorem dX11_gates_53 : decode cX11_gates 53 = .ok (.getfield 83, 3) := by decide +kernel
theorem dX11_gates_56 : decode cX11_gates 56 = .ok (.iload_n 1, 1) := by decide +kernel
theorem dX11_gates_57 : decode cX11_gates 57 = .ok (.iaload, 1) := by decide +kernel
theorem dX11_gates_58 : decode cX11_gates 58 = .ok (.if_icmp .ge 41, 3) := by decide +kernel
theorem dX11_gates_61 : decode cX11_gates 61 = .ok (.iload 7, 2) := by decide +kernel
theorem dX11_gates_63 : decode cX11_gates 63 = .ok (.iload 8, 2) := by decide +kernel
theorem dX11_gates_65 : decode cX11_gates 65 = .ok (.ishr, 1) := by decide +kernel
theorem dX11_gates_66 : decode cX11_gates 66 = .ok (.iconst 1, 1) := by decide +kernel
theorem dX11_gates_67 : decode cX11_gates 67 = .ok (.iand, 1) := by decide +kernel
theorem dX11_gates_68 : decode cX11_gates 68 = .ok (.iconst 1, 1) := by decide +kernel
theorem dX11_gates_69 : decode cX11_gates 69 = .ok (.if_icmp .ne 24, 3) := by decide +kernel
theorem dX11_gates_72 : decode cX11_gates 72 = .ok (.aload_n 0, 1) := by decide +kernel
theorem dX11_gates_73 : decode cX11_gates 73 = .ok (.getfield 101, 3) := by decide +kernel
theorem dX11_gates_76 : decode cX11_gates 76 = .ok (.sipush 672, 3) := by decide +kernel
theorem dX11_gates_79 : decode cX11_gates 79 = .ok (.aload_n 0, 1) := by decide +kernel
theorem dX11_gates_80 : decode cX11_gates 80 = .ok (.getfield 86, 3) := by decide +kernel
theorem dX11_gates_83 : decode cX11_gates 83 = .ok (.iconst 4, 1) := by decide +kernel
theorem dX11_gates_84 : decode cX11_gates 84 = .ok (.iload_n 1, 1) := by decide +kernel
theorem dX11_gates_85 : decode cX11_gates 85 = .ok (.imul, 1) := by decide +kernel
theorem dX11_gates_86 : decode cX11_gates 86 = .ok (.iload 8, 2) := by decide +kernel
theorem dX11_gates_88 : decode cX11_gates 88 = .ok (.iadd, 1) := by decide +kernel
theorem dX11_gates_89 : decode cX11_gates 89 = .ok (.iaload, 1) := by decide +kernel
theorem dX11_gates_90 : decode cX11_gates 90 = .ok (.iadd, 1) := by decide +kernel
theorem dX11_gates_91 : decode cX11_gates 91 = .ok (.iconst 1, 1) := by decide +kernel
theorem dX11_gates_92 : decode cX11_gates 92 = .ok (.bastore, 1) := by decide +kernel
theorem dX11_gates_93 : decode cX11_gates 93 = .ok (.iinc 8 1, 3) := by decide +kernel
theorem dX11_gates_96 : decode cX11_gates 96 = .ok (.goto (-46), 3) := by decide +kernel
theorem dX11_gates_99 : decode cX11_gates 99 = .ok (.aload_n 0, 1) := by decide +kernel
theorem dX11_gates_100 : decode cX11_gates 100 = .ok (.bipush 7, 2) := by decide +kernel
theorem dX11_gates_102 : decode cX11_gates 102 = .ok (.iload_n 2, 1) := by decide +kernel
theorem dX11_gates_103 : decode cX11_gates 103 = .ok (.iload_n 3, 1) := by decide +kernel
theorem dX11_gates_104 : decode cX11_gates 104 = .ok (.invokevirtual 378, 3) := by decide +kernel
theorem dX11_gates_107 : decode cX11_gates 107 = .ok (.istore 8, 2) := by decide +kernel
theorem dX11_gates_109 : decode cX11_gates 109 = .ok (.iload 6, 2) := by decide +kernel
theorem dX11_gates_111 : decode cX11_gates 111 = .ok (.ifCond .lt 30, 3) := by decide +kernel
theorem dX11_gates_114 : decode cX11_gates 114 = .ok (.iload 8, 2) := by decide +kernel
theorem dX11_gates_116 : decode cX11_gates 116 = .ok (.iload 6, 2) := by decide +kernel
theorem dX11_gates_118 : decode cX11_gates 118 = .ok (.if_icmp .lt 23, 3) := by decide +kernel
theorem dX11_gates_121 : decode cX11_gates 121 = .ok (.iload 8, 2) := by decide +kernel
theorem dX11_gates_123 : decode cX11_gates 123 = .ok (.iload 6, 2) := by decide +kernel
theorem dX11_gates_125 : decode cX11_gates 125 = .ok (.if_icmp .ne 24, 3) := by decide +kernel
theorem dX11_gates_128 : decode cX11_gates 128 = .ok (.iload 7, 2) := by decide +kernel
theorem dX11_gates_130 : decode cX11_gates 130 = .ok (.invokestatic 385, 3) := by decide +kernel
theorem dX11_gates_133 : decode cX11_gates 133 = .ok (.iload 5, 2) := by decide +kernel
theorem dX11_gates_135 : decode cX11_gates 135 = .ok (.invokestatic 385, 3) := by decide +kernel
theorem dX11_gates_138 : decode cX11_gates 138 = .ok (.if_icmp .ge 11, 3) := by decide +kernel
theorem dX11_gates_141 : decode cX11_gates 141 = .ok (.iload 7, 2) := by decide +kernel
theorem dX11_gates_143 : decode cX11_gates 143 = .ok (.istore 5, 2) := by decide +kernel
theorem dX11_gates_145 : decode cX11_gates 145 = .ok (.iload 8, 2) := by decide +kernel
theorem dX11_gates_147 : decode cX11_gates 147 = .ok (.istore 6, 2) := by decide +kernel
theorem dX11_gates_149 : decode cX11_gates 149 = .ok (.iinc 7 1, 3) := by decide +kernel
theorem dX11_gates_152 : decode cX11_gates 152 = .ok (.goto (-125), 3) := by decide +kernel
theorem dX11_gates_155 : decode cX11_gates 155 = .ok (.aload_n 0, 1) := by decide +kernel
theorem dX11_gates_156 : decode cX11_gates 156 = .ok (.getfield 38, 3) := by decide +kernel
theorem dX11_gates_159 : decode cX11_gates 159 = .ok (.bipush 7, 2) := by decide +kernel
theorem dX11_gates_161 : decode cX11_gates 161 = .ok (.bipush (-9), 2) := by decide +kernel
theorem dX11_gates_163 : decode cX11_gates 163 = .ok (.iastore, 1) := by decide +kernel
theorem dX11_gates_164 : decode cX11_gates 164 = .ok (.aload_n 0, 1) := by decide +kernel
theorem dX11_gates_165 : decode cX11_gates 165 = .ok (.iload 6, 2) := by decide +kernel
theorem dX11_gates_167 : decode cX11_gates 167 = .ok (.i2l, 1) := by decide +kernel
theorem dX11_gates_168 : decode cX11_gates 168 = .ok (.aload_n 0, 1) := by decide +kernel
theorem dX11_gates_169 : decode cX11_gates 169 = .ok (.invokevirtual 372, 3) := by decide +kernel
theorem dX11_gates_172 : decode cX11_gates 172 = .ok (.i2l, 1) := by decide +kernel
theorem dX11_gates_173 : decode cX11_gates 173 = .ok (.iload 5, 2) := by decide +kernel
theorem dX11_gates_175 : decode cX11_gates 175 = .ok (.invokevirtual 381, 3) := by decide +kernel
theorem dX11_gates_178 : decode cX11_gates 178 = .ok (.ireturn, 1) := by decide +kernel
noncomputable def L_X11_gates_50 (x1 : Int32) (x2 : Int32) (x3 : Int32) (x5 : Int32) (x6 : Int32) (x7 : Int32) : Nat → Int32 → qM → (qM → Option (Int32 × qM)) → Option (Int32 × qM)
  | 0, _, _, _ => none
  | n + 1, x8, u4, e1 => q_ck (q_in x1 8) (if (u4.1 89 0 (Int32.toNatClampNeg x1)) ≤ x8 then e1 u4 else q_jn (fun  (u5 : qM) => q_lt (x8 + 1) (fun (x9 : Int32) => L_X11_gates_50 x1 x2 x3 x5 x6 x7 n x9 u5 e1)) (fun j1 => if ((x7 >>> (x8 &&& 31)) &&& 1) = 1 then q_ck (q_in ((4 * x1) + x8) 32) (q_ck (q_in (672 + (u4.1 90 0 (Int32.toNatClampNeg ((4 * x1) + x8)))) 768) (q_lt (q_si u4 95 0 (Int32.toNatClampNeg (672 + (u4.1 90 0 (Int32.toNatClampNeg ((4 * x1) + x8))))) (vp_nar .boolean 1)) (fun (u6 : qM) => j1 u6))) else j1 u4))
noncomputable def L_X11_gates_27 (x1 : Int32) (x2 : Int32) (x3 : Int32) : Nat → Int32 → Int32 → Int32 → qM → (Int32 → Int32 → qM → Option (Int32 × qM)) → Option (Int32 × qM)
  | 0, _, _, _, _, _ => none
  | n + 1, x5, x6, x7, u2, e1 => q_ck (q_in x1 8) (if (1 <<< ((u2.1 89 0 (Int32.toNatClampNeg x1)) &&& 31)) ≤ x7 then e1 x5 x6 u2 else q_bd (f_X11_bring x1 7 u2) (fun (_z : Unit) (u3 : qM) => L_X11_gates_50 x1 x2 x3 x5 x6 x7 q_fu 0 u3 (fun u7 => q_bd (f_X11_alarmOf 7 x2 x3 u7) (fun (x10 : Int32) (u8 : qM) => q_jn (fun (x11 : Int32) (x12 : Int32) (u9 : qM) => q_lt (x7 + 1) (fun (x13 : Int32) => L_X11_gates_27 x1 x2 x3 n x11 x12 x13 u9 e1)) (fun j2 => q_jn (fun  (u10 : qM) => j2 x7 x10 u10) (fun j3 => if x6 < 0 then j3 u8 else if x10 < x6 then j3 u8 else if x10 = x6 then q_bd (f_X11_bits x7 u8) (fun (x14 : Int32) (u11 : qM) => q_bd (f_X11_bits x5 u11) (fun (x15 : Int32) (u12 : qM) => if x15 ≤ x14 then j2 x5 x6 u12 else j3 u12)) else j2 x5 x6 u8))))))
noncomputable def f_X11_gates (x1 : Int32) (x2 : Int32) (x3 : Int32) (u0 : qM) : Option (Int32 × qM) :=
  q_bd (f_X11_askedAlarm x1 x2 x3 u0) (fun (x4 : Int32) (u1 : qM) => if (0 : Int32) ≤ x4 then L_X11_gates_27 x1 x2 x3 q_fu 0 (-9) 0 u1 (fun x16 x17 u13 => q_ck (q_in 7 8) (q_lt (q_si u13 74 0 (Int32.toNatClampNeg 7) (-9)) (fun (u14 : qM) => q_bd (f_X11_allWeights  u14) (fun (x18 : Int32) (u15 : qM) => q_bd (f_X11_tell (Int32.toInt64 x17) (Int32.toInt64 x18) x16 u15) (fun (x19 : Int32) (u16 : qM) => some (x19, u16)))))) else some (x4, u1))
set_option maxRecDepth 100000 in
set_option maxHeartbeats 4000000 in
theorem TL_X11_gates_50 (l : Launch) (G : qG) (x1 : Int32) (x2 : Int32) (x3 : Int32) (x5 : Int32) (x6 : Int32) (x7 : Int32)  (e1 : qM → Option (Int32 × qM)) (he1 : ∀  (v : qM), qAW l G m_X11_gates (q_mq G q_cI) 99 [(0, .ref (q_ad G 11 0)), (1, .int x1), (2, .int x2), (3, .int x3), (5, .int x5), (6, .int x6), (7, .int x7)] [] v (e1 v)) : ∀ (n : Nat) (x8 : Int32) (u4 : qM), qAW l G m_X11_gates (q_mq G q_cI) 50 [(0, .ref (q_ad G 11 0)), (1, .int x1), (2, .int x2), (3, .int x3), (5, .int x5), (6, .int x6), (7, .int x7), (8, .int x8)] [] u4 (L_X11_gates_50 x1 x2 x3 x5 x6 x7 n x8 u4 e1) := by
  intro n
  induction n with
  | zero => intros; exact aw_none
  | succ n ih =>
    intro x8 u4
    unfold L_X11_gates_50
    refine aw_iload (i := 8) dX11_gates_50 52 rfl 7 rfl ?_
    refine aw_aload_n (i := 0) dX11_gates_52 53 rfl rfl 0 rfl ?_
    refine gf_X11_29 dX11_gates_53 56 rfl wd_266 (ok_11 (by decide)) ?_
    refine aw_iload_n (i := 1) dX11_gates_56 57 rfl rfl 1 rfl ?_
    refine aw_iald dX11_gates_57 58 rfl at_89 (al_89 _) (ok_89 (by decide)) (fun h4 => ?_)
    refine aw_icmp_ge dX11_gates_58 61 rfl 99 rfl (fun h5 => ?_) (fun h5 => ?_)
    · exact aw_conv [0, 1, 2, 3, 4, 5, 6] rfl (he1 u4)
    · refine aw_iload (i := 7) dX11_gates_61 63 rfl 6 rfl ?_
      refine aw_iload (i := 8) dX11_gates_63 65 rfl 7 rfl ?_
      refine aw_ishr dX11_gates_65 66 rfl ?_
      refine aw_iconst (x := 1) dX11_gates_66 67 rfl rfl ?_
      refine aw_iand dX11_gates_67 68 rfl ?_
      refine aw_iconst (x := 1) dX11_gates_68 69 rfl rfl ?_
      refine aw_jn (fun k => ∀  (u5 : qM), qAW l G m_X11_gates (q_mq G q_cI) 93 [(0, .ref (q_ad G 11 0)), (1, .int x1), (2, .int x2), (3, .int x3), (5, .int x5), (6, .int x6), (7, .int x7), (8, .int x8)] [] u5 (k u5)) ?_ ?_
      · intro u5
        refine aw_iincx (i := 8) dX11_gates_93 96 rfl 7 rfl 1 rfl (fun x9 => [(8, .int x9), (0, .ref (q_ad G 11 0)), (1, .int x1), (2, .int x2), (3, .int x3), (5, .int x5), (6, .int x6), (7, .int x7)]) (by decide) (fun _ => rfl) (fun x9 => ?_)
        refine aw_goto dX11_gates_96 50 rfl ?_
        exact aw_conv [1, 2, 3, 4, 5, 6, 7, 0] rfl (ih x9 u5)
      · intro j1 hj1
        refine aw_icmp_ne dX11_gates_69 72 rfl 93 rfl (fun h6 => ?_) (fun h6 => ?_)
        · exact hj1 u4
        · refine aw_aload_n (i := 0) dX11_gates_72 73 rfl rfl 0 rfl ?_
          refine gf_X11_35 dX11_gates_73 76 rfl wd_271 (ok_11 (by decide)) ?_
          refine aw_sipush (x := 672) dX11_gates_76 79 rfl rfl ?_
          refine aw_aload_n (i := 0) dX11_gates_79 80 rfl rfl 0 rfl ?_
          refine gf_X11_30 dX11_gates_80 83 rfl wd_305 (ok_11 (by decide)) ?_
          refine aw_iconst (x := 4) dX11_gates_83 84 rfl rfl ?_
          refine aw_iload_n (i := 1) dX11_gates_84 85 rfl rfl 1 rfl ?_
          refine aw_imul dX11_gates_85 86 rfl ?_
          refine aw_iload (i := 8) dX11_gates_86 88 rfl 7 rfl ?_
          refine aw_iadd dX11_gates_88 89 rfl ?_
          refine aw_iald dX11_gates_89 90 rfl at_90 (al_90 _) (ok_90 (by decide)) (fun h7 => ?_)
          refine aw_iadd dX11_gates_90 91 rfl ?_
          refine aw_iconst (x := 1) dX11_gates_91 92 rfl rfl ?_
          refine aw_zast dX11_gates_92 93 rfl at_95 (al_95 _) (ok_95 (by decide)) (fun h8 => ?_)
          refine aw_ltm (fun u6 => ?_)
          exact hj1 u6
set_option maxRecDepth 100000 in
set_option maxHeartbeats 4000000 in
theorem TL_X11_gates_27 (l : Launch) (G : qG) (x1 : Int32) (x2 : Int32) (x3 : Int32)  (e1 : Int32 → Int32 → qM → Option (Int32 × qM)) (he1 : ∀ (y1 : Int32) (y2 : Int32) (v : qM), qAW l G m_X11_gates (q_mq G q_cI) 155 [(0, .ref (q_ad G 11 0)), (5, .int y1), (6, .int y2)] [] v (e1 y1 y2 v)) : ∀ (n : Nat) (x5 : Int32) (x6 : Int32) (x7 : Int32) (u2 : qM), qAW l G m_X11_gates (q_mq G q_cI) 27 [(0, .ref (q_ad G 11 0)), (1, .int x1), (2, .int x2), (3, .int x3), (5, .int x5), (6, .int x6), (7, .int x7)] [] u2 (L_X11_gates_27 x1 x2 x3 n x5 x6 x7 u2 e1) := by
  intro n
  induction n with
  | zero => intros; exact aw_none
  | succ n ih =>
    intro x5 x6 x7 u2
    unfold L_X11_gates_27
    refine aw_iload (i := 7) dX11_gates_27 29 rfl 6 rfl ?_
    refine aw_iconst (x := 1) dX11_gates_29 30 rfl rfl ?_
    refine aw_aload_n (i := 0) dX11_gates_30 31 rfl rfl 0 rfl ?_
    refine gf_X11_29 dX11_gates_31 34 rfl wd_266 (ok_11 (by decide)) ?_
    refine aw_iload_n (i := 1) dX11_gates_34 35 rfl rfl 1 rfl ?_
    refine aw_iald dX11_gates_35 36 rfl at_89 (al_89 _) (ok_89 (by decide)) (fun h2 => ?_)
    refine aw_ishl dX11_gates_36 37 rfl ?_
    refine aw_icmp_ge dX11_gates_37 40 rfl 155 rfl (fun h3 => ?_) (fun h3 => ?_)
    · exact aw_conv [0, 4, 5] rfl (he1 x5 x6 u2)
    · refine aw_aload_n (i := 0) dX11_gates_40 41 rfl rfl 0 rfl ?_
      refine aw_iload_n (i := 1) dX11_gates_41 42 rfl rfl 1 rfl ?_
      refine aw_bipush (x := 7) dX11_gates_42 44 rfl rfl ?_
      refine aw_callV (M2 := m_X11_bring) (cv := q_cU) dX11_gates_44 47 rfl (k_X11_bring l G x1 7  u2) wd_307 wv_X11_bring pk_X11_bring rfl rfl ⟨by decide, by decide⟩ ⟨Nat.zero_le _, Nat.zero_le _⟩ at_11 (ok_11 (by decide)) rfl rfl rfl (Nat.le_of_ble_eq_true rfl) (fun _z u3 => ?_)
      show qAW l G m_X11_gates (q_mq G q_cI) 47 [(0, .ref (q_ad G 11 0)), (1, .int x1), (2, .int x2), (3, .int x3), (5, .int x5), (6, .int x6), (7, .int x7)] [] u3 _
      refine aw_iconst (x := 0) dX11_gates_47 48 rfl rfl ?_
      refine aw_istore dX11_gates_48 50 rfl [(8, .int 0), (0, .ref (q_ad G 11 0)), (1, .int x1), (2, .int x2), (3, .int x3), (5, .int x5), (6, .int x6), (7, .int x7)] (by decide) rfl ?_
      refine aw_conv [1, 2, 3, 4, 5, 6, 7, 0] rfl (TL_X11_gates_50 l G x1 x2 x3 x5 x6 x7  _ ?_ _ 0 u3)
      · intro u7
        refine aw_aload_n (i := 0) dX11_gates_99 100 rfl rfl 0 rfl ?_
        refine aw_bipush (x := 7) dX11_gates_100 102 rfl rfl ?_
        refine aw_iload_n (i := 2) dX11_gates_102 103 rfl rfl 2 rfl ?_
        refine aw_iload_n (i := 3) dX11_gates_103 104 rfl rfl 3 rfl ?_
        refine aw_callV (M2 := m_X11_alarmOf) (cv := q_cI) dX11_gates_104 107 rfl (k_X11_alarmOf l G 7 x2 x3  u7) wd_340 wv_X11_alarmOf pk_X11_alarmOf rfl rfl ⟨by decide, by decide⟩ ⟨Nat.zero_le _, Nat.zero_le _⟩ at_11 (ok_11 (by decide)) rfl rfl rfl (Nat.le_of_ble_eq_true rfl) (fun x10 u8 => ?_)
        show qAW l G m_X11_gates (q_mq G q_cI) 107 [(0, .ref (q_ad G 11 0)), (1, .int x1), (2, .int x2), (3, .int x3), (5, .int x5), (6, .int x6), (7, .int x7)] [.int x10] u8 _
        refine aw_istore dX11_gates_107 109 rfl [(8, .int x10), (0, .ref (q_ad G 11 0)), (1, .int x1), (2, .int x2), (3, .int x3), (5, .int x5), (6, .int x6), (7, .int x7)] (by decide) rfl ?_
        refine aw_iload (i := 6) dX11_gates_109 111 rfl 6 rfl ?_
        refine aw_jn (fun k => ∀ (x11 : Int32) (x12 : Int32) (u9 : qM), qAW l G m_X11_gates (q_mq G q_cI) 149 [(0, .ref (q_ad G 11 0)), (1, .int x1), (2, .int x2), (3, .int x3), (5, .int x11), (6, .int x12), (7, .int x7)] [] u9 (k x11 x12 u9)) ?_ ?_
        · intro x11 x12 u9
          refine aw_iincx (i := 7) dX11_gates_149 152 rfl 6 rfl 1 rfl (fun x13 => [(7, .int x13), (0, .ref (q_ad G 11 0)), (1, .int x1), (2, .int x2), (3, .int x3), (5, .int x11), (6, .int x12)]) (by decide) (fun _ => rfl) (fun x13 => ?_)
          refine aw_goto dX11_gates_152 27 rfl ?_
          exact aw_conv [1, 2, 3, 4, 5, 6, 0] rfl (ih x11 x12 x13 u9)
        · intro j2 hj2
          refine aw_jn (fun k => ∀  (u10 : qM), qAW l G m_X11_gates (q_mq G q_cI) 141 [(0, .ref (q_ad G 11 0)), (1, .int x1), (2, .int x2), (3, .int x3), (7, .int x7), (8, .int x10)] [] u10 (k u10)) ?_ ?_
          · intro u10
            refine aw_iload (i := 7) dX11_gates_141 143 rfl 4 rfl ?_
            refine aw_istore dX11_gates_143 145 rfl [(5, .int x7), (0, .ref (q_ad G 11 0)), (1, .int x1), (2, .int x2), (3, .int x3), (7, .int x7), (8, .int x10)] (by decide) rfl ?_
            refine aw_iload (i := 8) dX11_gates_145 147 rfl 6 rfl ?_
            refine aw_istore dX11_gates_147 149 rfl [(6, .int x10), (5, .int x7), (0, .ref (q_ad G 11 0)), (1, .int x1), (2, .int x2), (3, .int x3), (7, .int x7), (8, .int x10)] (by decide) rfl ?_
            exact aw_conv [2, 3, 4, 5, 1, 0, 6] rfl (hj2 x7 x10 u10)
          · intro j3 hj3
            refine aw_if_lt dX11_gates_111 114 rfl 141 rfl (fun h9 => ?_) (fun h9 => ?_)
            · exact aw_conv [1, 2, 3, 4, 7, 0] rfl (hj3 u8)
            · refine aw_iload (i := 8) dX11_gates_114 116 rfl 0 rfl ?_
              refine aw_iload (i := 6) dX11_gates_116 118 rfl 6 rfl ?_
              refine aw_icmp_lt dX11_gates_118 121 rfl 141 rfl (fun h10 => ?_) (fun h10 => ?_)
              · exact aw_conv [1, 2, 3, 4, 7, 0] rfl (hj3 u8)
              · refine aw_iload (i := 8) dX11_gates_121 123 rfl 0 rfl ?_
                refine aw_iload (i := 6) dX11_gates_123 125 rfl 6 rfl ?_
                refine aw_icmp_ne dX11_gates_125 128 rfl 149 rfl (fun h11 => ?_) (fun h11 => ?_)
                · exact aw_conv [1, 2, 3, 4, 5, 6, 7] rfl (hj2 x5 x6 u8)
                · refine aw_iload (i := 7) dX11_gates_128 130 rfl 7 rfl ?_
                  refine aw_callS (M2 := m_X11_bits) (cv := q_cI) dX11_gates_130 133 rfl (k_X11_bits l G x7  u8) wd_342 wv_X11_bits pk_X11_bits rfl ⟨by decide, by decide⟩ ⟨Nat.zero_le _, Nat.zero_le _⟩ rfl (Nat.le_of_ble_eq_true rfl) (fun x14 u11 => ?_)
                  show qAW l G m_X11_gates (q_mq G q_cI) 133 [(8, .int x10), (0, .ref (q_ad G 11 0)), (1, .int x1), (2, .int x2), (3, .int x3), (5, .int x5), (6, .int x6), (7, .int x7)] [.int x14] u11 _
                  refine aw_iload (i := 5) dX11_gates_133 135 rfl 5 rfl ?_
                  refine aw_callS (M2 := m_X11_bits) (cv := q_cI) dX11_gates_135 138 rfl (k_X11_bits l G x5  u11) wd_342 wv_X11_bits pk_X11_bits rfl ⟨by decide, by decide⟩ ⟨Nat.zero_le _, Nat.zero_le _⟩ rfl (Nat.le_of_ble_eq_true rfl) (fun x15 u12 => ?_)
                  show qAW l G m_X11_gates (q_mq G q_cI) 138 [(8, .int x10), (0, .ref (q_ad G 11 0)), (1, .int x1), (2, .int x2), (3, .int x3), (5, .int x5), (6, .int x6), (7, .int x7)] [.int x15, .int x14] u12 _
                  refine aw_icmp_ge dX11_gates_138 141 rfl 149 rfl (fun h12 => ?_) (fun h12 => ?_)
                  · exact aw_conv [1, 2, 3, 4, 5, 6, 7] rfl (hj2 x5 x6 u12)
                  · exact aw_conv [1, 2, 3, 4, 7, 0] rfl (hj3 u12)
set_option maxRecDepth 100000 in
set_option maxHeartbeats 4000000 in
theorem k_X11_gates (l : Launch) (G : qG) (x1 : Int32) (x2 : Int32) (x3 : Int32)  (u0 : qM) : qCt l G m_X11_gates q_cI [.ref (q_ad G 11 0), .int x1, .int x2, .int x3] u0 (f_X11_gates x1 x2 x3 u0) := by
  refine q_entry pk_X11_gates (Nat.le_of_ble_eq_true rfl) ?_
  show qAW l G m_X11_gates (q_mq G q_cI) 0 [(0, .ref (q_ad G 11 0)), (1, .int x1), (2, .int x2), (3, .int x3)] [] u0 (f_X11_gates x1 x2 x3 u0)
  unfold f_X11_gates
  refine aw_aload_n (i := 0) dX11_gates_0 1 rfl rfl 0 rfl ?_
  refine aw_iload_n (i := 1) dX11_gates_1 2 rfl rfl 1 rfl ?_
  refine aw_iload_n (i := 2) dX11_gates_2 3 rfl rfl 2 rfl ?_
  refine aw_iload_n (i := 3) dX11_gates_3 4 rfl rfl 3 rfl ?_
  refine aw_callV (M2 := m_X11_askedAlarm) (cv := q_cI) dX11_gates_4 7 rfl (k_X11_askedAlarm l G x1 x2 x3  u0) wd_339 wv_X11_askedAlarm pk_X11_askedAlarm rfl rfl ⟨by decide, by decide⟩ ⟨Nat.zero_le _, Nat.zero_le _⟩ at_11 (ok_11 (by decide)) rfl rfl rfl (Nat.le_of_ble_eq_true rfl) (fun x4 u1 => ?_)
  show qAW l G m_X11_gates (q_mq G q_cI) 7 [(0, .ref (q_ad G 11 0)), (1, .int x1), (2, .int x2), (3, .int x3)] [.int x4] u1 _
  refine aw_istore dX11_gates_7 9 rfl [(4, .int x4), (0, .ref (q_ad G 11 0)), (1, .int x1), (2, .int x2), (3, .int x3)] (by decide) rfl ?_
  refine aw_iload (i := 4) dX11_gates_9 11 rfl 0 rfl ?_
  refine aw_if_ge dX11_gates_11 14 rfl 17 rfl (fun h1 => ?_) (fun h1 => ?_)
  · refine aw_iconst (x := 0) dX11_gates_17 18 rfl rfl ?_
    refine aw_istore dX11_gates_18 20 rfl [(5, .int 0), (4, .int x4), (0, .ref (q_ad G 11 0)), (1, .int x1), (2, .int x2), (3, .int x3)] (by decide) rfl ?_
    refine aw_bipush (x := (-9)) dX11_gates_20 22 rfl rfl ?_
    refine aw_istore dX11_gates_22 24 rfl [(6, .int (-9)), (5, .int 0), (4, .int x4), (0, .ref (q_ad G 11 0)), (1, .int x1), (2, .int x2), (3, .int x3)] (by decide) rfl ?_
    refine aw_iconst (x := 0) dX11_gates_24 25 rfl rfl ?_
    refine aw_istore dX11_gates_25 27 rfl [(7, .int 0), (6, .int (-9)), (5, .int 0), (4, .int x4), (0, .ref (q_ad G 11 0)), (1, .int x1), (2, .int x2), (3, .int x3)] (by decide) rfl ?_
    refine aw_conv [4, 5, 6, 7, 2, 1, 0] rfl (TL_X11_gates_27 l G x1 x2 x3  _ ?_ _ 0 (-9) 0 u1)
    · intro x16 x17 u13
      refine aw_aload_n (i := 0) dX11_gates_155 156 rfl rfl 0 rfl ?_
      refine gf_X11_14 dX11_gates_156 159 rfl wd_250 (ok_11 (by decide)) ?_
      refine aw_bipush (x := 7) dX11_gates_159 161 rfl rfl ?_
      refine aw_bipush (x := (-9)) dX11_gates_161 163 rfl rfl ?_
      refine aw_iast dX11_gates_163 164 rfl at_74 (al_74 _) (ok_74 (by decide)) (fun h13 => ?_)
      refine aw_ltm (fun u14 => ?_)
      refine aw_aload_n (i := 0) dX11_gates_164 165 rfl rfl 0 rfl ?_
      refine aw_iload (i := 6) dX11_gates_165 167 rfl 2 rfl ?_
      refine aw_i2l dX11_gates_167 168 rfl ?_
      refine aw_aload_n (i := 0) dX11_gates_168 169 rfl rfl 0 rfl ?_
      refine aw_callV (M2 := m_X11_allWeights) (cv := q_cI) dX11_gates_169 172 rfl (k_X11_allWeights l G   u14) wd_338 wv_X11_allWeights pk_X11_allWeights rfl rfl ⟨by decide, by decide⟩ ⟨Nat.zero_le _, Nat.zero_le _⟩ at_11 (ok_11 (by decide)) rfl rfl rfl (Nat.le_of_ble_eq_true rfl) (fun x18 u15 => ?_)
      show qAW l G m_X11_gates (q_mq G q_cI) 172 [(0, .ref (q_ad G 11 0)), (5, .int x16), (6, .int x17)] [.int x18, .long (Int32.toInt64 x17), .ref (q_ad G 11 0)] u15 _
      refine aw_i2l dX11_gates_172 173 rfl ?_
      refine aw_iload (i := 5) dX11_gates_173 175 rfl 1 rfl ?_
      refine aw_callV (M2 := m_X11_tell) (cv := q_cI) dX11_gates_175 178 rfl (k_X11_tell l G (Int32.toInt64 x17) (Int32.toInt64 x18) x16  u15) wd_341 wv_X11_tell pk_X11_tell rfl rfl ⟨by decide, by decide⟩ ⟨Nat.zero_le _, Nat.zero_le _⟩ at_11 (ok_11 (by decide)) rfl rfl rfl (Nat.le_of_ble_eq_true rfl) (fun x19 u16 => ?_)
      show qAW l G m_X11_gates (q_mq G q_cI) 178 [(0, .ref (q_ad G 11 0)), (5, .int x16), (6, .int x17)] [.int x19] u16 _
      exact aw_iret dX11_gates_178 rfl
  · refine aw_iload (i := 4) dX11_gates_14 16 rfl 0 rfl ?_
    exact aw_iret dX11_gates_16 rfl
theorem dX11_asked_0 : decode cX11_asked 0 = .ok (.aload_n 0, 1) := by decide +kernel
theorem dX11_asked_1 : decode cX11_asked 1 = .ok (.getfield 176, 3) := by decide +kernel
theorem dX11_asked_4 : decode cX11_asked 4 = .ok (.ireturn, 1) := by decide +kernel
noncomputable def f_X11_asked  (u0 : qM) : Option (Int32 × qM) :=
  some (u0.1 11 0 2, u0)
set_option maxRecDepth 100000 in
set_option maxHeartbeats 4000000 in
theorem k_X11_asked (l : Launch) (G : qG)   (u0 : qM) : qCt l G m_X11_asked q_cI [.ref (q_ad G 11 0)] u0 (f_X11_asked  u0) := by
  refine q_entry pk_X11_asked (Nat.le_of_ble_eq_true rfl) ?_
  show qAW l G m_X11_asked (q_mq G q_cI) 0 [(0, .ref (q_ad G 11 0))] [] u0 (f_X11_asked  u0)
  unfold f_X11_asked
  refine aw_aload_n (i := 0) dX11_asked_0 1 rfl rfl 0 rfl ?_
  refine gf_X11_2 dX11_asked_1 4 rfl wd_223 (ok_11 (by decide)) ?_
  exact aw_iret dX11_asked_4 rfl
theorem dX11_strength_0 : decode cX11_strength 0 = .ok (.aload_n 0, 1) := by decide +kernel
theorem dX11_strength_1 : decode cX11_strength 1 = .ok (.getfield 334, 3) := by decide +kernel
theorem dX11_strength_4 : decode cX11_strength 4 = .ok (.lreturn, 1) := by decide +kernel
noncomputable def f_X11_strength  (u0 : qM) : Option (Int64 × qM) :=
  some (u0.2.1 11 0 3, u0)
set_option maxRecDepth 100000 in
set_option maxHeartbeats 4000000 in
theorem k_X11_strength (l : Launch) (G : qG)   (u0 : qM) : qCt l G m_X11_strength q_cL [.ref (q_ad G 11 0)] u0 (f_X11_strength  u0) := by
  refine q_entry pk_X11_strength (Nat.le_of_ble_eq_true rfl) ?_
  show qAW l G m_X11_strength (q_mq G q_cL) 0 [(0, .ref (q_ad G 11 0))] [] u0 (f_X11_strength  u0)
  unfold f_X11_strength
  refine aw_aload_n (i := 0) dX11_strength_0 1 rfl rfl 0 rfl ?_
  refine gf_X11_3 dX11_strength_1 4 rfl wd_318 (ok_11 (by decide)) ?_
  exact aw_lret dX11_strength_4 rfl
theorem dX11_upper_0 : decode cX11_upper 0 = .ok (.aload_n 0, 1) := by decide +kernel
theorem dX11_upper_1 : decode cX11_upper 1 = .ok (.getfield 179, 3) := by decide +kernel
theorem dX11_upper_4 : decode cX11_upper 4 = .ok (.lreturn, 1) := by decide +kernel
noncomputable def f_X11_upper  (u0 : qM) : Option (Int64 × qM) :=
  some (u0.2.1 11 0 4, u0)
set_option maxRecDepth 100000 in
set_option maxHeartbeats 4000000 in
theorem k_X11_upper (l : Launch) (G : qG)   (u0 : qM) : qCt l G m_X11_upper q_cL [.ref (q_ad G 11 0)] u0 (f_X11_upper  u0) := by
  refine q_entry pk_X11_upper (Nat.le_of_ble_eq_true rfl) ?_
  show qAW l G m_X11_upper (q_mq G q_cL) 0 [(0, .ref (q_ad G 11 0))] [] u0 (f_X11_upper  u0)
  unfold f_X11_upper
  refine aw_aload_n (i := 0) dX11_upper_0 1 rfl rfl 0 rfl ?_
  refine gf_X11_4 dX11_upper_1 4 rfl wd_224 (ok_11 (by decide)) ?_
  exact aw_lret dX11_upper_4 rfl
theorem dX11_lower_0 : decode cX11_lower 0 = .ok (.aload_n 0, 1) := by decide +kernel
theorem dX11_lower_1 : decode cX11_lower 1 = .ok (.getfield 13, 3) := by decide +kernel
theorem dX11_lower_4 : decode cX11_lower 4 = .ok (.lreturn, 1) := by decide +kernel
noncomputable def f_X11_lower  (u0 : qM) : Option (Int64 × qM) :=
  some (u0.2.1 11 0 5, u0)
set_option maxRecDepth 100000 in
set_option maxHeartbeats 4000000 in
theorem k_X11_lower (l : Launch) (G : qG)   (u0 : qM) : qCt l G m_X11_lower q_cL [.ref (q_ad G 11 0)] u0 (f_X11_lower  u0) := by
  refine q_entry pk_X11_lower (Nat.le_of_ble_eq_true rfl) ?_
  show qAW l G m_X11_lower (q_mq G q_cL) 0 [(0, .ref (q_ad G 11 0))] [] u0 (f_X11_lower  u0)
  unfold f_X11_lower
  refine aw_aload_n (i := 0) dX11_lower_0 1 rfl rfl 0 rfl ?_
  refine gf_X11_5 dX11_lower_1 4 rfl wd_225 (ok_11 (by decide)) ?_
  exact aw_lret dX11_lower_4 rfl
theorem dX11_count_0 : decode cX11_count 0 = .ok (.iconst 0, 1) := by decide +kernel
theorem dX11_count_1 : decode cX11_count 1 = .ok (.istore_n 2, 1) := by decide +kernel
theorem dX11_count_2 : decode cX11_count 2 = .ok (.iconst 0, 1) := by decide +kernel
theorem dX11_count_3 : decode cX11_count 3 = .ok (.istore_n 3, 1) := by decide +kernel
theorem dX11_count_4 : decode cX11_count 4 = .ok (.iload_n 3, 1) := by decide +kernel
theorem dX11_count_5 : decode cX11_count 5 = .ok (.bipush 6, 2) := by decide +kernel
theorem dX11_count_7 : decode cX11_count 7 = .ok (.if_icmp .ge 58, 3) := by decide +kernel
theorem dX11_count_10 : decode cX11_count 10 = .ok (.iload_n 2, 1) := by decide +kernel
theorem dX11_count_11 : decode cX11_count 11 = .ok (.iload_n 1, 1) := by decide +kernel
theorem dX11_count_12 : decode cX11_count 12 = .ok (.ifCond .ne 12, 3) := by decide +kernel
theorem dX11_count_15 : decode cX11_count 15 = .ok (.aload_n 0, 1) := by decide +kernel
theorem dX11_count_16 : decode cX11_count 16 = .ok (.getfield 17, 3) := by decide +kernel
theorem dX11_count_19 : decode cX11_count 19 = .ok (.iload_n 3, 1) := by decide +kernel
theorem dX11_count_20 : decode cX11_count 20 = .ok (.iaload, 1) := by decide +kernel
theorem dX11_count_21 : decode cX11_count 21 = .ok (.ifCond .ge 31, 3) := by decide +kernel
theorem dX11_count_24 : decode cX11_count 24 = .ok (.iload_n 1, 1) := by decide +kernel
theorem dX11_count_25 : decode cX11_count 25 = .ok (.iconst 1, 1) := by decide +kernel
theorem dX11_count_26 : decode cX11_count 26 = .ok (.if_icmp .ne 12, 3) := by decide +kernel
theorem dX11_count_29 : decode cX11_count 29 = .ok (.aload_n 0, 1) := by decide +kernel
theorem dX11_count_30 : decode cX11_count 30 = .ok (.getfield 26, 3) := by decide +kernel
theorem dX11_count_33 : decode cX11_count 33 = .ok (.iload_n 3, 1) := by decide +kernel
theorem dX11_count_34 : decode cX11_count 34 = .ok (.iaload, 1) := by decide +kernel
theorem dX11_count_35 : decode cX11_count 35 = .ok (.ifCond .ge 17, 3) := by decide +kernel
theorem dX11_count_38 : decode cX11_count 38 = .ok (.iload_n 1, 1) := by decide +kernel
theorem dX11_count_39 : decode cX11_count 39 = .ok (.iconst 2, 1) := by decide +kernel
theorem dX11_count_40 : decode cX11_count 40 = .ok (.if_icmp .ne 16, 3) := by decide +kernel
theorem dX11_count_43 : decode cX11_count 43 = .ok (.aload_n 0, 1) := by decide +kernel
theorem dX11_count_44 : decode cX11_count 44 = .ok (.getfield 38, 3) := by decide +kernel
theorem dX11_count_47 : decode cX11_count 47 = .ok (.iload_n 3, 1) := by decide +kernel
theorem dX11_count_48 : decode cX11_count 48 = .ok (.iaload, 1) := by decide +kernel
theorem dX11_count_49 : decode cX11_count 49 = .ok (.ifCond .lt 7, 3) := by decide +kernel
theorem dX11_count_52 : decode cX11_count 52 = .ok (.iconst 1, 1) := by decide +kernel
theorem dX11_count_53 : decode cX11_count 53 = .ok (.goto 4, 3) := by decide +kernel
theorem dX11_count_56 : decode cX11_count 56 = .ok (.iconst 0, 1) := by decide +kernel
theorem dX11_count_57 : decode cX11_count 57 = .ok (.iadd, 1) := by decide +kernel
theorem dX11_count_58 : decode cX11_count 58 = .ok (.istore_n 2, 1) := by decide +kernel
theorem dX11_count_59 : decode cX11_count 59 = .ok (.iinc 3 1, 3) := by decide +kernel
theorem dX11_count_62 : decode cX11_count 62 = .ok (.goto (-58), 3) := by decide +kernel
theorem dX11_count_65 : decode cX11_count 65 = .ok (.iconst 0, 1) := by decide +kernel
theorem dX11_count_66 : decode cX11_count 66 = .ok (.istore_n 3, 1) := by decide +kernel
theorem dX11_count_67 : decode cX11_count 67 = .ok (.iload_n 3, 1) := by decide +kernel
theorem dX11_count_68 : decode cX11_count 68 = .ok (.bipush 8, 2) := by decide +kernel
theorem dX11_count_70 : decode cX11_count 70 = .ok (.if_icmp .ge 45, 3) := by decide +kernel
theorem dX11_count_73 : decode cX11_count 73 = .ok (.iload_n 2, 1) := by decide +kernel
theorem dX11_count_74 : decode cX11_count 74 = .ok (.iload_n 1, 1) := by decide +kernel
theorem dX11_count_75 : decode cX11_count 75 = .ok (.iconst 3, 1) := by decide +kernel
theorem dX11_count_76 : decode cX11_count 76 = .ok (.if_icmp .ne 12, 3) := by decide +kernel
theorem dX11_count_79 : decode cX11_count 79 = .ok (.aload_n 0, 1) := by decide +kernel
theorem dX11_count_80 : decode cX11_count 80 = .ok (.getfield 132, 3) := by decide +kernel
theorem dX11_count_83 : decode cX11_count 83 = .ok (.iload_n 3, 1) := by decide +kernel
theorem dX11_count_84 : decode cX11_count 84 = .ok (.iaload, 1) := by decide +kernel
theorem dX11_count_85 : decode cX11_count 85 = .ok (.ifCond .ge 17, 3) := by decide +kernel
theorem dX11_count_88 : decode cX11_count 88 = .ok (.iload_n 1, 1) := by decide +kernel
theorem dX11_count_89 : decode cX11_count 89 = .ok (.iconst 4, 1) := by decide +kernel
theorem dX11_count_90 : decode cX11_count 90 = .ok (.if_icmp .ne 16, 3) := by decide +kernel
theorem dX11_count_93 : decode cX11_count 93 = .ok (.aload_n 0, 1) := by decide +kernel
theorem dX11_count_94 : decode cX11_count 94 = .ok (.getfield 141, 3) := by decide +kernel
theorem dX11_count_97 : decode cX11_count 97 = .ok (.iload_n 3, 1) := by decide +kernel
theorem dX11_count_98 : decode cX11_count 98 = .ok (.iaload, 1) := by decide +kernel
theorem dX11_count_99 : decode cX11_count 99 = .ok (.ifCond .lt 7, 3) := by decide +kernel
theorem dX11_count_102 : decode cX11_count 102 = .ok (.iconst 1, 1) := by decide +kernel
theorem dX11_count_103 : decode cX11_count 103 = .ok (.goto 4, 3) := by decide +kernel
theorem dX11_count_106 : decode cX11_count 106 = .ok (.iconst 0, 1) := by decide +kernel
theorem dX11_count_107 : decode cX11_count 107 = .ok (.iadd, 1) := by decide +kernel
theorem dX11_count_108 : decode cX11_count 108 = .ok (.istore_n 2, 1) := by decide +kernel
theorem dX11_count_109 : decode cX11_count 109 = .ok (.iinc 3 1, 3) := by decide +kernel
theorem dX11_count_112 : decode cX11_count 112 = .ok (.goto (-45), 3) := by decide +kernel
theorem dX11_count_115 : decode cX11_count 115 = .ok (.iload_n 1, 1) := by decide +kernel
theorem dX11_count_116 : decode cX11_count 116 = .ok (.iconst 5, 1) := by decide +kernel
theorem dX11_count_117 : decode cX11_count 117 = .ok (.if_icmp .ne 10, 3) := by decide +kernel
theorem dX11_count_120 : decode cX11_count 120 = .ok (.aload_n 0, 1) := by decide +kernel
theorem dX11_count_121 : decode cX11_count 121 = .ok (.getfield 368, 3) := by decide +kernel
theorem dX11_count_124 : decode cX11_count 124 = .ok (.goto 17, 3) := by decide +kernel
theorem dX11_count_127 : decode cX11_count 127 = .ok (.iload_n 1, 1) := by decide +kernel
theorem dX11_count_128 : decode cX11_count 128 = .ok (.iconst 0, 1) := by decide +kernel
theorem dX11_count_129 : decode cX11_count 129 = .ok (.iconst 4, 1) := by decide +kernel
theorem dX11_count_130 : decode cX11_count 130 = .ok (.invokestatic 182, 3) := by decide +kernel
theorem dX11_count_133 : decode cX11_count 133 = .ok (.ifCond .eq 7, 3) := by decide +kernel
theorem dX11_count_136 : decode cX11_count 136 = .ok (.iload_n 2, 1) := by decide +kernel
theorem dX11_count_137 : decode cX11_count 137 = .ok (.goto 4, 3) := by decide +kernel
theorem dX11_count_140 : decode cX11_count 140 = .ok (.iconst (-1), 1) := by decide +kernel
theorem dX11_count_141 : decode cX11_count 141 = .ok (.ireturn, 1) := by decide +kernel
noncomputable def L_X11_count_4 (x1 : Int32) : Nat → Int32 → Int32 → qM → (Int32 → qM → Option (Int32 × qM)) → Option (Int32 × qM)
  | 0, _, _, _, _ => none
  | n + 1, x2, x3, u1, e1 => if 6 ≤ x3 then e1 x2 u1 else q_jn (fun (x4 : Int32) (u2 : qM) => q_lt (x2 + x4) (fun (x5 : Int32) => q_lt (x3 + 1) (fun (x6 : Int32) => L_X11_count_4 x1 n x5 x6 u2 e1))) (fun j1 => q_jn (fun  (u3 : qM) => j1 1 u3) (fun j2 => q_jn (fun  (u4 : qM) => q_jn (fun  (u5 : qM) => q_jn (fun  (u6 : qM) => j1 0 u6) (fun j5 => if x1 = 2 then q_ck (q_in x3 8) (if (u5.1 74 0 (Int32.toNatClampNeg x3)) < 0 then j5 u5 else j2 u5) else j5 u5)) (fun j4 => if x1 = 1 then q_ck (q_in x3 6) (if (0 : Int32) ≤ (u4.1 69 0 (Int32.toNatClampNeg x3)) then j2 u4 else j4 u4) else j4 u4)) (fun j3 => if x1 = 0 then q_ck (q_in x3 6) (if (0 : Int32) ≤ (u1.1 66 0 (Int32.toNatClampNeg x3)) then j2 u1 else j3 u1) else j3 u1)))
noncomputable def L_X11_count_67 (x1 : Int32) : Nat → Int32 → Int32 → qM → (Int32 → qM → Option (Int32 × qM)) → Option (Int32 × qM)
  | 0, _, _, _, _ => none
  | n + 1, x8, x9, u8, e1 => if 8 ≤ x9 then e1 x8 u8 else q_jn (fun (x10 : Int32) (u9 : qM) => q_lt (x8 + x10) (fun (x11 : Int32) => q_lt (x9 + 1) (fun (x12 : Int32) => L_X11_count_67 x1 n x11 x12 u9 e1))) (fun j6 => q_jn (fun  (u10 : qM) => j6 1 u10) (fun j7 => q_jn (fun  (u11 : qM) => q_jn (fun  (u12 : qM) => j6 0 u12) (fun j9 => if x1 = 4 then q_ck (q_in x9 8) (if (u11.1 108 0 (Int32.toNatClampNeg x9)) < 0 then j9 u11 else j7 u11) else j9 u11)) (fun j8 => if x1 = 3 then q_ck (q_in x9 8) (if (0 : Int32) ≤ (u8.1 105 0 (Int32.toNatClampNeg x9)) then j7 u8 else j8 u8) else j8 u8)))
noncomputable def f_X11_count (x1 : Int32) (u0 : qM) : Option (Int32 × qM) :=
  L_X11_count_4 x1 q_fu 0 0 u0 (fun x7 u7 => L_X11_count_67 x1 q_fu x7 0 u7 (fun x13 u13 => q_jn (fun (x14 : Int32) (u14 : qM) => some (x14, u14)) (fun j10 => if x1 = 5 then j10 (u13.1 11 0 61) u13 else q_bd (f_X11_in x1 0 4 u13) (fun (x15 : Int32) (u15 : qM) => if x15 = 0 then j10 (-1) u15 else j10 x13 u15))))
set_option maxRecDepth 100000 in
set_option maxHeartbeats 4000000 in
theorem TL_X11_count_4 (l : Launch) (G : qG) (x1 : Int32)  (e1 : Int32 → qM → Option (Int32 × qM)) (he1 : ∀ (y1 : Int32) (v : qM), qAW l G m_X11_count (q_mq G q_cI) 65 [(0, .ref (q_ad G 11 0)), (1, .int x1), (2, .int y1)] [] v (e1 y1 v)) : ∀ (n : Nat) (x2 : Int32) (x3 : Int32) (u1 : qM), qAW l G m_X11_count (q_mq G q_cI) 4 [(0, .ref (q_ad G 11 0)), (1, .int x1), (2, .int x2), (3, .int x3)] [] u1 (L_X11_count_4 x1 n x2 x3 u1 e1) := by
  intro n
  induction n with
  | zero => intros; exact aw_none
  | succ n ih =>
    intro x2 x3 u1
    unfold L_X11_count_4
    refine aw_iload_n (i := 3) dX11_count_4 5 rfl rfl 3 rfl ?_
    refine aw_bipush (x := 6) dX11_count_5 7 rfl rfl ?_
    refine aw_icmp_ge dX11_count_7 10 rfl 65 rfl (fun h1 => ?_) (fun h1 => ?_)
    · exact aw_conv [0, 1, 2] rfl (he1 x2 u1)
    · refine aw_iload_n (i := 2) dX11_count_10 11 rfl rfl 2 rfl ?_
      refine aw_iload_n (i := 1) dX11_count_11 12 rfl rfl 1 rfl ?_
      refine aw_jn (fun k => ∀ (x4 : Int32) (u2 : qM), qAW l G m_X11_count (q_mq G q_cI) 57 [(0, .ref (q_ad G 11 0)), (1, .int x1), (3, .int x3)] [.int x4, .int x2] u2 (k x4 u2)) ?_ ?_
      · intro x4 u2
        refine aw_iadd dX11_count_57 58 rfl ?_
        refine aw_lti (fun x5 => ?_)
        refine aw_istore_n dX11_count_58 59 rfl rfl [(2, .int x5), (0, .ref (q_ad G 11 0)), (1, .int x1), (3, .int x3)] (by decide) rfl ?_
        refine aw_iincx (i := 3) dX11_count_59 62 rfl 3 rfl 1 rfl (fun x6 => [(3, .int x6), (2, .int x5), (0, .ref (q_ad G 11 0)), (1, .int x1)]) (by decide) (fun _ => rfl) (fun x6 => ?_)
        refine aw_goto dX11_count_62 4 rfl ?_
        exact aw_conv [2, 3, 1, 0] rfl (ih x5 x6 u2)
      · intro j1 hj1
        refine aw_jn (fun k => ∀  (u3 : qM), qAW l G m_X11_count (q_mq G q_cI) 52 [(0, .ref (q_ad G 11 0)), (1, .int x1), (3, .int x3)] [.int x2] u3 (k u3)) ?_ ?_
        · intro u3
          refine aw_iconst (x := 1) dX11_count_52 53 rfl rfl ?_
          refine aw_goto dX11_count_53 57 rfl ?_
          exact hj1 1 u3
        · intro j2 hj2
          refine aw_jn (fun k => ∀  (u4 : qM), qAW l G m_X11_count (q_mq G q_cI) 24 [(0, .ref (q_ad G 11 0)), (1, .int x1), (3, .int x3)] [.int x2] u4 (k u4)) ?_ ?_
          · intro u4
            refine aw_iload_n (i := 1) dX11_count_24 25 rfl rfl 1 rfl ?_
            refine aw_iconst (x := 1) dX11_count_25 26 rfl rfl ?_
            refine aw_jn (fun k => ∀  (u5 : qM), qAW l G m_X11_count (q_mq G q_cI) 38 [(0, .ref (q_ad G 11 0)), (1, .int x1), (3, .int x3)] [.int x2] u5 (k u5)) ?_ ?_
            · intro u5
              refine aw_iload_n (i := 1) dX11_count_38 39 rfl rfl 1 rfl ?_
              refine aw_iconst (x := 2) dX11_count_39 40 rfl rfl ?_
              refine aw_jn (fun k => ∀  (u6 : qM), qAW l G m_X11_count (q_mq G q_cI) 56 [(0, .ref (q_ad G 11 0)), (1, .int x1), (3, .int x3)] [.int x2] u6 (k u6)) ?_ ?_
              · intro u6
                refine aw_iconst (x := 0) dX11_count_56 57 rfl rfl ?_
                exact hj1 0 u6
              · intro j5 hj5
                refine aw_icmp_ne dX11_count_40 43 rfl 56 rfl (fun h4 => ?_) (fun h4 => ?_)
                · exact hj5 u5
                · refine aw_aload_n (i := 0) dX11_count_43 44 rfl rfl 0 rfl ?_
                  refine gf_X11_14 dX11_count_44 47 rfl wd_250 (ok_11 (by decide)) ?_
                  refine aw_iload_n (i := 3) dX11_count_47 48 rfl rfl 2 rfl ?_
                  refine aw_iald dX11_count_48 49 rfl at_74 (al_74 _) (ok_74 (by decide)) (fun h5 => ?_)
                  refine aw_if_lt dX11_count_49 52 rfl 56 rfl (fun h6 => ?_) (fun h6 => ?_)
                  · exact hj5 u5
                  · exact hj2 u5
            · intro j4 hj4
              refine aw_icmp_ne dX11_count_26 29 rfl 38 rfl (fun h3 => ?_) (fun h3 => ?_)
              · exact hj4 u4
              · refine aw_aload_n (i := 0) dX11_count_29 30 rfl rfl 0 rfl ?_
                refine gf_X11_9 dX11_count_30 33 rfl wd_237 (ok_11 (by decide)) ?_
                refine aw_iload_n (i := 3) dX11_count_33 34 rfl rfl 2 rfl ?_
                refine aw_iald dX11_count_34 35 rfl at_69 (al_69 _) (ok_69 (by decide)) (fun h7 => ?_)
                refine aw_if_ge dX11_count_35 38 rfl 52 rfl (fun h8 => ?_) (fun h8 => ?_)
                · exact hj2 u4
                · exact hj4 u4
          · intro j3 hj3
            refine aw_if_ne dX11_count_12 15 rfl 24 rfl (fun h2 => ?_) (fun h2 => ?_)
            · exact aw_conv [0, 1, 3] rfl (hj3 u1)
            · refine aw_aload_n (i := 0) dX11_count_15 16 rfl rfl 0 rfl ?_
              refine gf_X11_6 dX11_count_16 19 rfl wd_228 (ok_11 (by decide)) ?_
              refine aw_iload_n (i := 3) dX11_count_19 20 rfl rfl 3 rfl ?_
              refine aw_iald dX11_count_20 21 rfl at_66 (al_66 _) (ok_66 (by decide)) (fun h9 => ?_)
              refine aw_if_ge dX11_count_21 24 rfl 52 rfl (fun h10 => ?_) (fun h10 => ?_)
              · exact aw_conv [0, 1, 3] rfl (hj2 u1)
              · exact aw_conv [0, 1, 3] rfl (hj3 u1)
set_option maxRecDepth 100000 in
set_option maxHeartbeats 4000000 in
theorem TL_X11_count_67 (l : Launch) (G : qG) (x1 : Int32)  (e1 : Int32 → qM → Option (Int32 × qM)) (he1 : ∀ (y1 : Int32) (v : qM), qAW l G m_X11_count (q_mq G q_cI) 115 [(0, .ref (q_ad G 11 0)), (1, .int x1), (2, .int y1)] [] v (e1 y1 v)) : ∀ (n : Nat) (x8 : Int32) (x9 : Int32) (u8 : qM), qAW l G m_X11_count (q_mq G q_cI) 67 [(0, .ref (q_ad G 11 0)), (1, .int x1), (2, .int x8), (3, .int x9)] [] u8 (L_X11_count_67 x1 n x8 x9 u8 e1) := by
  intro n
  induction n with
  | zero => intros; exact aw_none
  | succ n ih =>
    intro x8 x9 u8
    unfold L_X11_count_67
    refine aw_iload_n (i := 3) dX11_count_67 68 rfl rfl 3 rfl ?_
    refine aw_bipush (x := 8) dX11_count_68 70 rfl rfl ?_
    refine aw_icmp_ge dX11_count_70 73 rfl 115 rfl (fun h11 => ?_) (fun h11 => ?_)
    · exact aw_conv [0, 1, 2] rfl (he1 x8 u8)
    · refine aw_iload_n (i := 2) dX11_count_73 74 rfl rfl 2 rfl ?_
      refine aw_iload_n (i := 1) dX11_count_74 75 rfl rfl 1 rfl ?_
      refine aw_iconst (x := 3) dX11_count_75 76 rfl rfl ?_
      refine aw_jn (fun k => ∀ (x10 : Int32) (u9 : qM), qAW l G m_X11_count (q_mq G q_cI) 107 [(0, .ref (q_ad G 11 0)), (1, .int x1), (3, .int x9)] [.int x10, .int x8] u9 (k x10 u9)) ?_ ?_
      · intro x10 u9
        refine aw_iadd dX11_count_107 108 rfl ?_
        refine aw_lti (fun x11 => ?_)
        refine aw_istore_n dX11_count_108 109 rfl rfl [(2, .int x11), (0, .ref (q_ad G 11 0)), (1, .int x1), (3, .int x9)] (by decide) rfl ?_
        refine aw_iincx (i := 3) dX11_count_109 112 rfl 3 rfl 1 rfl (fun x12 => [(3, .int x12), (2, .int x11), (0, .ref (q_ad G 11 0)), (1, .int x1)]) (by decide) (fun _ => rfl) (fun x12 => ?_)
        refine aw_goto dX11_count_112 67 rfl ?_
        exact aw_conv [2, 3, 1, 0] rfl (ih x11 x12 u9)
      · intro j6 hj6
        refine aw_jn (fun k => ∀  (u10 : qM), qAW l G m_X11_count (q_mq G q_cI) 102 [(0, .ref (q_ad G 11 0)), (1, .int x1), (3, .int x9)] [.int x8] u10 (k u10)) ?_ ?_
        · intro u10
          refine aw_iconst (x := 1) dX11_count_102 103 rfl rfl ?_
          refine aw_goto dX11_count_103 107 rfl ?_
          exact hj6 1 u10
        · intro j7 hj7
          refine aw_jn (fun k => ∀  (u11 : qM), qAW l G m_X11_count (q_mq G q_cI) 88 [(0, .ref (q_ad G 11 0)), (1, .int x1), (3, .int x9)] [.int x8] u11 (k u11)) ?_ ?_
          · intro u11
            refine aw_iload_n (i := 1) dX11_count_88 89 rfl rfl 1 rfl ?_
            refine aw_iconst (x := 4) dX11_count_89 90 rfl rfl ?_
            refine aw_jn (fun k => ∀  (u12 : qM), qAW l G m_X11_count (q_mq G q_cI) 106 [(0, .ref (q_ad G 11 0)), (1, .int x1), (3, .int x9)] [.int x8] u12 (k u12)) ?_ ?_
            · intro u12
              refine aw_iconst (x := 0) dX11_count_106 107 rfl rfl ?_
              exact hj6 0 u12
            · intro j9 hj9
              refine aw_icmp_ne dX11_count_90 93 rfl 106 rfl (fun h13 => ?_) (fun h13 => ?_)
              · exact hj9 u11
              · refine aw_aload_n (i := 0) dX11_count_93 94 rfl rfl 0 rfl ?_
                refine gf_X11_48 dX11_count_94 97 rfl wd_255 (ok_11 (by decide)) ?_
                refine aw_iload_n (i := 3) dX11_count_97 98 rfl rfl 2 rfl ?_
                refine aw_iald dX11_count_98 99 rfl at_108 (al_108 _) (ok_108 (by decide)) (fun h14 => ?_)
                refine aw_if_lt dX11_count_99 102 rfl 106 rfl (fun h15 => ?_) (fun h15 => ?_)
                · exact hj9 u11
                · exact hj7 u11
          · intro j8 hj8
            refine aw_icmp_ne dX11_count_76 79 rfl 88 rfl (fun h12 => ?_) (fun h12 => ?_)
            · exact aw_conv [0, 1, 3] rfl (hj8 u8)
            · refine aw_aload_n (i := 0) dX11_count_79 80 rfl rfl 0 rfl ?_
              refine gf_X11_45 dX11_count_80 83 rfl wd_254 (ok_11 (by decide)) ?_
              refine aw_iload_n (i := 3) dX11_count_83 84 rfl rfl 3 rfl ?_
              refine aw_iald dX11_count_84 85 rfl at_105 (al_105 _) (ok_105 (by decide)) (fun h16 => ?_)
              refine aw_if_ge dX11_count_85 88 rfl 102 rfl (fun h17 => ?_) (fun h17 => ?_)
              · exact aw_conv [0, 1, 3] rfl (hj7 u8)
              · exact aw_conv [0, 1, 3] rfl (hj8 u8)
set_option maxRecDepth 100000 in
set_option maxHeartbeats 4000000 in
theorem k_X11_count (l : Launch) (G : qG) (x1 : Int32)  (u0 : qM) : qCt l G m_X11_count q_cI [.ref (q_ad G 11 0), .int x1] u0 (f_X11_count x1 u0) := by
  refine q_entry pk_X11_count (Nat.le_of_ble_eq_true rfl) ?_
  show qAW l G m_X11_count (q_mq G q_cI) 0 [(0, .ref (q_ad G 11 0)), (1, .int x1)] [] u0 (f_X11_count x1 u0)
  unfold f_X11_count
  refine aw_iconst (x := 0) dX11_count_0 1 rfl rfl ?_
  refine aw_istore_n dX11_count_1 2 rfl rfl [(2, .int 0), (0, .ref (q_ad G 11 0)), (1, .int x1)] (by decide) rfl ?_
  refine aw_iconst (x := 0) dX11_count_2 3 rfl rfl ?_
  refine aw_istore_n dX11_count_3 4 rfl rfl [(3, .int 0), (2, .int 0), (0, .ref (q_ad G 11 0)), (1, .int x1)] (by decide) rfl ?_
  refine aw_conv [2, 3, 1, 0] rfl (TL_X11_count_4 l G x1  _ ?_ _ 0 0 u0)
  · intro x7 u7
    refine aw_iconst (x := 0) dX11_count_65 66 rfl rfl ?_
    refine aw_istore_n dX11_count_66 67 rfl rfl [(3, .int 0), (0, .ref (q_ad G 11 0)), (1, .int x1), (2, .int x7)] (by decide) rfl ?_
    refine aw_conv [1, 2, 3, 0] rfl (TL_X11_count_67 l G x1  _ ?_ _ x7 0 u7)
    · intro x13 u13
      refine aw_iload_n (i := 1) dX11_count_115 116 rfl rfl 1 rfl ?_
      refine aw_iconst (x := 5) dX11_count_116 117 rfl rfl ?_
      refine aw_jn (fun k => ∀ (x14 : Int32) (u14 : qM), qAW l G m_X11_count (q_mq G q_cI) 141 [] [.int x14] u14 (k x14 u14)) ?_ ?_
      · intro x14 u14
        exact aw_iret dX11_count_141 rfl
      · intro j10 hj10
        refine aw_icmp_ne dX11_count_117 120 rfl 127 rfl (fun h18 => ?_) (fun h18 => ?_)
        · refine aw_iload_n (i := 1) dX11_count_127 128 rfl rfl 1 rfl ?_
          refine aw_iconst (x := 0) dX11_count_128 129 rfl rfl ?_
          refine aw_iconst (x := 4) dX11_count_129 130 rfl rfl ?_
          refine aw_callS (M2 := m_X11_in) (cv := q_cI) dX11_count_130 133 rfl (k_X11_in l G x1 0 4  u13) wd_226 wv_X11_in pk_X11_in rfl ⟨by decide, by decide⟩ ⟨Nat.zero_le _, Nat.zero_le _⟩ rfl (Nat.le_of_ble_eq_true rfl) (fun x15 u15 => ?_)
          show qAW l G m_X11_count (q_mq G q_cI) 133 [(0, .ref (q_ad G 11 0)), (1, .int x1), (2, .int x13)] [.int x15] u15 _
          refine aw_if_eq dX11_count_133 136 rfl 140 rfl (fun h19 => ?_) (fun h19 => ?_)
          · refine aw_iconst (x := (-1)) dX11_count_140 141 rfl rfl ?_
            exact aw_conv [] rfl (hj10 (-1) u15)
          · refine aw_iload_n (i := 2) dX11_count_136 137 rfl rfl 2 rfl ?_
            refine aw_goto dX11_count_137 141 rfl ?_
            exact aw_conv [] rfl (hj10 x13 u15)
        · refine aw_aload_n (i := 0) dX11_count_120 121 rfl rfl 0 rfl ?_
          refine gf_X11_61 dX11_count_121 124 rfl wd_333 (ok_11 (by decide)) ?_
          refine aw_goto dX11_count_124 141 rfl ?_
          exact aw_conv [] rfl (hj10 (u13.1 11 0 61) u13)
theorem dX11_finding_0 : decode cX11_finding 0 = .ok (.aload_n 0, 1) := by decide +kernel
theorem dX11_finding_1 : decode cX11_finding 1 = .ok (.getfield 172, 3) := by decide +kernel
theorem dX11_finding_4 : decode cX11_finding 4 = .ok (.ireturn, 1) := by decide +kernel
noncomputable def f_X11_finding  (u0 : qM) : Option (Int32 × qM) :=
  some (u0.1 11 0 0, u0)
set_option maxRecDepth 100000 in
set_option maxHeartbeats 4000000 in
theorem k_X11_finding (l : Launch) (G : qG)   (u0 : qM) : qCt l G m_X11_finding q_cI [.ref (q_ad G 11 0)] u0 (f_X11_finding  u0) := by
  refine q_entry pk_X11_finding (Nat.le_of_ble_eq_true rfl) ?_
  show qAW l G m_X11_finding (q_mq G q_cI) 0 [(0, .ref (q_ad G 11 0))] [] u0 (f_X11_finding  u0)
  unfold f_X11_finding
  refine aw_aload_n (i := 0) dX11_finding_0 1 rfl rfl 0 rfl ?_
  refine gf_X11_0 dX11_finding_1 4 rfl wd_221 (ok_11 (by decide)) ?_
  exact aw_iret dX11_finding_4 rfl
theorem dX11_findings_0 : decode cX11_findings 0 = .ok (.iload_n 1, 1) := by decide +kernel
theorem dX11_findings_1 : decode cX11_findings 1 = .ok (.iconst 1, 1) := by decide +kernel
theorem dX11_findings_2 : decode cX11_findings 2 = .ok (.iconst 5, 1) := by decide +kernel
theorem dX11_findings_3 : decode cX11_findings 3 = .ok (.invokestatic 182, 3) := by decide +kernel
theorem dX11_findings_6 : decode cX11_findings 6 = .ok (.ifCond .eq 12, 3) := by decide +kernel
theorem dX11_findings_9 : decode cX11_findings 9 = .ok (.aload_n 0, 1) := by decide +kernel
theorem dX11_findings_10 : decode cX11_findings 10 = .ok (.getfield 7, 3) := by decide +kernel
theorem dX11_findings_13 : decode cX11_findings 13 = .ok (.iload_n 1, 1) := by decide +kernel
theorem dX11_findings_14 : decode cX11_findings 14 = .ok (.iaload, 1) := by decide +kernel
theorem dX11_findings_15 : decode cX11_findings 15 = .ok (.goto 4, 3) := by decide +kernel
theorem dX11_findings_18 : decode cX11_findings 18 = .ok (.iconst (-1), 1) := by decide +kernel
theorem dX11_findings_19 : decode cX11_findings 19 = .ok (.ireturn, 1) := by decide +kernel
noncomputable def f_X11_findings (x1 : Int32) (u0 : qM) : Option (Int32 × qM) :=
  q_bd (f_X11_in x1 1 5 u0) (fun (x2 : Int32) (u1 : qM) => q_jn (fun (x3 : Int32) (u2 : qM) => some (x3, u2)) (fun j1 => if x2 = 0 then j1 (-1) u1 else q_ck (q_in x1 6) (j1 (u1.1 61 0 (Int32.toNatClampNeg x1)) u1)))
set_option maxRecDepth 100000 in
set_option maxHeartbeats 4000000 in
theorem k_X11_findings (l : Launch) (G : qG) (x1 : Int32)  (u0 : qM) : qCt l G m_X11_findings q_cI [.ref (q_ad G 11 0), .int x1] u0 (f_X11_findings x1 u0) := by
  refine q_entry pk_X11_findings (Nat.le_of_ble_eq_true rfl) ?_
  show qAW l G m_X11_findings (q_mq G q_cI) 0 [(0, .ref (q_ad G 11 0)), (1, .int x1)] [] u0 (f_X11_findings x1 u0)
  unfold f_X11_findings
  refine aw_iload_n (i := 1) dX11_findings_0 1 rfl rfl 1 rfl ?_
  refine aw_iconst (x := 1) dX11_findings_1 2 rfl rfl ?_
  refine aw_iconst (x := 5) dX11_findings_2 3 rfl rfl ?_
  refine aw_callS (M2 := m_X11_in) (cv := q_cI) dX11_findings_3 6 rfl (k_X11_in l G x1 1 5  u0) wd_226 wv_X11_in pk_X11_in rfl ⟨by decide, by decide⟩ ⟨Nat.zero_le _, Nat.zero_le _⟩ rfl (Nat.le_of_ble_eq_true rfl) (fun x2 u1 => ?_)
  show qAW l G m_X11_findings (q_mq G q_cI) 6 [(0, .ref (q_ad G 11 0)), (1, .int x1)] [.int x2] u1 _
  refine aw_jn (fun k => ∀ (x3 : Int32) (u2 : qM), qAW l G m_X11_findings (q_mq G q_cI) 19 [] [.int x3] u2 (k x3 u2)) ?_ ?_
  · intro x3 u2
    exact aw_iret dX11_findings_19 rfl
  · intro j1 hj1
    refine aw_if_eq dX11_findings_6 9 rfl 18 rfl (fun h1 => ?_) (fun h1 => ?_)
    · refine aw_iconst (x := (-1)) dX11_findings_18 19 rfl rfl ?_
      exact aw_conv [] rfl (hj1 (-1) u1)
    · refine aw_aload_n (i := 0) dX11_findings_9 10 rfl rfl 0 rfl ?_
      refine gf_X11_1 dX11_findings_10 13 rfl wd_222 (ok_11 (by decide)) ?_
      refine aw_iload_n (i := 1) dX11_findings_13 14 rfl rfl 1 rfl ?_
      refine aw_iald dX11_findings_14 15 rfl at_61 (al_61 _) (ok_61 (by decide)) (fun h2 => ?_)
      refine aw_goto dX11_findings_15 19 rfl ?_
      exact aw_conv [] rfl (hj1 (u1.1 61 0 (Int32.toNatClampNeg x1)) u1)
theorem dX11_mix_0 : decode cX11_mix 0 = .ok (.aload_n 0, 1) := by decide +kernel
theorem dX11_mix_1 : decode cX11_mix 1 = .ok (.ldc2_w 388, 3) := by decide +kernel
theorem dX11_mix_4 : decode cX11_mix 4 = .ok (.aload_n 0, 1) := by decide +kernel
theorem dX11_mix_5 : decode cX11_mix 5 = .ok (.getfield 390, 3) := by decide +kernel
theorem dX11_mix_8 : decode cX11_mix 8 = .ok (.lmul, 1) := by decide +kernel
theorem dX11_mix_9 : decode cX11_mix 9 = .ok (.lload_n 1, 1) := by decide +kernel
theorem dX11_mix_10 : decode cX11_mix 10 = .ok (.ladd, 1) := by decide +kernel
theorem dX11_mix_11 : decode cX11_mix 11 = .ok (.putfield 390, 3) := by decide +kernel
theorem dX11_mix_14 : decode cX11_mix 14 = .ok (.return_, 1) := by decide +kernel
noncomputable def f_X11_mix (w1 : Int64) (u0 : qM) : Option (Unit × qM) :=
  q_lt (q_sl u0 11 0 65 ((31 * (u0.2.1 11 0 65)) + w1)) (fun (u1 : qM) => some ((), u1))
set_option maxRecDepth 100000 in
set_option maxHeartbeats 4000000 in
theorem k_X11_mix (l : Launch) (G : qG) (w1 : Int64)  (u0 : qM) : qCt l G m_X11_mix q_cU [.ref (q_ad G 11 0), .long w1] u0 (f_X11_mix w1 u0) := by
  refine q_entry pk_X11_mix (Nat.le_of_ble_eq_true rfl) ?_
  show qAW l G m_X11_mix (q_mq G q_cU) 0 [(0, .ref (q_ad G 11 0)), (1, .long w1)] [] u0 (f_X11_mix w1 u0)
  unfold f_X11_mix
  refine aw_aload_n (i := 0) dX11_mix_0 1 rfl rfl 0 rfl ?_
  refine aw_ldc2 (x := 31) dX11_mix_1 4 rfl wd_343 ?_
  refine aw_aload_n (i := 0) dX11_mix_4 5 rfl rfl 0 rfl ?_
  refine gf_X11_65 dX11_mix_5 8 rfl wd_344 (ok_11 (by decide)) ?_
  refine aw_lmul dX11_mix_8 9 rfl ?_
  refine aw_lload_n (i := 1) dX11_mix_9 10 rfl rfl 1 rfl ?_
  refine aw_ladd dX11_mix_10 11 rfl ?_
  refine pf_X11_65 dX11_mix_11 14 rfl wd_344 (ok_11 (by decide)) ?_
  refine aw_ltm (fun u1 => ?_)
  exact aw_vret dX11_mix_14 rfl
theorem dX11_mixBoard_0 : decode cX11_mixBoard 0 = .ok (.aload_n 0, 1) := by decide +kernel
theorem dX11_mixBoard_1 : decode cX11_mixBoard 1 = .ok (.getfield 38, 3) := by decide +kernel
theorem dX11_mixBoard_4 : decode cX11_mixBoard 4 = .ok (.iload_n 1, 1) := by decide +kernel
theorem dX11_mixBoard_5 : decode cX11_mixBoard 5 = .ok (.iaload, 1) := by decide +kernel
theorem dX11_mixBoard_6 : decode cX11_mixBoard 6 = .ok (.ifCond .ge 11, 3) := by decide +kernel
theorem dX11_mixBoard_9 : decode cX11_mixBoard 9 = .ok (.aload_n 0, 1) := by decide +kernel
theorem dX11_mixBoard_10 : decode cX11_mixBoard 10 = .ok (.ldc2_w 346, 3) := by decide +kernel
theorem dX11_mixBoard_13 : decode cX11_mixBoard 13 = .ok (.invokevirtual 393, 3) := by decide +kernel
theorem dX11_mixBoard_16 : decode cX11_mixBoard 16 = .ok (.return_, 1) := by decide +kernel
theorem dX11_mixBoard_17 : decode cX11_mixBoard 17 = .ok (.iconst 0, 1) := by decide +kernel
theorem dX11_mixBoard_18 : decode cX11_mixBoard 18 = .ok (.istore_n 2, 1) := by decide +kernel
theorem dX11_mixBoard_19 : decode cX11_mixBoard 19 = .ok (.iload_n 2, 1) := by decide +kernel
theorem dX11_mixBoard_20 : decode cX11_mixBoard 20 = .ok (.bipush 10, 2) := by decide +kernel
theorem dX11_mixBoard_22 : decode cX11_mixBoard 22 = .ok (.if_icmp .gt 20, 3) := by decide +kernel
theorem dX11_mixBoard_25 : decode cX11_mixBoard 25 = .ok (.aload_n 0, 1) := by decide +kernel
theorem dX11_mixBoard_26 : decode cX11_mixBoard 26 = .ok (.aload_n 0, 1) := by decide +kernel
theorem dX11_mixBoard_27 : decode cX11_mixBoard 27 = .ok (.iload_n 1, 1) := by decide +kernel
theorem dX11_mixBoard_28 : decode cX11_mixBoard 28 = .ok (.iload_n 2, 1) := by decide +kernel
theorem dX11_mixBoard_29 : decode cX11_mixBoard 29 = .ok (.invokevirtual 293, 3) := by decide +kernel
theorem dX11_mixBoard_32 : decode cX11_mixBoard 32 = .ok (.i2l, 1) := by decide +kernel
theorem dX11_mixBoard_33 : decode cX11_mixBoard 33 = .ok (.invokevirtual 393, 3) := by decide +kernel
theorem dX11_mixBoard_36 : decode cX11_mixBoard 36 = .ok (.iinc 2 1, 3) := by decide +kernel
theorem dX11_mixBoard_39 : decode cX11_mixBoard 39 = .ok (.goto (-20), 3) := by decide +kernel
theorem dX11_mixBoard_42 : decode cX11_mixBoard 42 = .ok (.iconst 0, 1) := by decide +kernel
theorem dX11_mixBoard_43 : decode cX11_mixBoard 43 = .ok (.istore_n 2, 1) := by decide +kernel
theorem dX11_mixBoard_44 : decode cX11_mixBoard 44 = .ok (.iload_n 2, 1) := by decide +kernel
theorem dX11_mixBoard_45 : decode cX11_mixBoard 45 = .ok (.aload_n 0, 1) := by decide +kernel
theorem dX11_mixBoard_46 : decode cX11_mixBoard 46 = .ok (.iload_n 1, 1) := by decide +kernel
theorem dX11_mixBoard_47 : decode cX11_mixBoard 47 = .ok (.invokevirtual 223, 3) := by decide +kernel
theorem dX11_mixBoard_50 : decode cX11_mixBoard 50 = .ok (.if_icmp .ge 76, 3) := by decide +kernel
theorem dX11_mixBoard_53 : decode cX11_mixBoard 53 = .ok (.aload_n 0, 1) := by decide +kernel
theorem dX11_mixBoard_54 : decode cX11_mixBoard 54 = .ok (.aload_n 0, 1) := by decide +kernel
theorem dX11_mixBoard_55 : decode cX11_mixBoard 55 = .ok (.getfield 89, 3) := by decide +kernel
theorem dX11_mixBoard_58 : decode cX11_mixBoard 58 = .ok (.bipush 48, 2) := by decide +kernel
theorem dX11_mixBoard_60 : decode cX11_mixBoard 60 = .ok (.iload_n 1, 1) := by decide +kernel
theorem dX11_mixBoard_61 : decode cX11_mixBoard 61 = .ok (.imul, 1) := by decide +kernel
theorem dX11_mixBoard_62 : decode cX11_mixBoard 62 = .ok (.iload_n 2, 1) := by decide +kernel
theorem dX11_mixBoard_63 : decode cX11_mixBoard 63 = .ok (.iadd, 1) := by decide +kernel
theorem dX11_mixBoard_64 : decode cX11_mixBoard 64 = .ok (.iaload, 1) := by decide +kernel
theorem dX11_mixBoard_65 : decode cX11_mixBoard 65 = .ok (.i2l, 1) := by decide +kernel
theorem dX11_mixBoard_66 : decode cX11_mixBoard 66 = .ok (.invokevirtual 393, 3) := by decide +kernel
theorem dX11_mixBoard_69 : decode cX11_mixBoard 69 = .ok (.aload_n 0, 1) := by decide +kernel
theorem dX11_mixBoard_70 : decode cX11_mixBoard 70 = .ok (.aload_n 0, 1) := by decide +kernel
theorem dX11_mixBoard_71 : decode cX11_mixBoard 71 = .ok (.getfield 92, 3) := by decide +kernel
theorem dX11_mixBoard_74 : decode cX11_mixBoard 74 = .ok (.bipush 48, 2) := by decide +kernel
theorem dX11_mixBoard_76 : decode cX11_mixBoard 76 = .ok (.iload_n 1, 1) := by decide +kernel
theorem dX11_mixBoard_77 : decode cX11_mixBoard 77 = .ok (.imul, 1) := by decide +kernel
theorem dX11_mixBoard_78 : decode cX11_mixBoard 78 = .ok (.iload_n 2, 1) := by decide +kernel
theorem dX11_mixBoard_79 : decode cX11_mixBoard 79 = .ok (.iadd, 1) := by decide +kernel
theorem dX11_mixBoard_80 : decode cX11_mixBoard 80 = .ok (.iaload, 1) := by decide +kernel
theorem dX11_mixBoard_81 : decode cX11_mixBoard 81 = .ok (.i2l, 1) := by decide +kernel
theorem dX11_mixBoard_82 : decode cX11_mixBoard 82 = .ok (.invokevirtual 393, 3) := by decide +kernel
theorem dX11_mixBoard_85 : decode cX11_mixBoard 85 = .ok (.iconst 0, 1) := by decide +kernel
theorem dX11_mixBoard_86 : decode cX11_mixBoard 86 = .ok (.istore_n 3, 1) := by decide +kernel
theorem dX11_mixBoard_87 : decode cX11_mixBoard 87 = .ok (.iload_n 3, 1) := by decide +kernel
theorem dX11_mixBoard_88 : decode cX11_mixBoard 88 = .ok (.iconst 3, 1) := by decide +kernel
theorem dX11_mixBoard_89 : decode cX11_mixBoard 89 = .ok (.if_icmp .ge 31, 3) := by decide +kernel
theorem dX11_mixBoard_92 : decode cX11_mixBoard 92 = .ok (.aload_n 0, 1) := by decide +kernel
theorem dX11_mixBoard_93 : decode cX11_mixBoard 93 = .ok (.aload_n 0, 1) := by decide +kernel
theorem dX11_mixBoard_94 : decode cX11_mixBoard 94 = .ok (.getfield 95, 3) := by decide +kernel
theorem dX11_mixBoard_97 : decode cX11_mixBoard 97 = .ok (.sipush 144, 3) := by decide +kernel
theorem dX11_mixBoard_100 : decode cX11_mixBoard 100 = .ok (.iload_n 1, 1) := by decide +kernel
theorem dX11_mixBoard_101 : decode cX11_mixBoard 101 = .ok (.imul, 1) := by decide +kernel
theorem dX11_mixBoard_102 : decode cX11_mixBoard 102 = .ok (.bipush 48, 2) := by decide +kernel
theorem dX11_mixBoard_104 : decode cX11_mixBoard 104 = .ok (.iload_n 3, 1) := by decide +kernel
theorem dX11_mixBoard_105 : decode cX11_mixBoard 105 = .ok (.imul, 1) := by decide +kernel
theorem dX11_mixBoard_106 : decode cX11_mixBoard 106 = .ok (.iadd, 1) := by decide +kernel
theorem dX11_mixBoard_107 : decode cX11_mixBoard 107 = .ok (.iload_n 2, 1) := by decide +kernel
theorem dX11_mixBoard_108 : decode cX11_mixBoard 108 = .ok (.iadd, 1) := by decide +kernel
theorem dX11_mixBoard_109 : decode cX11_mixBoard 109 = .ok (.iaload, 1) := by decide +kernel
theorem dX11_mixBoard_110 : decode cX11_mixBoard 110 = .ok (.i2l, 1) := by decide +kernel
theorem dX11_mixBoard_111 : decode cX11_mixBoard 111 = .ok (.invokevirtual 393, 3) := by decide +kernel
theorem dX11_mixBoard_114 : decode cX11_mixBoard 114 = .ok (.iinc 3 1, 3) := by decide +kernel
theorem dX11_mixBoard_117 : decode cX11_mixBoard 117 = .ok (.goto (-30), 3) := by decide +kernel
theorem dX11_mixBoard_120 : decode cX11_mixBoard 120 = .ok (.iinc 2 1, 3) := by decide +kernel
theorem dX11_mixBoard_123 : decode cX11_mixBoard 123 = .ok (.goto (-79), 3) := by decide +kernel
theorem dX11_mixBoard_126 : decode cX11_mixBoard 126 = .ok (.iconst 0, 1) := by decide +kernel
theorem dX11_mixBoard_127 : decode cX11_mixBoard 127 = .ok (.istore_n 2, 1) := by decide +kernel
theorem dX11_mixBoard_128 : decode cX11_mixBoard 128 = .ok (.iload_n 2, 1) := by decide +kernel
theorem dX11_mixBoard_129 : decode cX11_mixBoard 129 = .ok (.iconst 2, 1) := by decide +kernel
theorem dX11_mixBoard_130 : decode cX11_mixBoard 130 = .ok (.aload_n 0, 1) := by decide +kernel
theorem dX11_mixBoard_131 : decode cX11_mixBoard 131 = .ok (.iload_n 1, 1) := by decide +kernel
theorem dX11_mixBoard_132 : decode cX11_mixBoard 132 = .ok (.invokevirtual 223, 3) := by decide +kernel
theorem dX11_mixBoard_135 : decode cX11_mixBoard 135 = .ok (.imul, 1) := by decide +kernel
theorem dX11_mixBoard_136 : decode cX11_mixBoard 136 = .ok (.if_icmp .ge 57, 3) := by decide +kernel
theorem dX11_mixBoard_139 : decode cX11_mixBoard 139 = .ok (.aload_n 0, 1) := by decide +kernel
theorem dX11_mixBoard_140 : decode cX11_mixBoard 140 = .ok (.iload_n 1, 1) := by decide +kernel
theorem dX11_mixBoard_141 : decode cX11_mixBoard 141 = .ok (.iload_n 2, 1) := by decide +kernel
theorem dX11_mixBoard_142 : decode cX11_mixBoard 142 = .ok (.invokevirtual 246, 3) := by decide +kernel
theorem dX11_mixBoard_145 : decode cX11_mixBoard 145 = .ok (.ifCond .lt 42, 3) := by decide +kernel
theorem dX11_mixBoard_148 : decode cX11_mixBoard 148 = .ok (.aload_n 0, 1) := by decide +kernel
theorem dX11_mixBoard_149 : decode cX11_mixBoard 149 = .ok (.aload_n 0, 1) := by decide +kernel
theorem dX11_mixBoard_150 : decode cX11_mixBoard 150 = .ok (.getfield 98, 3) := by decide +kernel
theorem dX11_mixBoard_153 : decode cX11_mixBoard 153 = .ok (.bipush 96, 2) := by decide +kernel
theorem dX11_mixBoard_155 : decode cX11_mixBoard 155 = .ok (.iload_n 1, 1) := by decide +kernel
theorem dX11_mixBoard_156 : decode cX11_mixBoard 156 = .ok (.imul, 1) := by decide +kernel
theorem dX11_mixBoard_157 : decode cX11_mixBoard 157 = .ok (.iload_n 2, 1) := by decide +kernel
theorem dX11_mixBoard_158 : decode cX11_mixBoard 158 = .ok (.iadd, 1) := by decide +kernel
theorem dX11_mixBoard_159 : decode cX11_mixBoard 159 = .ok (.iaload, 1) := by decide +kernel
theorem dX11_mixBoard_160 : decode cX11_mixBoard 160 = .ok (.i2l, 1) := by decide +kernel
theorem dX11_mixBoard_161 : decode cX11_mixBoard 161 = .ok (.invokevirtual 393, 3) := by decide +kernel
theorem dX11_mixBoard_164 : decode cX11_mixBoard 164 = .ok (.aload_n 0, 1) := by decide +kernel
theorem dX11_mixBoard_165 : decode cX11_mixBoard 165 = .ok (.aload_n 0, 1) := by decide +kernel
theorem dX11_mixBoard_166 : decode cX11_mixBoard 166 = .ok (.getfield 101, 3) := by decide +kernel
theorem dX11_mixBoard_169 : decode cX11_mixBoard 169 = .ok (.bipush 96, 2) := by decide +kernel
theorem dX11_mixBoard_171 : decode cX11_mixBoard 171 = .ok (.iload_n 1, 1) := by decide +kernel
theorem dX11_mixBoard_172 : decode cX11_mixBoard 172 = .ok (.imul, 1) := by decide +kernel
theorem dX11_mixBoard_173 : decode cX11_mixBoard 173 = .ok (.iload_n 2, 1) := by decide +kernel
theorem dX11_mixBoard_174 : decode cX11_mixBoard 174 = .ok (.iadd, 1) := by decide +kernel
theorem dX11_mixBoard_175 : decode cX11_mixBoard 175 = .ok (.baload, 1) := by decide +kernel
theorem dX11_mixBoard_176 : decode cX11_mixBoard 176 = .ok (.ifCond .eq 7, 3) := by decide +kernel
theorem dX11_mixBoard_179 : decode cX11_mixBoard 179 = .ok (.lconst 1, 1) := by decide +kernel
theorem dX11_mixBoard_180 : decode cX11_mixBoard 180 = .ok (.goto 4, 3) := by decide +kernel
theorem dX11_mixBoard_183 : decode cX11_mixBoard 183 = .ok (.lconst 0, 1) := by decide +kernel
theorem dX11_mixBoard_184 : decode cX11_mixBoard 184 = .ok (.invokevirtual 393, 3) := by decide +kernel
theorem dX11_mixBoard_187 : decode cX11_mixBoard 187 = .ok (.iinc 2 1, 3) := by decide +kernel
theorem dX11_mixBoard_190 : decode cX11_mixBoard 190 = .ok (.goto (-62), 3) := by decide +kernel
theorem dX11_mixBoard_193 : decode cX11_mixBoard 193 = .ok (.return_, 1) := by decide +kernel
noncomputable def L_X11_mixBoard_19 (x1 : Int32) : Nat → Int32 → qM → (qM → Option (Unit × qM)) → Option (Unit × qM)
  | 0, _, _, _ => none
  | n + 1, x2, u1, e1 => if 10 < x2 then e1 u1 else q_bd (f_X11_tells x1 x2 u1) (fun (x3 : Int32) (u2 : qM) => q_bd (f_X11_mix (Int32.toInt64 x3) u2) (fun (_z : Unit) (u3 : qM) => q_lt (x2 + 1) (fun (x4 : Int32) => L_X11_mixBoard_19 x1 n x4 u3 e1)))
noncomputable def L_X11_mixBoard_87 (x1 : Int32) (x5 : Int32) : Nat → Int32 → qM → (qM → Option (Unit × qM)) → Option (Unit × qM)
  | 0, _, _, _ => none
  | n + 1, x7, u9, e1 => if 3 ≤ x7 then e1 u9 else q_ck (q_in (((144 * x1) + (48 * x7)) + x5) 1152) (q_bd (f_X11_mix (Int32.toInt64 (u9.1 93 0 (Int32.toNatClampNeg (((144 * x1) + (48 * x7)) + x5)))) u9) (fun (_z : Unit) (u10 : qM) => q_lt (x7 + 1) (fun (x8 : Int32) => L_X11_mixBoard_87 x1 x5 n x8 u10 e1)))
noncomputable def L_X11_mixBoard_44 (x1 : Int32) : Nat → Int32 → qM → (qM → Option (Unit × qM)) → Option (Unit × qM)
  | 0, _, _, _ => none
  | n + 1, x5, u5, e1 => q_bd (f_X11_cells x1 u5) (fun (x6 : Int32) (u6 : qM) => if x6 ≤ x5 then e1 u6 else q_ck (q_in ((48 * x1) + x5) 384) (q_bd (f_X11_mix (Int32.toInt64 (u6.1 91 0 (Int32.toNatClampNeg ((48 * x1) + x5)))) u6) (fun (_z : Unit) (u7 : qM) => q_ck (q_in ((48 * x1) + x5) 384) (q_bd (f_X11_mix (Int32.toInt64 (u7.1 92 0 (Int32.toNatClampNeg ((48 * x1) + x5)))) u7) (fun (_z : Unit) (u8 : qM) => L_X11_mixBoard_87 x1 x5 q_fu 0 u8 (fun u11 => q_lt (x5 + 1) (fun (x9 : Int32) => L_X11_mixBoard_44 x1 n x9 u11 e1)))))))
noncomputable def L_X11_mixBoard_128 (x1 : Int32) : Nat → Int32 → qM → (qM → Option (Unit × qM)) → Option (Unit × qM)
  | 0, _, _, _ => none
  | n + 1, x10, u13, e1 => q_bd (f_X11_cells x1 u13) (fun (x11 : Int32) (u14 : qM) => if (2 * x11) ≤ x10 then e1 u14 else q_bd (f_X11_beyond x1 x10 u14) (fun (x12 : Int32) (u15 : qM) => q_jn (fun  (u16 : qM) => q_lt (x10 + 1) (fun (x13 : Int32) => L_X11_mixBoard_128 x1 n x13 u16 e1)) (fun j1 => if x12 < 0 then j1 u15 else q_ck (q_in ((96 * x1) + x10) 768) (q_bd (f_X11_mix (Int32.toInt64 (u15.1 94 0 (Int32.toNatClampNeg ((96 * x1) + x10)))) u15) (fun (_z : Unit) (u17 : qM) => q_ck (q_in ((96 * x1) + x10) 768) (q_jn (fun (w1 : Int64) (u18 : qM) => q_bd (f_X11_mix w1 u18) (fun (_z : Unit) (u19 : qM) => j1 u19)) (fun j2 => if (u17.1 95 0 (Int32.toNatClampNeg ((96 * x1) + x10))) = 0 then j2 0 u17 else j2 1 u17)))))))
noncomputable def f_X11_mixBoard (x1 : Int32) (u0 : qM) : Option (Unit × qM) :=
  q_ck (q_in x1 8) (if (0 : Int32) ≤ (u0.1 74 0 (Int32.toNatClampNeg x1)) then L_X11_mixBoard_19 x1 q_fu 0 u0 (fun u4 => L_X11_mixBoard_44 x1 q_fu 0 u4 (fun u12 => L_X11_mixBoard_128 x1 q_fu 0 u12 (fun u20 => some ((), u20)))) else q_bd (f_X11_mix (-1) u0) (fun (_z : Unit) (u21 : qM) => some ((), u21)))
set_option maxRecDepth 100000 in
set_option maxHeartbeats 4000000 in
theorem TL_X11_mixBoard_19 (l : Launch) (G : qG) (x1 : Int32)  (e1 : qM → Option (Unit × qM)) (he1 : ∀  (v : qM), qAW l G m_X11_mixBoard (q_mq G q_cU) 42 [(0, .ref (q_ad G 11 0)), (1, .int x1)] [] v (e1 v)) : ∀ (n : Nat) (x2 : Int32) (u1 : qM), qAW l G m_X11_mixBoard (q_mq G q_cU) 19 [(0, .ref (q_ad G 11 0)), (1, .int x1), (2, .int x2)] [] u1 (L_X11_mixBoard_19 x1 n x2 u1 e1) := by
  intro n
  induction n with
  | zero => intros; exact aw_none
  | succ n ih =>
    intro x2 u1
    unfold L_X11_mixBoard_19
    refine aw_iload_n (i := 2) dX11_mixBoard_19 20 rfl rfl 2 rfl ?_
    refine aw_bipush (x := 10) dX11_mixBoard_20 22 rfl rfl ?_
    refine aw_icmp_gt dX11_mixBoard_22 25 rfl 42 rfl (fun h3 => ?_) (fun h3 => ?_)
    · exact aw_conv [0, 1] rfl (he1 u1)
    · refine aw_aload_n (i := 0) dX11_mixBoard_25 26 rfl rfl 0 rfl ?_
      refine aw_aload_n (i := 0) dX11_mixBoard_26 27 rfl rfl 0 rfl ?_
      refine aw_iload_n (i := 1) dX11_mixBoard_27 28 rfl rfl 1 rfl ?_
      refine aw_iload_n (i := 2) dX11_mixBoard_28 29 rfl rfl 2 rfl ?_
      refine aw_callV (M2 := m_X11_tells) (cv := q_cI) dX11_mixBoard_29 32 rfl (k_X11_tells l G x1 x2  u1) wd_304 wv_X11_tells pk_X11_tells rfl rfl ⟨by decide, by decide⟩ ⟨Nat.zero_le _, Nat.zero_le _⟩ at_11 (ok_11 (by decide)) rfl rfl rfl (Nat.le_of_ble_eq_true rfl) (fun x3 u2 => ?_)
      show qAW l G m_X11_mixBoard (q_mq G q_cU) 32 [(0, .ref (q_ad G 11 0)), (1, .int x1), (2, .int x2)] [.int x3, .ref (q_ad G 11 0)] u2 _
      refine aw_i2l dX11_mixBoard_32 33 rfl ?_
      refine aw_callV (M2 := m_X11_mix) (cv := q_cU) dX11_mixBoard_33 36 rfl (k_X11_mix l G (Int32.toInt64 x3)  u2) wd_345 wv_X11_mix pk_X11_mix rfl rfl ⟨by decide, by decide⟩ ⟨Nat.zero_le _, Nat.zero_le _⟩ at_11 (ok_11 (by decide)) rfl rfl rfl (Nat.le_of_ble_eq_true rfl) (fun _z u3 => ?_)
      show qAW l G m_X11_mixBoard (q_mq G q_cU) 36 [(0, .ref (q_ad G 11 0)), (1, .int x1), (2, .int x2)] [] u3 _
      refine aw_iincx (i := 2) dX11_mixBoard_36 39 rfl 2 rfl 1 rfl (fun x4 => [(2, .int x4), (0, .ref (q_ad G 11 0)), (1, .int x1)]) (by decide) (fun _ => rfl) (fun x4 => ?_)
      refine aw_goto dX11_mixBoard_39 19 rfl ?_
      exact aw_conv [1, 2, 0] rfl (ih x4 u3)
set_option maxRecDepth 100000 in
set_option maxHeartbeats 4000000 in
theorem TL_X11_mixBoard_87 (l : Launch) (G : qG) (x1 : Int32) (x5 : Int32)  (e1 : qM → Option (Unit × qM)) (he1 : ∀  (v : qM), qAW l G m_X11_mixBoard (q_mq G q_cU) 120 [(0, .ref (q_ad G 11 0)), (1, .int x1), (2, .int x5)] [] v (e1 v)) : ∀ (n : Nat) (x7 : Int32) (u9 : qM), qAW l G m_X11_mixBoard (q_mq G q_cU) 87 [(0, .ref (q_ad G 11 0)), (1, .int x1), (2, .int x5), (3, .int x7)] [] u9 (L_X11_mixBoard_87 x1 x5 n x7 u9 e1) := by
  intro n
  induction n with
  | zero => intros; exact aw_none
  | succ n ih =>
    intro x7 u9
    unfold L_X11_mixBoard_87
    refine aw_iload_n (i := 3) dX11_mixBoard_87 88 rfl rfl 3 rfl ?_
    refine aw_iconst (x := 3) dX11_mixBoard_88 89 rfl rfl ?_
    refine aw_icmp_ge dX11_mixBoard_89 92 rfl 120 rfl (fun h7 => ?_) (fun h7 => ?_)
    · exact aw_conv [0, 1, 2] rfl (he1 u9)
    · refine aw_aload_n (i := 0) dX11_mixBoard_92 93 rfl rfl 0 rfl ?_
      refine aw_aload_n (i := 0) dX11_mixBoard_93 94 rfl rfl 0 rfl ?_
      refine gf_X11_33 dX11_mixBoard_94 97 rfl wd_269 (ok_11 (by decide)) ?_
      refine aw_sipush (x := 144) dX11_mixBoard_97 100 rfl rfl ?_
      refine aw_iload_n (i := 1) dX11_mixBoard_100 101 rfl rfl 1 rfl ?_
      refine aw_imul dX11_mixBoard_101 102 rfl ?_
      refine aw_bipush (x := 48) dX11_mixBoard_102 104 rfl rfl ?_
      refine aw_iload_n (i := 3) dX11_mixBoard_104 105 rfl rfl 3 rfl ?_
      refine aw_imul dX11_mixBoard_105 106 rfl ?_
      refine aw_iadd dX11_mixBoard_106 107 rfl ?_
      refine aw_iload_n (i := 2) dX11_mixBoard_107 108 rfl rfl 2 rfl ?_
      refine aw_iadd dX11_mixBoard_108 109 rfl ?_
      refine aw_iald dX11_mixBoard_109 110 rfl at_93 (al_93 _) (ok_93 (by decide)) (fun h8 => ?_)
      refine aw_i2l dX11_mixBoard_110 111 rfl ?_
      refine aw_callV (M2 := m_X11_mix) (cv := q_cU) dX11_mixBoard_111 114 rfl (k_X11_mix l G (Int32.toInt64 (u9.1 93 0 (Int32.toNatClampNeg (((144 * x1) + (48 * x7)) + x5))))  u9) wd_345 wv_X11_mix pk_X11_mix rfl rfl ⟨by decide, by decide⟩ ⟨Nat.zero_le _, Nat.zero_le _⟩ at_11 (ok_11 (by decide)) rfl rfl rfl (Nat.le_of_ble_eq_true rfl) (fun _z u10 => ?_)
      show qAW l G m_X11_mixBoard (q_mq G q_cU) 114 [(0, .ref (q_ad G 11 0)), (1, .int x1), (2, .int x5), (3, .int x7)] [] u10 _
      refine aw_iincx (i := 3) dX11_mixBoard_114 117 rfl 3 rfl 1 rfl (fun x8 => [(3, .int x8), (0, .ref (q_ad G 11 0)), (1, .int x1), (2, .int x5)]) (by decide) (fun _ => rfl) (fun x8 => ?_)
      refine aw_goto dX11_mixBoard_117 87 rfl ?_
      exact aw_conv [1, 2, 3, 0] rfl (ih x8 u10)
set_option maxRecDepth 100000 in
set_option maxHeartbeats 4000000 in
theorem TL_X11_mixBoard_44 (l : Launch) (G : qG) (x1 : Int32)  (e1 : qM → Option (Unit × qM)) (he1 : ∀  (v : qM), qAW l G m_X11_mixBoard (q_mq G q_cU) 126 [(0, .ref (q_ad G 11 0)), (1, .int x1)] [] v (e1 v)) : ∀ (n : Nat) (x5 : Int32) (u5 : qM), qAW l G m_X11_mixBoard (q_mq G q_cU) 44 [(0, .ref (q_ad G 11 0)), (1, .int x1), (2, .int x5)] [] u5 (L_X11_mixBoard_44 x1 n x5 u5 e1) := by
  intro n
  induction n with
  | zero => intros; exact aw_none
  | succ n ih =>
    intro x5 u5
    unfold L_X11_mixBoard_44
    refine aw_iload_n (i := 2) dX11_mixBoard_44 45 rfl rfl 2 rfl ?_
    refine aw_aload_n (i := 0) dX11_mixBoard_45 46 rfl rfl 0 rfl ?_
    refine aw_iload_n (i := 1) dX11_mixBoard_46 47 rfl rfl 1 rfl ?_
    refine aw_callV (M2 := m_X11_cells) (cv := q_cI) dX11_mixBoard_47 50 rfl (k_X11_cells l G x1  u5) wd_251 wv_X11_cells pk_X11_cells rfl rfl ⟨by decide, by decide⟩ ⟨Nat.zero_le _, Nat.zero_le _⟩ at_11 (ok_11 (by decide)) rfl rfl rfl (Nat.le_of_ble_eq_true rfl) (fun x6 u6 => ?_)
    show qAW l G m_X11_mixBoard (q_mq G q_cU) 50 [(0, .ref (q_ad G 11 0)), (1, .int x1), (2, .int x5)] [.int x6, .int x5] u6 _
    refine aw_icmp_ge dX11_mixBoard_50 53 rfl 126 rfl (fun h4 => ?_) (fun h4 => ?_)
    · exact aw_conv [0, 1] rfl (he1 u6)
    · refine aw_aload_n (i := 0) dX11_mixBoard_53 54 rfl rfl 0 rfl ?_
      refine aw_aload_n (i := 0) dX11_mixBoard_54 55 rfl rfl 0 rfl ?_
      refine gf_X11_31 dX11_mixBoard_55 58 rfl wd_248 (ok_11 (by decide)) ?_
      refine aw_bipush (x := 48) dX11_mixBoard_58 60 rfl rfl ?_
      refine aw_iload_n (i := 1) dX11_mixBoard_60 61 rfl rfl 1 rfl ?_
      refine aw_imul dX11_mixBoard_61 62 rfl ?_
      refine aw_iload_n (i := 2) dX11_mixBoard_62 63 rfl rfl 2 rfl ?_
      refine aw_iadd dX11_mixBoard_63 64 rfl ?_
      refine aw_iald dX11_mixBoard_64 65 rfl at_91 (al_91 _) (ok_91 (by decide)) (fun h5 => ?_)
      refine aw_i2l dX11_mixBoard_65 66 rfl ?_
      refine aw_callV (M2 := m_X11_mix) (cv := q_cU) dX11_mixBoard_66 69 rfl (k_X11_mix l G (Int32.toInt64 (u6.1 91 0 (Int32.toNatClampNeg ((48 * x1) + x5))))  u6) wd_345 wv_X11_mix pk_X11_mix rfl rfl ⟨by decide, by decide⟩ ⟨Nat.zero_le _, Nat.zero_le _⟩ at_11 (ok_11 (by decide)) rfl rfl rfl (Nat.le_of_ble_eq_true rfl) (fun _z u7 => ?_)
      show qAW l G m_X11_mixBoard (q_mq G q_cU) 69 [(0, .ref (q_ad G 11 0)), (1, .int x1), (2, .int x5)] [] u7 _
      refine aw_aload_n (i := 0) dX11_mixBoard_69 70 rfl rfl 0 rfl ?_
      refine aw_aload_n (i := 0) dX11_mixBoard_70 71 rfl rfl 0 rfl ?_
      refine gf_X11_32 dX11_mixBoard_71 74 rfl wd_249 (ok_11 (by decide)) ?_
      refine aw_bipush (x := 48) dX11_mixBoard_74 76 rfl rfl ?_
      refine aw_iload_n (i := 1) dX11_mixBoard_76 77 rfl rfl 1 rfl ?_
      refine aw_imul dX11_mixBoard_77 78 rfl ?_
      refine aw_iload_n (i := 2) dX11_mixBoard_78 79 rfl rfl 2 rfl ?_
      refine aw_iadd dX11_mixBoard_79 80 rfl ?_
      refine aw_iald dX11_mixBoard_80 81 rfl at_92 (al_92 _) (ok_92 (by decide)) (fun h6 => ?_)
      refine aw_i2l dX11_mixBoard_81 82 rfl ?_
      refine aw_callV (M2 := m_X11_mix) (cv := q_cU) dX11_mixBoard_82 85 rfl (k_X11_mix l G (Int32.toInt64 (u7.1 92 0 (Int32.toNatClampNeg ((48 * x1) + x5))))  u7) wd_345 wv_X11_mix pk_X11_mix rfl rfl ⟨by decide, by decide⟩ ⟨Nat.zero_le _, Nat.zero_le _⟩ at_11 (ok_11 (by decide)) rfl rfl rfl (Nat.le_of_ble_eq_true rfl) (fun _z u8 => ?_)
      show qAW l G m_X11_mixBoard (q_mq G q_cU) 85 [(0, .ref (q_ad G 11 0)), (1, .int x1), (2, .int x5)] [] u8 _
      refine aw_iconst (x := 0) dX11_mixBoard_85 86 rfl rfl ?_
      refine aw_istore_n dX11_mixBoard_86 87 rfl rfl [(3, .int 0), (0, .ref (q_ad G 11 0)), (1, .int x1), (2, .int x5)] (by decide) rfl ?_
      refine aw_conv [1, 2, 3, 0] rfl (TL_X11_mixBoard_87 l G x1 x5  _ ?_ _ 0 u8)
      · intro u11
        refine aw_iincx (i := 2) dX11_mixBoard_120 123 rfl 2 rfl 1 rfl (fun x9 => [(2, .int x9), (0, .ref (q_ad G 11 0)), (1, .int x1)]) (by decide) (fun _ => rfl) (fun x9 => ?_)
        refine aw_goto dX11_mixBoard_123 44 rfl ?_
        exact aw_conv [1, 2, 0] rfl (ih x9 u11)
set_option maxRecDepth 100000 in
set_option maxHeartbeats 4000000 in
theorem TL_X11_mixBoard_128 (l : Launch) (G : qG) (x1 : Int32)  (e1 : qM → Option (Unit × qM)) (he1 : ∀  (v : qM), qAW l G m_X11_mixBoard (q_mq G q_cU) 193 [] [] v (e1 v)) : ∀ (n : Nat) (x10 : Int32) (u13 : qM), qAW l G m_X11_mixBoard (q_mq G q_cU) 128 [(0, .ref (q_ad G 11 0)), (1, .int x1), (2, .int x10)] [] u13 (L_X11_mixBoard_128 x1 n x10 u13 e1) := by
  intro n
  induction n with
  | zero => intros; exact aw_none
  | succ n ih =>
    intro x10 u13
    unfold L_X11_mixBoard_128
    refine aw_iload_n (i := 2) dX11_mixBoard_128 129 rfl rfl 2 rfl ?_
    refine aw_iconst (x := 2) dX11_mixBoard_129 130 rfl rfl ?_
    refine aw_aload_n (i := 0) dX11_mixBoard_130 131 rfl rfl 0 rfl ?_
    refine aw_iload_n (i := 1) dX11_mixBoard_131 132 rfl rfl 1 rfl ?_
    refine aw_callV (M2 := m_X11_cells) (cv := q_cI) dX11_mixBoard_132 135 rfl (k_X11_cells l G x1  u13) wd_251 wv_X11_cells pk_X11_cells rfl rfl ⟨by decide, by decide⟩ ⟨Nat.zero_le _, Nat.zero_le _⟩ at_11 (ok_11 (by decide)) rfl rfl rfl (Nat.le_of_ble_eq_true rfl) (fun x11 u14 => ?_)
    show qAW l G m_X11_mixBoard (q_mq G q_cU) 135 [(0, .ref (q_ad G 11 0)), (1, .int x1), (2, .int x10)] [.int x11, .int 2, .int x10] u14 _
    refine aw_imul dX11_mixBoard_135 136 rfl ?_
    refine aw_icmp_ge dX11_mixBoard_136 139 rfl 193 rfl (fun h9 => ?_) (fun h9 => ?_)
    · exact aw_conv [] rfl (he1 u14)
    · refine aw_aload_n (i := 0) dX11_mixBoard_139 140 rfl rfl 0 rfl ?_
      refine aw_iload_n (i := 1) dX11_mixBoard_140 141 rfl rfl 1 rfl ?_
      refine aw_iload_n (i := 2) dX11_mixBoard_141 142 rfl rfl 2 rfl ?_
      refine aw_callV (M2 := m_X11_beyond) (cv := q_cI) dX11_mixBoard_142 145 rfl (k_X11_beyond l G x1 x10  u14) wd_277 wv_X11_beyond pk_X11_beyond rfl rfl ⟨by decide, by decide⟩ ⟨Nat.zero_le _, Nat.zero_le _⟩ at_11 (ok_11 (by decide)) rfl rfl rfl (Nat.le_of_ble_eq_true rfl) (fun x12 u15 => ?_)
      show qAW l G m_X11_mixBoard (q_mq G q_cU) 145 [(0, .ref (q_ad G 11 0)), (1, .int x1), (2, .int x10)] [.int x12] u15 _
      refine aw_jn (fun k => ∀  (u16 : qM), qAW l G m_X11_mixBoard (q_mq G q_cU) 187 [(0, .ref (q_ad G 11 0)), (1, .int x1), (2, .int x10)] [] u16 (k u16)) ?_ ?_
      · intro u16
        refine aw_iincx (i := 2) dX11_mixBoard_187 190 rfl 2 rfl 1 rfl (fun x13 => [(2, .int x13), (0, .ref (q_ad G 11 0)), (1, .int x1)]) (by decide) (fun _ => rfl) (fun x13 => ?_)
        refine aw_goto dX11_mixBoard_190 128 rfl ?_
        exact aw_conv [1, 2, 0] rfl (ih x13 u16)
      · intro j1 hj1
        refine aw_if_lt dX11_mixBoard_145 148 rfl 187 rfl (fun h10 => ?_) (fun h10 => ?_)
        · exact hj1 u15
        · refine aw_aload_n (i := 0) dX11_mixBoard_148 149 rfl rfl 0 rfl ?_
          refine aw_aload_n (i := 0) dX11_mixBoard_149 150 rfl rfl 0 rfl ?_
          refine gf_X11_34 dX11_mixBoard_150 153 rfl wd_270 (ok_11 (by decide)) ?_
          refine aw_bipush (x := 96) dX11_mixBoard_153 155 rfl rfl ?_
          refine aw_iload_n (i := 1) dX11_mixBoard_155 156 rfl rfl 1 rfl ?_
          refine aw_imul dX11_mixBoard_156 157 rfl ?_
          refine aw_iload_n (i := 2) dX11_mixBoard_157 158 rfl rfl 2 rfl ?_
          refine aw_iadd dX11_mixBoard_158 159 rfl ?_
          refine aw_iald dX11_mixBoard_159 160 rfl at_94 (al_94 _) (ok_94 (by decide)) (fun h11 => ?_)
          refine aw_i2l dX11_mixBoard_160 161 rfl ?_
          refine aw_callV (M2 := m_X11_mix) (cv := q_cU) dX11_mixBoard_161 164 rfl (k_X11_mix l G (Int32.toInt64 (u15.1 94 0 (Int32.toNatClampNeg ((96 * x1) + x10))))  u15) wd_345 wv_X11_mix pk_X11_mix rfl rfl ⟨by decide, by decide⟩ ⟨Nat.zero_le _, Nat.zero_le _⟩ at_11 (ok_11 (by decide)) rfl rfl rfl (Nat.le_of_ble_eq_true rfl) (fun _z u17 => ?_)
          show qAW l G m_X11_mixBoard (q_mq G q_cU) 164 [(0, .ref (q_ad G 11 0)), (1, .int x1), (2, .int x10)] [] u17 _
          refine aw_aload_n (i := 0) dX11_mixBoard_164 165 rfl rfl 0 rfl ?_
          refine aw_aload_n (i := 0) dX11_mixBoard_165 166 rfl rfl 0 rfl ?_
          refine gf_X11_35 dX11_mixBoard_166 169 rfl wd_271 (ok_11 (by decide)) ?_
          refine aw_bipush (x := 96) dX11_mixBoard_169 171 rfl rfl ?_
          refine aw_iload_n (i := 1) dX11_mixBoard_171 172 rfl rfl 1 rfl ?_
          refine aw_imul dX11_mixBoard_172 173 rfl ?_
          refine aw_iload_n (i := 2) dX11_mixBoard_173 174 rfl rfl 2 rfl ?_
          refine aw_iadd dX11_mixBoard_174 175 rfl ?_
          refine aw_zald dX11_mixBoard_175 176 rfl at_95 (al_95 _) (ok_95 (by decide)) (fun h12 => ?_)
          refine aw_jn (fun k => ∀ (w1 : Int64) (u18 : qM), qAW l G m_X11_mixBoard (q_mq G q_cU) 184 [(0, .ref (q_ad G 11 0)), (1, .int x1), (2, .int x10)] [.long w1, .ref (q_ad G 11 0)] u18 (k w1 u18)) ?_ ?_
          · intro w1 u18
            refine aw_callV (M2 := m_X11_mix) (cv := q_cU) dX11_mixBoard_184 187 rfl (k_X11_mix l G w1  u18) wd_345 wv_X11_mix pk_X11_mix rfl rfl ⟨by decide, by decide⟩ ⟨Nat.zero_le _, Nat.zero_le _⟩ at_11 (ok_11 (by decide)) rfl rfl rfl (Nat.le_of_ble_eq_true rfl) (fun _z u19 => ?_)
            show qAW l G m_X11_mixBoard (q_mq G q_cU) 187 [(0, .ref (q_ad G 11 0)), (1, .int x1), (2, .int x10)] [] u19 _
            exact hj1 u19
          · intro j2 hj2
            refine aw_if_eq dX11_mixBoard_176 179 rfl 183 rfl (fun h13 => ?_) (fun h13 => ?_)
            · refine aw_lconst (x := 0) dX11_mixBoard_183 184 rfl rfl ?_
              exact hj2 0 u17
            · refine aw_lconst (x := 1) dX11_mixBoard_179 180 rfl rfl ?_
              refine aw_goto dX11_mixBoard_180 184 rfl ?_
              exact hj2 1 u17
set_option maxRecDepth 100000 in
set_option maxHeartbeats 4000000 in
theorem k_X11_mixBoard (l : Launch) (G : qG) (x1 : Int32)  (u0 : qM) : qCt l G m_X11_mixBoard q_cU [.ref (q_ad G 11 0), .int x1] u0 (f_X11_mixBoard x1 u0) := by
  refine q_entry pk_X11_mixBoard (Nat.le_of_ble_eq_true rfl) ?_
  show qAW l G m_X11_mixBoard (q_mq G q_cU) 0 [(0, .ref (q_ad G 11 0)), (1, .int x1)] [] u0 (f_X11_mixBoard x1 u0)
  unfold f_X11_mixBoard
  refine aw_aload_n (i := 0) dX11_mixBoard_0 1 rfl rfl 0 rfl ?_
  refine gf_X11_14 dX11_mixBoard_1 4 rfl wd_250 (ok_11 (by decide)) ?_
  refine aw_iload_n (i := 1) dX11_mixBoard_4 5 rfl rfl 1 rfl ?_
  refine aw_iald dX11_mixBoard_5 6 rfl at_74 (al_74 _) (ok_74 (by decide)) (fun h1 => ?_)
  refine aw_if_ge dX11_mixBoard_6 9 rfl 17 rfl (fun h2 => ?_) (fun h2 => ?_)
  · refine aw_iconst (x := 0) dX11_mixBoard_17 18 rfl rfl ?_
    refine aw_istore_n dX11_mixBoard_18 19 rfl rfl [(2, .int 0), (0, .ref (q_ad G 11 0)), (1, .int x1)] (by decide) rfl ?_
    refine aw_conv [1, 2, 0] rfl (TL_X11_mixBoard_19 l G x1  _ ?_ _ 0 u0)
    · intro u4
      refine aw_iconst (x := 0) dX11_mixBoard_42 43 rfl rfl ?_
      refine aw_istore_n dX11_mixBoard_43 44 rfl rfl [(2, .int 0), (0, .ref (q_ad G 11 0)), (1, .int x1)] (by decide) rfl ?_
      refine aw_conv [1, 2, 0] rfl (TL_X11_mixBoard_44 l G x1  _ ?_ _ 0 u4)
      · intro u12
        refine aw_iconst (x := 0) dX11_mixBoard_126 127 rfl rfl ?_
        refine aw_istore_n dX11_mixBoard_127 128 rfl rfl [(2, .int 0), (0, .ref (q_ad G 11 0)), (1, .int x1)] (by decide) rfl ?_
        refine aw_conv [1, 2, 0] rfl (TL_X11_mixBoard_128 l G x1  _ ?_ _ 0 u12)
        · intro u20
          exact aw_vret dX11_mixBoard_193 rfl
  · refine aw_aload_n (i := 0) dX11_mixBoard_9 10 rfl rfl 0 rfl ?_
    refine aw_ldc2 (x := (-1)) dX11_mixBoard_10 13 rfl wd_325 ?_
    refine aw_callV (M2 := m_X11_mix) (cv := q_cU) dX11_mixBoard_13 16 rfl (k_X11_mix l G (-1)  u0) wd_345 wv_X11_mix pk_X11_mix rfl rfl ⟨by decide, by decide⟩ ⟨Nat.zero_le _, Nat.zero_le _⟩ at_11 (ok_11 (by decide)) rfl rfl rfl (Nat.le_of_ble_eq_true rfl) (fun _z u21 => ?_)
    show qAW l G m_X11_mixBoard (q_mq G q_cU) 16 [(0, .ref (q_ad G 11 0)), (1, .int x1)] [] u21 _
    exact aw_vret dX11_mixBoard_16 rfl
theorem dX11_mixGauge_0 : decode cX11_mixGauge 0 = .ok (.aload_n 0, 1) := by decide +kernel
theorem dX11_mixGauge_1 : decode cX11_mixGauge 1 = .ok (.aload_n 0, 1) := by decide +kernel
theorem dX11_mixGauge_2 : decode cX11_mixGauge 2 = .ok (.getfield 141, 3) := by decide +kernel
theorem dX11_mixGauge_5 : decode cX11_mixGauge 5 = .ok (.iload_n 1, 1) := by decide +kernel
theorem dX11_mixGauge_6 : decode cX11_mixGauge 6 = .ok (.iaload, 1) := by decide +kernel
theorem dX11_mixGauge_7 : decode cX11_mixGauge 7 = .ok (.ifCond .ge 9, 3) := by decide +kernel
theorem dX11_mixGauge_10 : decode cX11_mixGauge 10 = .ok (.ldc2_w 346, 3) := by decide +kernel
theorem dX11_mixGauge_13 : decode cX11_mixGauge 13 = .ok (.goto 10, 3) := by decide +kernel
theorem dX11_mixGauge_16 : decode cX11_mixGauge 16 = .ok (.aload_n 0, 1) := by decide +kernel
theorem dX11_mixGauge_17 : decode cX11_mixGauge 17 = .ok (.getfield 141, 3) := by decide +kernel
theorem dX11_mixGauge_20 : decode cX11_mixGauge 20 = .ok (.iload_n 1, 1) := by decide +kernel
theorem dX11_mixGauge_21 : decode cX11_mixGauge 21 = .ok (.iaload, 1) := by decide +kernel
theorem dX11_mixGauge_22 : decode cX11_mixGauge 22 = .ok (.i2l, 1) := by decide +kernel
theorem dX11_mixGauge_23 : decode cX11_mixGauge 23 = .ok (.invokevirtual 393, 3) := by decide +kernel
theorem dX11_mixGauge_26 : decode cX11_mixGauge 26 = .ok (.aload_n 0, 1) := by decide +kernel
theorem dX11_mixGauge_27 : decode cX11_mixGauge 27 = .ok (.getfield 141, 3) := by decide +kernel
theorem dX11_mixGauge_30 : decode cX11_mixGauge 30 = .ok (.iload_n 1, 1) := by decide +kernel
theorem dX11_mixGauge_31 : decode cX11_mixGauge 31 = .ok (.iaload, 1) := by decide +kernel
theorem dX11_mixGauge_32 : decode cX11_mixGauge 32 = .ok (.ifCond .lt 79, 3) := by decide +kernel
theorem dX11_mixGauge_35 : decode cX11_mixGauge 35 = .ok (.aload_n 0, 1) := by decide +kernel
theorem dX11_mixGauge_36 : decode cX11_mixGauge 36 = .ok (.aload_n 0, 1) := by decide +kernel
theorem dX11_mixGauge_37 : decode cX11_mixGauge 37 = .ok (.getfield 144, 3) := by decide +kernel
theorem dX11_mixGauge_40 : decode cX11_mixGauge 40 = .ok (.iload_n 1, 1) := by decide +kernel
theorem dX11_mixGauge_41 : decode cX11_mixGauge 41 = .ok (.iaload, 1) := by decide +kernel
theorem dX11_mixGauge_42 : decode cX11_mixGauge 42 = .ok (.i2l, 1) := by decide +kernel
theorem dX11_mixGauge_43 : decode cX11_mixGauge 43 = .ok (.invokevirtual 393, 3) := by decide +kernel
theorem dX11_mixGauge_46 : decode cX11_mixGauge 46 = .ok (.aload_n 0, 1) := by decide +kernel
theorem dX11_mixGauge_47 : decode cX11_mixGauge 47 = .ok (.aload_n 0, 1) := by decide +kernel
theorem dX11_mixGauge_48 : decode cX11_mixGauge 48 = .ok (.getfield 147, 3) := by decide +kernel
theorem dX11_mixGauge_51 : decode cX11_mixGauge 51 = .ok (.iload_n 1, 1) := by decide +kernel
theorem dX11_mixGauge_52 : decode cX11_mixGauge 52 = .ok (.iaload, 1) := by decide +kernel
theorem dX11_mixGauge_53 : decode cX11_mixGauge 53 = .ok (.i2l, 1) := by decide +kernel
theorem dX11_mixGauge_54 : decode cX11_mixGauge 54 = .ok (.invokevirtual 393, 3) := by decide +kernel
theorem dX11_mixGauge_57 : decode cX11_mixGauge 57 = .ok (.iconst 0, 1) := by decide +kernel
theorem dX11_mixGauge_58 : decode cX11_mixGauge 58 = .ok (.istore_n 2, 1) := by decide +kernel
theorem dX11_mixGauge_59 : decode cX11_mixGauge 59 = .ok (.iload_n 2, 1) := by decide +kernel
theorem dX11_mixGauge_60 : decode cX11_mixGauge 60 = .ok (.aload_n 0, 1) := by decide +kernel
theorem dX11_mixGauge_61 : decode cX11_mixGauge 61 = .ok (.getfield 147, 3) := by decide +kernel
theorem dX11_mixGauge_64 : decode cX11_mixGauge 64 = .ok (.iload_n 1, 1) := by decide +kernel
theorem dX11_mixGauge_65 : decode cX11_mixGauge 65 = .ok (.iaload, 1) := by decide +kernel
theorem dX11_mixGauge_66 : decode cX11_mixGauge 66 = .ok (.if_icmp .ge 45, 3) := by decide +kernel
theorem dX11_mixGauge_69 : decode cX11_mixGauge 69 = .ok (.aload_n 0, 1) := by decide +kernel
theorem dX11_mixGauge_70 : decode cX11_mixGauge 70 = .ok (.aload_n 0, 1) := by decide +kernel
theorem dX11_mixGauge_71 : decode cX11_mixGauge 71 = .ok (.getfield 153, 3) := by decide +kernel
theorem dX11_mixGauge_74 : decode cX11_mixGauge 74 = .ok (.bipush 48, 2) := by decide +kernel
theorem dX11_mixGauge_76 : decode cX11_mixGauge 76 = .ok (.iload_n 1, 1) := by decide +kernel
theorem dX11_mixGauge_77 : decode cX11_mixGauge 77 = .ok (.imul, 1) := by decide +kernel
theorem dX11_mixGauge_78 : decode cX11_mixGauge 78 = .ok (.iload_n 2, 1) := by decide +kernel
theorem dX11_mixGauge_79 : decode cX11_mixGauge 79 = .ok (.iadd, 1) := by decide +kernel
theorem dX11_mixGauge_80 : decode cX11_mixGauge 80 = .ok (.baload, 1) := by decide +kernel
theorem dX11_mixGauge_81 : decode cX11_mixGauge 81 = .ok (.ifCond .eq 9, 3) := by decide +kernel
theorem dX11_mixGauge_84 : decode cX11_mixGauge 84 = .ok (.ldc2_w 397, 3) := by decide +kernel
theorem dX11_mixGauge_87 : decode cX11_mixGauge 87 = .ok (.goto 15, 3) := by decide +kernel
theorem dX11_mixGauge_90 : decode cX11_mixGauge 90 = .ok (.aload_n 0, 1) := by decide +kernel
theorem dX11_mixGauge_91 : decode cX11_mixGauge 91 = .ok (.getfield 150, 3) := by decide +kernel
theorem dX11_mixGauge_94 : decode cX11_mixGauge 94 = .ok (.bipush 48, 2) := by decide +kernel
theorem dX11_mixGauge_96 : decode cX11_mixGauge 96 = .ok (.iload_n 1, 1) := by decide +kernel
theorem dX11_mixGauge_97 : decode cX11_mixGauge 97 = .ok (.imul, 1) := by decide +kernel
theorem dX11_mixGauge_98 : decode cX11_mixGauge 98 = .ok (.iload_n 2, 1) := by decide +kernel
theorem dX11_mixGauge_99 : decode cX11_mixGauge 99 = .ok (.iadd, 1) := by decide +kernel
theorem dX11_mixGauge_100 : decode cX11_mixGauge 100 = .ok (.iaload, 1) := by decide +kernel
theorem dX11_mixGauge_101 : decode cX11_mixGauge 101 = .ok (.i2l, 1) := by decide +kernel
theorem dX11_mixGauge_102 : decode cX11_mixGauge 102 = .ok (.invokevirtual 393, 3) := by decide +kernel
theorem dX11_mixGauge_105 : decode cX11_mixGauge 105 = .ok (.iinc 2 1, 3) := by decide +kernel
theorem dX11_mixGauge_108 : decode cX11_mixGauge 108 = .ok (.goto (-49), 3) := by decide +kernel
theorem dX11_mixGauge_111 : decode cX11_mixGauge 111 = .ok (.return_, 1) := by decide +kernel
noncomputable def L_X11_mixGauge_59 (x1 : Int32) : Nat → Int32 → qM → (qM → Option (Unit × qM)) → Option (Unit × qM)
  | 0, _, _, _ => none
  | n + 1, x2, u6, e1 => q_ck (q_in x1 8) (if (u6.1 110 0 (Int32.toNatClampNeg x1)) ≤ x2 then e1 u6 else q_ck (q_in ((48 * x1) + x2) 384) (q_jn (fun (w2 : Int64) (u7 : qM) => q_bd (f_X11_mix w2 u7) (fun (_z : Unit) (u8 : qM) => q_lt (x2 + 1) (fun (x3 : Int32) => L_X11_mixGauge_59 x1 n x3 u8 e1))) (fun j3 => if (u6.1 112 0 (Int32.toNatClampNeg ((48 * x1) + x2))) = 0 then q_ck (q_in ((48 * x1) + x2) 384) (j3 (Int32.toInt64 (u6.1 111 0 (Int32.toNatClampNeg ((48 * x1) + x2)))) u6) else j3 (-9) u6)))
noncomputable def f_X11_mixGauge (x1 : Int32) (u0 : qM) : Option (Unit × qM) :=
  q_ck (q_in x1 8) (q_jn (fun (w1 : Int64) (u1 : qM) => q_bd (f_X11_mix w1 u1) (fun (_z : Unit) (u2 : qM) => q_ck (q_in x1 8) (q_jn (fun  (u3 : qM) => some ((), u3)) (fun j2 => if (u2.1 108 0 (Int32.toNatClampNeg x1)) < 0 then j2 u2 else q_ck (q_in x1 8) (q_bd (f_X11_mix (Int32.toInt64 (u2.1 109 0 (Int32.toNatClampNeg x1))) u2) (fun (_z : Unit) (u4 : qM) => q_ck (q_in x1 8) (q_bd (f_X11_mix (Int32.toInt64 (u4.1 110 0 (Int32.toNatClampNeg x1))) u4) (fun (_z : Unit) (u5 : qM) => L_X11_mixGauge_59 x1 q_fu 0 u5 (fun u9 => j2 u9))))))))) (fun j1 => if (0 : Int32) ≤ (u0.1 108 0 (Int32.toNatClampNeg x1)) then q_ck (q_in x1 8) (j1 (Int32.toInt64 (u0.1 108 0 (Int32.toNatClampNeg x1))) u0) else j1 (-1) u0))
set_option maxRecDepth 100000 in
set_option maxHeartbeats 4000000 in
theorem TL_X11_mixGauge_59 (l : Launch) (G : qG) (x1 : Int32)  (e1 : qM → Option (Unit × qM)) (he1 : ∀  (v : qM), qAW l G m_X11_mixGauge (q_mq G q_cU) 111 [] [] v (e1 v)) : ∀ (n : Nat) (x2 : Int32) (u6 : qM), qAW l G m_X11_mixGauge (q_mq G q_cU) 59 [(0, .ref (q_ad G 11 0)), (1, .int x1), (2, .int x2)] [] u6 (L_X11_mixGauge_59 x1 n x2 u6 e1) := by
  intro n
  induction n with
  | zero => intros; exact aw_none
  | succ n ih =>
    intro x2 u6
    unfold L_X11_mixGauge_59
    refine aw_iload_n (i := 2) dX11_mixGauge_59 60 rfl rfl 2 rfl ?_
    refine aw_aload_n (i := 0) dX11_mixGauge_60 61 rfl rfl 0 rfl ?_
    refine gf_X11_50 dX11_mixGauge_61 64 rfl wd_289 (ok_11 (by decide)) ?_
    refine aw_iload_n (i := 1) dX11_mixGauge_64 65 rfl rfl 1 rfl ?_
    refine aw_iald dX11_mixGauge_65 66 rfl at_110 (al_110 _) (ok_110 (by decide)) (fun h7 => ?_)
    refine aw_icmp_ge dX11_mixGauge_66 69 rfl 111 rfl (fun h8 => ?_) (fun h8 => ?_)
    · exact aw_conv [] rfl (he1 u6)
    · refine aw_aload_n (i := 0) dX11_mixGauge_69 70 rfl rfl 0 rfl ?_
      refine aw_aload_n (i := 0) dX11_mixGauge_70 71 rfl rfl 0 rfl ?_
      refine gf_X11_52 dX11_mixGauge_71 74 rfl wd_291 (ok_11 (by decide)) ?_
      refine aw_bipush (x := 48) dX11_mixGauge_74 76 rfl rfl ?_
      refine aw_iload_n (i := 1) dX11_mixGauge_76 77 rfl rfl 1 rfl ?_
      refine aw_imul dX11_mixGauge_77 78 rfl ?_
      refine aw_iload_n (i := 2) dX11_mixGauge_78 79 rfl rfl 2 rfl ?_
      refine aw_iadd dX11_mixGauge_79 80 rfl ?_
      refine aw_zald dX11_mixGauge_80 81 rfl at_112 (al_112 _) (ok_112 (by decide)) (fun h9 => ?_)
      refine aw_jn (fun k => ∀ (w2 : Int64) (u7 : qM), qAW l G m_X11_mixGauge (q_mq G q_cU) 102 [(0, .ref (q_ad G 11 0)), (1, .int x1), (2, .int x2)] [.long w2, .ref (q_ad G 11 0)] u7 (k w2 u7)) ?_ ?_
      · intro w2 u7
        refine aw_callV (M2 := m_X11_mix) (cv := q_cU) dX11_mixGauge_102 105 rfl (k_X11_mix l G w2  u7) wd_345 wv_X11_mix pk_X11_mix rfl rfl ⟨by decide, by decide⟩ ⟨Nat.zero_le _, Nat.zero_le _⟩ at_11 (ok_11 (by decide)) rfl rfl rfl (Nat.le_of_ble_eq_true rfl) (fun _z u8 => ?_)
        show qAW l G m_X11_mixGauge (q_mq G q_cU) 105 [(0, .ref (q_ad G 11 0)), (1, .int x1), (2, .int x2)] [] u8 _
        refine aw_iincx (i := 2) dX11_mixGauge_105 108 rfl 2 rfl 1 rfl (fun x3 => [(2, .int x3), (0, .ref (q_ad G 11 0)), (1, .int x1)]) (by decide) (fun _ => rfl) (fun x3 => ?_)
        refine aw_goto dX11_mixGauge_108 59 rfl ?_
        exact aw_conv [1, 2, 0] rfl (ih x3 u8)
      · intro j3 hj3
        refine aw_if_eq dX11_mixGauge_81 84 rfl 90 rfl (fun h10 => ?_) (fun h10 => ?_)
        · refine aw_aload_n (i := 0) dX11_mixGauge_90 91 rfl rfl 0 rfl ?_
          refine gf_X11_51 dX11_mixGauge_91 94 rfl wd_290 (ok_11 (by decide)) ?_
          refine aw_bipush (x := 48) dX11_mixGauge_94 96 rfl rfl ?_
          refine aw_iload_n (i := 1) dX11_mixGauge_96 97 rfl rfl 1 rfl ?_
          refine aw_imul dX11_mixGauge_97 98 rfl ?_
          refine aw_iload_n (i := 2) dX11_mixGauge_98 99 rfl rfl 2 rfl ?_
          refine aw_iadd dX11_mixGauge_99 100 rfl ?_
          refine aw_iald dX11_mixGauge_100 101 rfl at_111 (al_111 _) (ok_111 (by decide)) (fun h11 => ?_)
          refine aw_i2l dX11_mixGauge_101 102 rfl ?_
          exact hj3 (Int32.toInt64 (u6.1 111 0 (Int32.toNatClampNeg ((48 * x1) + x2)))) u6
        · refine aw_ldc2 (x := (-9)) dX11_mixGauge_84 87 rfl wd_346 ?_
          refine aw_goto dX11_mixGauge_87 102 rfl ?_
          exact hj3 (-9) u6
set_option maxRecDepth 100000 in
set_option maxHeartbeats 4000000 in
theorem k_X11_mixGauge (l : Launch) (G : qG) (x1 : Int32)  (u0 : qM) : qCt l G m_X11_mixGauge q_cU [.ref (q_ad G 11 0), .int x1] u0 (f_X11_mixGauge x1 u0) := by
  refine q_entry pk_X11_mixGauge (Nat.le_of_ble_eq_true rfl) ?_
  show qAW l G m_X11_mixGauge (q_mq G q_cU) 0 [(0, .ref (q_ad G 11 0)), (1, .int x1)] [] u0 (f_X11_mixGauge x1 u0)
  unfold f_X11_mixGauge
  refine aw_aload_n (i := 0) dX11_mixGauge_0 1 rfl rfl 0 rfl ?_
  refine aw_aload_n (i := 0) dX11_mixGauge_1 2 rfl rfl 0 rfl ?_
  refine gf_X11_48 dX11_mixGauge_2 5 rfl wd_255 (ok_11 (by decide)) ?_
  refine aw_iload_n (i := 1) dX11_mixGauge_5 6 rfl rfl 1 rfl ?_
  refine aw_iald dX11_mixGauge_6 7 rfl at_108 (al_108 _) (ok_108 (by decide)) (fun h1 => ?_)
  refine aw_jn (fun k => ∀ (w1 : Int64) (u1 : qM), qAW l G m_X11_mixGauge (q_mq G q_cU) 23 [(0, .ref (q_ad G 11 0)), (1, .int x1)] [.long w1, .ref (q_ad G 11 0)] u1 (k w1 u1)) ?_ ?_
  · intro w1 u1
    refine aw_callV (M2 := m_X11_mix) (cv := q_cU) dX11_mixGauge_23 26 rfl (k_X11_mix l G w1  u1) wd_345 wv_X11_mix pk_X11_mix rfl rfl ⟨by decide, by decide⟩ ⟨Nat.zero_le _, Nat.zero_le _⟩ at_11 (ok_11 (by decide)) rfl rfl rfl (Nat.le_of_ble_eq_true rfl) (fun _z u2 => ?_)
    show qAW l G m_X11_mixGauge (q_mq G q_cU) 26 [(0, .ref (q_ad G 11 0)), (1, .int x1)] [] u2 _
    refine aw_aload_n (i := 0) dX11_mixGauge_26 27 rfl rfl 0 rfl ?_
    refine gf_X11_48 dX11_mixGauge_27 30 rfl wd_255 (ok_11 (by decide)) ?_
    refine aw_iload_n (i := 1) dX11_mixGauge_30 31 rfl rfl 1 rfl ?_
    refine aw_iald dX11_mixGauge_31 32 rfl at_108 (al_108 _) (ok_108 (by decide)) (fun h3 => ?_)
    refine aw_jn (fun k => ∀  (u3 : qM), qAW l G m_X11_mixGauge (q_mq G q_cU) 111 [] [] u3 (k u3)) ?_ ?_
    · intro u3
      exact aw_vret dX11_mixGauge_111 rfl
    · intro j2 hj2
      refine aw_if_lt dX11_mixGauge_32 35 rfl 111 rfl (fun h4 => ?_) (fun h4 => ?_)
      · exact aw_conv [] rfl (hj2 u2)
      · refine aw_aload_n (i := 0) dX11_mixGauge_35 36 rfl rfl 0 rfl ?_
        refine aw_aload_n (i := 0) dX11_mixGauge_36 37 rfl rfl 0 rfl ?_
        refine gf_X11_49 dX11_mixGauge_37 40 rfl wd_298 (ok_11 (by decide)) ?_
        refine aw_iload_n (i := 1) dX11_mixGauge_40 41 rfl rfl 1 rfl ?_
        refine aw_iald dX11_mixGauge_41 42 rfl at_109 (al_109 _) (ok_109 (by decide)) (fun h5 => ?_)
        refine aw_i2l dX11_mixGauge_42 43 rfl ?_
        refine aw_callV (M2 := m_X11_mix) (cv := q_cU) dX11_mixGauge_43 46 rfl (k_X11_mix l G (Int32.toInt64 (u2.1 109 0 (Int32.toNatClampNeg x1)))  u2) wd_345 wv_X11_mix pk_X11_mix rfl rfl ⟨by decide, by decide⟩ ⟨Nat.zero_le _, Nat.zero_le _⟩ at_11 (ok_11 (by decide)) rfl rfl rfl (Nat.le_of_ble_eq_true rfl) (fun _z u4 => ?_)
        show qAW l G m_X11_mixGauge (q_mq G q_cU) 46 [(0, .ref (q_ad G 11 0)), (1, .int x1)] [] u4 _
        refine aw_aload_n (i := 0) dX11_mixGauge_46 47 rfl rfl 0 rfl ?_
        refine aw_aload_n (i := 0) dX11_mixGauge_47 48 rfl rfl 0 rfl ?_
        refine gf_X11_50 dX11_mixGauge_48 51 rfl wd_289 (ok_11 (by decide)) ?_
        refine aw_iload_n (i := 1) dX11_mixGauge_51 52 rfl rfl 1 rfl ?_
        refine aw_iald dX11_mixGauge_52 53 rfl at_110 (al_110 _) (ok_110 (by decide)) (fun h6 => ?_)
        refine aw_i2l dX11_mixGauge_53 54 rfl ?_
        refine aw_callV (M2 := m_X11_mix) (cv := q_cU) dX11_mixGauge_54 57 rfl (k_X11_mix l G (Int32.toInt64 (u4.1 110 0 (Int32.toNatClampNeg x1)))  u4) wd_345 wv_X11_mix pk_X11_mix rfl rfl ⟨by decide, by decide⟩ ⟨Nat.zero_le _, Nat.zero_le _⟩ at_11 (ok_11 (by decide)) rfl rfl rfl (Nat.le_of_ble_eq_true rfl) (fun _z u5 => ?_)
        show qAW l G m_X11_mixGauge (q_mq G q_cU) 57 [(0, .ref (q_ad G 11 0)), (1, .int x1)] [] u5 _
        refine aw_iconst (x := 0) dX11_mixGauge_57 58 rfl rfl ?_
        refine aw_istore_n dX11_mixGauge_58 59 rfl rfl [(2, .int 0), (0, .ref (q_ad G 11 0)), (1, .int x1)] (by decide) rfl ?_
        refine aw_conv [1, 2, 0] rfl (TL_X11_mixGauge_59 l G x1  _ ?_ _ 0 u5)
        · intro u9
          exact hj2 u9
  · intro j1 hj1
    refine aw_if_ge dX11_mixGauge_7 10 rfl 16 rfl (fun h2 => ?_) (fun h2 => ?_)
    · refine aw_aload_n (i := 0) dX11_mixGauge_16 17 rfl rfl 0 rfl ?_
      refine gf_X11_48 dX11_mixGauge_17 20 rfl wd_255 (ok_11 (by decide)) ?_
      refine aw_iload_n (i := 1) dX11_mixGauge_20 21 rfl rfl 1 rfl ?_
      refine aw_iald dX11_mixGauge_21 22 rfl at_108 (al_108 _) (ok_108 (by decide)) (fun h12 => ?_)
      refine aw_i2l dX11_mixGauge_22 23 rfl ?_
      exact hj1 (Int32.toInt64 (u0.1 108 0 (Int32.toNatClampNeg x1))) u0
    · refine aw_ldc2 (x := (-1)) dX11_mixGauge_10 13 rfl wd_325 ?_
      refine aw_goto dX11_mixGauge_13 23 rfl ?_
      exact hj1 (-1) u0
