theorem dX11_law_0 : decode cX11_law 0 = .ok (.iload_n 2, 1) := by decide +kernel
theorem dX11_law_1 : decode cX11_law 1 = .ok (.iconst 1, 1) := by decide +kernel
theorem dX11_law_2 : decode cX11_law 2 = .ok (.bipush 8, 2) := by decide +kernel
theorem dX11_law_4 : decode cX11_law 4 = .ok (.invokestatic 182, 3) := by decide +kernel
theorem dX11_law_7 : decode cX11_law 7 = .ok (.ifCond .eq 14, 3) := by decide +kernel
theorem dX11_law_10 : decode cX11_law 10 = .ok (.iload_n 3, 1) := by decide +kernel
theorem dX11_law_11 : decode cX11_law 11 = .ok (.iconst 2, 1) := by decide +kernel
theorem dX11_law_12 : decode cX11_law 12 = .ok (.sipush 1000, 3) := by decide +kernel
theorem dX11_law_15 : decode cX11_law 15 = .ok (.invokestatic 182, 3) := by decide +kernel
theorem dX11_law_18 : decode cX11_law 18 = .ok (.ifCond .ne 5, 3) := by decide +kernel
theorem dX11_law_21 : decode cX11_law 21 = .ok (.iconst (-1), 1) := by decide +kernel
theorem dX11_law_22 : decode cX11_law 22 = .ok (.ireturn, 1) := by decide +kernel
theorem dX11_law_23 : decode cX11_law 23 = .ok (.aload_n 0, 1) := by decide +kernel
theorem dX11_law_24 : decode cX11_law 24 = .ok (.iload_n 1, 1) := by decide +kernel
theorem dX11_law_25 : decode cX11_law 25 = .ok (.invokevirtual 237, 3) := by decide +kernel
theorem dX11_law_28 : decode cX11_law 28 = .ok (.istore 4, 2) := by decide +kernel
theorem dX11_law_30 : decode cX11_law 30 = .ok (.iload 4, 2) := by decide +kernel
theorem dX11_law_32 : decode cX11_law 32 = .ok (.ifCond .ge 6, 3) := by decide +kernel
theorem dX11_law_35 : decode cX11_law 35 = .ok (.iload 4, 2) := by decide +kernel
theorem dX11_law_37 : decode cX11_law 37 = .ok (.ireturn, 1) := by decide +kernel
theorem dX11_law_38 : decode cX11_law 38 = .ok (.aload_n 0, 1) := by decide +kernel
theorem dX11_law_39 : decode cX11_law 39 = .ok (.getfield 47, 3) := by decide +kernel
theorem dX11_law_42 : decode cX11_law 42 = .ok (.iload_n 1, 1) := by decide +kernel
theorem dX11_law_43 : decode cX11_law 43 = .ok (.iload_n 2, 1) := by decide +kernel
theorem dX11_law_44 : decode cX11_law 44 = .ok (.iastore, 1) := by decide +kernel
theorem dX11_law_45 : decode cX11_law 45 = .ok (.aload_n 0, 1) := by decide +kernel
theorem dX11_law_46 : decode cX11_law 46 = .ok (.getfield 50, 3) := by decide +kernel
theorem dX11_law_49 : decode cX11_law 49 = .ok (.iload_n 1, 1) := by decide +kernel
theorem dX11_law_50 : decode cX11_law 50 = .ok (.iload_n 3, 1) := by decide +kernel
theorem dX11_law_51 : decode cX11_law 51 = .ok (.iastore, 1) := by decide +kernel
theorem dX11_law_52 : decode cX11_law 52 = .ok (.iconst 1, 1) := by decide +kernel
theorem dX11_law_53 : decode cX11_law 53 = .ok (.ireturn, 1) := by decide +kernel
noncomputable def f_X11_law (x1 : Int32) (x2 : Int32) (x3 : Int32) (u0 : qM) : Option (Int32 × qM) :=
  q_bd (f_X11_in x2 1 8 u0) (fun (x4 : Int32) (u1 : qM) => q_jn (fun  (u2 : qM) => some ((-1), u2)) (fun j1 => if x4 = 0 then j1 u1 else q_bd (f_X11_in x3 2 1000 u1) (fun (x5 : Int32) (u3 : qM) => if x5 = 0 then j1 u3 else q_bd (f_X11_askedFor x1 u3) (fun (x6 : Int32) (u4 : qM) => if (0 : Int32) ≤ x6 then q_ck (q_in x1 8) (q_lt (q_si u4 77 0 (Int32.toNatClampNeg x1) x2) (fun (u5 : qM) => q_ck (q_in x1 8) (q_lt (q_si u5 78 0 (Int32.toNatClampNeg x1) x3) (fun (u6 : qM) => some (1, u6))))) else some (x6, u4)))))
set_option maxRecDepth 100000 in
set_option maxHeartbeats 4000000 in
theorem k_X11_law (l : Launch) (G : qG) (x1 : Int32) (x2 : Int32) (x3 : Int32)  (u0 : qM) : qCt l G m_X11_law q_cI [.ref (q_ad G 11 0), .int x1, .int x2, .int x3] u0 (f_X11_law x1 x2 x3 u0) := by
  refine q_entry pk_X11_law (Nat.le_of_ble_eq_true rfl) ?_
  show qAW l G m_X11_law (q_mq G q_cI) 0 [(0, .ref (q_ad G 11 0)), (1, .int x1), (2, .int x2), (3, .int x3)] [] u0 (f_X11_law x1 x2 x3 u0)
  unfold f_X11_law
  refine aw_iload_n (i := 2) dX11_law_0 1 rfl rfl 2 rfl ?_
  refine aw_iconst (x := 1) dX11_law_1 2 rfl rfl ?_
  refine aw_bipush (x := 8) dX11_law_2 4 rfl rfl ?_
  refine aw_callS (M2 := m_X11_in) (cv := q_cI) dX11_law_4 7 rfl (k_X11_in l G x2 1 8  u0) wd_226 wv_X11_in pk_X11_in rfl ⟨by decide, by decide⟩ ⟨Nat.zero_le _, Nat.zero_le _⟩ rfl (Nat.le_of_ble_eq_true rfl) (fun x4 u1 => ?_)
  show qAW l G m_X11_law (q_mq G q_cI) 7 [(0, .ref (q_ad G 11 0)), (1, .int x1), (2, .int x2), (3, .int x3)] [.int x4] u1 _
  refine aw_jn (fun k => ∀  (u2 : qM), qAW l G m_X11_law (q_mq G q_cI) 21 [] [] u2 (k u2)) ?_ ?_
  · intro u2
    refine aw_iconst (x := (-1)) dX11_law_21 22 rfl rfl ?_
    exact aw_iret dX11_law_22 rfl
  · intro j1 hj1
    refine aw_if_eq dX11_law_7 10 rfl 21 rfl (fun h1 => ?_) (fun h1 => ?_)
    · exact aw_conv [] rfl (hj1 u1)
    · refine aw_iload_n (i := 3) dX11_law_10 11 rfl rfl 3 rfl ?_
      refine aw_iconst (x := 2) dX11_law_11 12 rfl rfl ?_
      refine aw_sipush (x := 1000) dX11_law_12 15 rfl rfl ?_
      refine aw_callS (M2 := m_X11_in) (cv := q_cI) dX11_law_15 18 rfl (k_X11_in l G x3 2 1000  u1) wd_226 wv_X11_in pk_X11_in rfl ⟨by decide, by decide⟩ ⟨Nat.zero_le _, Nat.zero_le _⟩ rfl (Nat.le_of_ble_eq_true rfl) (fun x5 u3 => ?_)
      show qAW l G m_X11_law (q_mq G q_cI) 18 [(0, .ref (q_ad G 11 0)), (1, .int x1), (2, .int x2), (3, .int x3)] [.int x5] u3 _
      refine aw_if_ne dX11_law_18 21 rfl 23 rfl (fun h2 => ?_) (fun h2 => ?_)
      · refine aw_aload_n (i := 0) dX11_law_23 24 rfl rfl 0 rfl ?_
        refine aw_iload_n (i := 1) dX11_law_24 25 rfl rfl 1 rfl ?_
        refine aw_callV (M2 := m_X11_askedFor) (cv := q_cI) dX11_law_25 28 rfl (k_X11_askedFor l G x1  u3) wd_274 wv_X11_askedFor pk_X11_askedFor rfl rfl ⟨by decide, by decide⟩ ⟨Nat.zero_le _, Nat.zero_le _⟩ at_11 (ok_11 (by decide)) rfl rfl rfl (Nat.le_of_ble_eq_true rfl) (fun x6 u4 => ?_)
        show qAW l G m_X11_law (q_mq G q_cI) 28 [(0, .ref (q_ad G 11 0)), (1, .int x1), (2, .int x2), (3, .int x3)] [.int x6] u4 _
        refine aw_istore dX11_law_28 30 rfl [(4, .int x6), (0, .ref (q_ad G 11 0)), (1, .int x1), (2, .int x2), (3, .int x3)] (by decide) rfl ?_
        refine aw_iload (i := 4) dX11_law_30 32 rfl 0 rfl ?_
        refine aw_if_ge dX11_law_32 35 rfl 38 rfl (fun h3 => ?_) (fun h3 => ?_)
        · refine aw_aload_n (i := 0) dX11_law_38 39 rfl rfl 1 rfl ?_
          refine gf_X11_17 dX11_law_39 42 rfl wd_256 (ok_11 (by decide)) ?_
          refine aw_iload_n (i := 1) dX11_law_42 43 rfl rfl 2 rfl ?_
          refine aw_iload_n (i := 2) dX11_law_43 44 rfl rfl 3 rfl ?_
          refine aw_iast dX11_law_44 45 rfl at_77 (al_77 _) (ok_77 (by decide)) (fun h4 => ?_)
          refine aw_ltm (fun u5 => ?_)
          refine aw_aload_n (i := 0) dX11_law_45 46 rfl rfl 1 rfl ?_
          refine gf_X11_18 dX11_law_46 49 rfl wd_257 (ok_11 (by decide)) ?_
          refine aw_iload_n (i := 1) dX11_law_49 50 rfl rfl 2 rfl ?_
          refine aw_iload_n (i := 3) dX11_law_50 51 rfl rfl 4 rfl ?_
          refine aw_iast dX11_law_51 52 rfl at_78 (al_78 _) (ok_78 (by decide)) (fun h5 => ?_)
          refine aw_ltm (fun u6 => ?_)
          refine aw_iconst (x := 1) dX11_law_52 53 rfl rfl ?_
          exact aw_iret dX11_law_53 rfl
        · refine aw_iload (i := 4) dX11_law_35 37 rfl 0 rfl ?_
          exact aw_iret dX11_law_37 rfl
      · exact aw_conv [] rfl (hj1 u3)
theorem dX11_wind_0 : decode cX11_wind 0 = .ok (.iload_n 2, 1) := by decide +kernel
theorem dX11_wind_1 : decode cX11_wind 1 = .ok (.bipush (-50), 2) := by decide +kernel
theorem dX11_wind_3 : decode cX11_wind 3 = .ok (.bipush 50, 2) := by decide +kernel
theorem dX11_wind_5 : decode cX11_wind 5 = .ok (.invokestatic 182, 3) := by decide +kernel
theorem dX11_wind_8 : decode cX11_wind 8 = .ok (.ifCond .eq 14, 3) := by decide +kernel
theorem dX11_wind_11 : decode cX11_wind 11 = .ok (.iload_n 3, 1) := by decide +kernel
theorem dX11_wind_12 : decode cX11_wind 12 = .ok (.bipush (-50), 2) := by decide +kernel
theorem dX11_wind_14 : decode cX11_wind 14 = .ok (.bipush 50, 2) := by decide +kernel
theorem dX11_wind_16 : decode cX11_wind 16 = .ok (.invokestatic 182, 3) := by decide +kernel
theorem dX11_wind_19 : decode cX11_wind 19 = .ok (.ifCond .ne 5, 3) := by decide +kernel
theorem dX11_wind_22 : decode cX11_wind 22 = .ok (.iconst (-1), 1) := by decide +kernel
theorem dX11_wind_23 : decode cX11_wind 23 = .ok (.ireturn, 1) := by decide +kernel
theorem dX11_wind_24 : decode cX11_wind 24 = .ok (.aload_n 0, 1) := by decide +kernel
theorem dX11_wind_25 : decode cX11_wind 25 = .ok (.iload_n 1, 1) := by decide +kernel
theorem dX11_wind_26 : decode cX11_wind 26 = .ok (.invokevirtual 237, 3) := by decide +kernel
theorem dX11_wind_29 : decode cX11_wind 29 = .ok (.istore 4, 2) := by decide +kernel
theorem dX11_wind_31 : decode cX11_wind 31 = .ok (.iload 4, 2) := by decide +kernel
theorem dX11_wind_33 : decode cX11_wind 33 = .ok (.ifCond .ge 6, 3) := by decide +kernel
theorem dX11_wind_36 : decode cX11_wind 36 = .ok (.iload 4, 2) := by decide +kernel
theorem dX11_wind_38 : decode cX11_wind 38 = .ok (.ireturn, 1) := by decide +kernel
theorem dX11_wind_39 : decode cX11_wind 39 = .ok (.aload_n 0, 1) := by decide +kernel
theorem dX11_wind_40 : decode cX11_wind 40 = .ok (.getfield 53, 3) := by decide +kernel
theorem dX11_wind_43 : decode cX11_wind 43 = .ok (.iload_n 1, 1) := by decide +kernel
theorem dX11_wind_44 : decode cX11_wind 44 = .ok (.iload_n 2, 1) := by decide +kernel
theorem dX11_wind_45 : decode cX11_wind 45 = .ok (.iastore, 1) := by decide +kernel
theorem dX11_wind_46 : decode cX11_wind 46 = .ok (.aload_n 0, 1) := by decide +kernel
theorem dX11_wind_47 : decode cX11_wind 47 = .ok (.getfield 56, 3) := by decide +kernel
theorem dX11_wind_50 : decode cX11_wind 50 = .ok (.iload_n 1, 1) := by decide +kernel
theorem dX11_wind_51 : decode cX11_wind 51 = .ok (.iload_n 3, 1) := by decide +kernel
theorem dX11_wind_52 : decode cX11_wind 52 = .ok (.iastore, 1) := by decide +kernel
theorem dX11_wind_53 : decode cX11_wind 53 = .ok (.iconst 1, 1) := by decide +kernel
theorem dX11_wind_54 : decode cX11_wind 54 = .ok (.ireturn, 1) := by decide +kernel
noncomputable def f_X11_wind (x1 : Int32) (x2 : Int32) (x3 : Int32) (u0 : qM) : Option (Int32 × qM) :=
  q_bd (f_X11_in x2 (-50) 50 u0) (fun (x4 : Int32) (u1 : qM) => q_jn (fun  (u2 : qM) => some ((-1), u2)) (fun j1 => if x4 = 0 then j1 u1 else q_bd (f_X11_in x3 (-50) 50 u1) (fun (x5 : Int32) (u3 : qM) => if x5 = 0 then j1 u3 else q_bd (f_X11_askedFor x1 u3) (fun (x6 : Int32) (u4 : qM) => if (0 : Int32) ≤ x6 then q_ck (q_in x1 8) (q_lt (q_si u4 79 0 (Int32.toNatClampNeg x1) x2) (fun (u5 : qM) => q_ck (q_in x1 8) (q_lt (q_si u5 80 0 (Int32.toNatClampNeg x1) x3) (fun (u6 : qM) => some (1, u6))))) else some (x6, u4)))))
set_option maxRecDepth 100000 in
set_option maxHeartbeats 4000000 in
theorem k_X11_wind (l : Launch) (G : qG) (x1 : Int32) (x2 : Int32) (x3 : Int32)  (u0 : qM) : qCt l G m_X11_wind q_cI [.ref (q_ad G 11 0), .int x1, .int x2, .int x3] u0 (f_X11_wind x1 x2 x3 u0) := by
  refine q_entry pk_X11_wind (Nat.le_of_ble_eq_true rfl) ?_
  show qAW l G m_X11_wind (q_mq G q_cI) 0 [(0, .ref (q_ad G 11 0)), (1, .int x1), (2, .int x2), (3, .int x3)] [] u0 (f_X11_wind x1 x2 x3 u0)
  unfold f_X11_wind
  refine aw_iload_n (i := 2) dX11_wind_0 1 rfl rfl 2 rfl ?_
  refine aw_bipush (x := (-50)) dX11_wind_1 3 rfl rfl ?_
  refine aw_bipush (x := 50) dX11_wind_3 5 rfl rfl ?_
  refine aw_callS (M2 := m_X11_in) (cv := q_cI) dX11_wind_5 8 rfl (k_X11_in l G x2 (-50) 50  u0) wd_226 wv_X11_in pk_X11_in rfl ⟨by decide, by decide⟩ ⟨Nat.zero_le _, Nat.zero_le _⟩ rfl (Nat.le_of_ble_eq_true rfl) (fun x4 u1 => ?_)
  show qAW l G m_X11_wind (q_mq G q_cI) 8 [(0, .ref (q_ad G 11 0)), (1, .int x1), (2, .int x2), (3, .int x3)] [.int x4] u1 _
  refine aw_jn (fun k => ∀  (u2 : qM), qAW l G m_X11_wind (q_mq G q_cI) 22 [] [] u2 (k u2)) ?_ ?_
  · intro u2
    refine aw_iconst (x := (-1)) dX11_wind_22 23 rfl rfl ?_
    exact aw_iret dX11_wind_23 rfl
  · intro j1 hj1
    refine aw_if_eq dX11_wind_8 11 rfl 22 rfl (fun h1 => ?_) (fun h1 => ?_)
    · exact aw_conv [] rfl (hj1 u1)
    · refine aw_iload_n (i := 3) dX11_wind_11 12 rfl rfl 3 rfl ?_
      refine aw_bipush (x := (-50)) dX11_wind_12 14 rfl rfl ?_
      refine aw_bipush (x := 50) dX11_wind_14 16 rfl rfl ?_
      refine aw_callS (M2 := m_X11_in) (cv := q_cI) dX11_wind_16 19 rfl (k_X11_in l G x3 (-50) 50  u1) wd_226 wv_X11_in pk_X11_in rfl ⟨by decide, by decide⟩ ⟨Nat.zero_le _, Nat.zero_le _⟩ rfl (Nat.le_of_ble_eq_true rfl) (fun x5 u3 => ?_)
      show qAW l G m_X11_wind (q_mq G q_cI) 19 [(0, .ref (q_ad G 11 0)), (1, .int x1), (2, .int x2), (3, .int x3)] [.int x5] u3 _
      refine aw_if_ne dX11_wind_19 22 rfl 24 rfl (fun h2 => ?_) (fun h2 => ?_)
      · refine aw_aload_n (i := 0) dX11_wind_24 25 rfl rfl 0 rfl ?_
        refine aw_iload_n (i := 1) dX11_wind_25 26 rfl rfl 1 rfl ?_
        refine aw_callV (M2 := m_X11_askedFor) (cv := q_cI) dX11_wind_26 29 rfl (k_X11_askedFor l G x1  u3) wd_274 wv_X11_askedFor pk_X11_askedFor rfl rfl ⟨by decide, by decide⟩ ⟨Nat.zero_le _, Nat.zero_le _⟩ at_11 (ok_11 (by decide)) rfl rfl rfl (Nat.le_of_ble_eq_true rfl) (fun x6 u4 => ?_)
        show qAW l G m_X11_wind (q_mq G q_cI) 29 [(0, .ref (q_ad G 11 0)), (1, .int x1), (2, .int x2), (3, .int x3)] [.int x6] u4 _
        refine aw_istore dX11_wind_29 31 rfl [(4, .int x6), (0, .ref (q_ad G 11 0)), (1, .int x1), (2, .int x2), (3, .int x3)] (by decide) rfl ?_
        refine aw_iload (i := 4) dX11_wind_31 33 rfl 0 rfl ?_
        refine aw_if_ge dX11_wind_33 36 rfl 39 rfl (fun h3 => ?_) (fun h3 => ?_)
        · refine aw_aload_n (i := 0) dX11_wind_39 40 rfl rfl 1 rfl ?_
          refine gf_X11_19 dX11_wind_40 43 rfl wd_258 (ok_11 (by decide)) ?_
          refine aw_iload_n (i := 1) dX11_wind_43 44 rfl rfl 2 rfl ?_
          refine aw_iload_n (i := 2) dX11_wind_44 45 rfl rfl 3 rfl ?_
          refine aw_iast dX11_wind_45 46 rfl at_79 (al_79 _) (ok_79 (by decide)) (fun h4 => ?_)
          refine aw_ltm (fun u5 => ?_)
          refine aw_aload_n (i := 0) dX11_wind_46 47 rfl rfl 1 rfl ?_
          refine gf_X11_20 dX11_wind_47 50 rfl wd_259 (ok_11 (by decide)) ?_
          refine aw_iload_n (i := 1) dX11_wind_50 51 rfl rfl 2 rfl ?_
          refine aw_iload_n (i := 3) dX11_wind_51 52 rfl rfl 4 rfl ?_
          refine aw_iast dX11_wind_52 53 rfl at_80 (al_80 _) (ok_80 (by decide)) (fun h5 => ?_)
          refine aw_ltm (fun u6 => ?_)
          refine aw_iconst (x := 1) dX11_wind_53 54 rfl rfl ?_
          exact aw_iret dX11_wind_54 rfl
        · refine aw_iload (i := 4) dX11_wind_36 38 rfl 0 rfl ?_
          exact aw_iret dX11_wind_38 rfl
      · exact aw_conv [] rfl (hj1 u3)
theorem dX11_river_0 : decode cX11_river 0 = .ok (.iload_n 3, 1) := by decide +kernel
theorem dX11_river_1 : decode cX11_river 1 = .ok (.iconst 0, 1) := by decide +kernel
theorem dX11_river_2 : decode cX11_river 2 = .ok (.sipush 1000, 3) := by decide +kernel
theorem dX11_river_5 : decode cX11_river 5 = .ok (.invokestatic 182, 3) := by decide +kernel
theorem dX11_river_8 : decode cX11_river 8 = .ok (.ifCond .ne 5, 3) := by decide +kernel
theorem dX11_river_11 : decode cX11_river 11 = .ok (.iconst (-1), 1) := by decide +kernel
theorem dX11_river_12 : decode cX11_river 12 = .ok (.ireturn, 1) := by decide +kernel
theorem dX11_river_13 : decode cX11_river 13 = .ok (.aload_n 0, 1) := by decide +kernel
theorem dX11_river_14 : decode cX11_river 14 = .ok (.iload_n 1, 1) := by decide +kernel
theorem dX11_river_15 : decode cX11_river 15 = .ok (.invokevirtual 237, 3) := by decide +kernel
theorem dX11_river_18 : decode cX11_river 18 = .ok (.istore 4, 2) := by decide +kernel
theorem dX11_river_20 : decode cX11_river 20 = .ok (.iload 4, 2) := by decide +kernel
theorem dX11_river_22 : decode cX11_river 22 = .ok (.ifCond .ge 6, 3) := by decide +kernel
theorem dX11_river_25 : decode cX11_river 25 = .ok (.iload 4, 2) := by decide +kernel
theorem dX11_river_27 : decode cX11_river 27 = .ok (.ireturn, 1) := by decide +kernel
theorem dX11_river_28 : decode cX11_river 28 = .ok (.aload_n 0, 1) := by decide +kernel
theorem dX11_river_29 : decode cX11_river 29 = .ok (.getfield 74, 3) := by decide +kernel
theorem dX11_river_32 : decode cX11_river 32 = .ok (.iload_n 1, 1) := by decide +kernel
theorem dX11_river_33 : decode cX11_river 33 = .ok (.iaload, 1) := by decide +kernel
theorem dX11_river_34 : decode cX11_river 34 = .ok (.iconst 4, 1) := by decide +kernel
theorem dX11_river_35 : decode cX11_river 35 = .ok (.if_icmp .ne 6, 3) := by decide +kernel
theorem dX11_river_38 : decode cX11_river 38 = .ok (.bipush (-2), 2) := by decide +kernel
theorem dX11_river_40 : decode cX11_river 40 = .ok (.ireturn, 1) := by decide +kernel
theorem dX11_river_41 : decode cX11_river 41 = .ok (.aload_n 0, 1) := by decide +kernel
theorem dX11_river_42 : decode cX11_river 42 = .ok (.iload_n 1, 1) := by decide +kernel
theorem dX11_river_43 : decode cX11_river 43 = .ok (.iload_n 2, 1) := by decide +kernel
theorem dX11_river_44 : decode cX11_river 44 = .ok (.invokevirtual 226, 3) := by decide +kernel
theorem dX11_river_47 : decode cX11_river 47 = .ok (.ifCond .ne 9, 3) := by decide +kernel
theorem dX11_river_50 : decode cX11_river 50 = .ok (.aload_n 0, 1) := by decide +kernel
theorem dX11_river_51 : decode cX11_river 51 = .ok (.iconst 2, 1) := by decide +kernel
theorem dX11_river_52 : decode cX11_river 52 = .ok (.invokevirtual 190, 3) := by decide +kernel
theorem dX11_river_55 : decode cX11_river 55 = .ok (.ireturn, 1) := by decide +kernel
theorem dX11_river_56 : decode cX11_river 56 = .ok (.aload_n 0, 1) := by decide +kernel
theorem dX11_river_57 : decode cX11_river 57 = .ok (.getfield 77, 3) := by decide +kernel
theorem dX11_river_60 : decode cX11_river 60 = .ok (.iconst 4, 1) := by decide +kernel
theorem dX11_river_61 : decode cX11_river 61 = .ok (.iload_n 1, 1) := by decide +kernel
theorem dX11_river_62 : decode cX11_river 62 = .ok (.imul, 1) := by decide +kernel
theorem dX11_river_63 : decode cX11_river 63 = .ok (.aload_n 0, 1) := by decide +kernel
theorem dX11_river_64 : decode cX11_river 64 = .ok (.getfield 74, 3) := by decide +kernel
theorem dX11_river_67 : decode cX11_river 67 = .ok (.iload_n 1, 1) := by decide +kernel
theorem dX11_river_68 : decode cX11_river 68 = .ok (.iaload, 1) := by decide +kernel
theorem dX11_river_69 : decode cX11_river 69 = .ok (.iadd, 1) := by decide +kernel
theorem dX11_river_70 : decode cX11_river 70 = .ok (.iload_n 2, 1) := by decide +kernel
theorem dX11_river_71 : decode cX11_river 71 = .ok (.iastore, 1) := by decide +kernel
theorem dX11_river_72 : decode cX11_river 72 = .ok (.aload_n 0, 1) := by decide +kernel
theorem dX11_river_73 : decode cX11_river 73 = .ok (.getfield 80, 3) := by decide +kernel
theorem dX11_river_76 : decode cX11_river 76 = .ok (.iconst 4, 1) := by decide +kernel
theorem dX11_river_77 : decode cX11_river 77 = .ok (.iload_n 1, 1) := by decide +kernel
theorem dX11_river_78 : decode cX11_river 78 = .ok (.imul, 1) := by decide +kernel
theorem dX11_river_79 : decode cX11_river 79 = .ok (.aload_n 0, 1) := by decide +kernel
theorem dX11_river_80 : decode cX11_river 80 = .ok (.getfield 74, 3) := by decide +kernel
theorem dX11_river_83 : decode cX11_river 83 = .ok (.iload_n 1, 1) := by decide +kernel
theorem dX11_river_84 : decode cX11_river 84 = .ok (.iaload, 1) := by decide +kernel
theorem dX11_river_85 : decode cX11_river 85 = .ok (.iadd, 1) := by decide +kernel
theorem dX11_river_86 : decode cX11_river 86 = .ok (.iload_n 3, 1) := by decide +kernel
theorem dX11_river_87 : decode cX11_river 87 = .ok (.iastore, 1) := by decide +kernel
theorem dX11_river_88 : decode cX11_river 88 = .ok (.aload_n 0, 1) := by decide +kernel
theorem dX11_river_89 : decode cX11_river 89 = .ok (.getfield 74, 3) := by decide +kernel
theorem dX11_river_92 : decode cX11_river 92 = .ok (.iload_n 1, 1) := by decide +kernel
theorem dX11_river_93 : decode cX11_river 93 = .ok (.dup2, 1) := by decide +kernel
theorem dX11_river_94 : decode cX11_river 94 = .ok (.iaload, 1) := by decide +kernel
theorem dX11_river_95 : decode cX11_river 95 = .ok (.iconst 1, 1) := by decide +kernel
theorem dX11_river_96 : decode cX11_river 96 = .ok (.iadd, 1) := by decide +kernel
theorem dX11_river_97 : decode cX11_river 97 = .ok (.iastore, 1) := by decide +kernel
theorem dX11_river_98 : decode cX11_river 98 = .ok (.aload_n 0, 1) := by decide +kernel
theorem dX11_river_99 : decode cX11_river 99 = .ok (.getfield 74, 3) := by decide +kernel
theorem dX11_river_102 : decode cX11_river 102 = .ok (.iload_n 1, 1) := by decide +kernel
theorem dX11_river_103 : decode cX11_river 103 = .ok (.iaload, 1) := by decide +kernel
theorem dX11_river_104 : decode cX11_river 104 = .ok (.ireturn, 1) := by decide +kernel
noncomputable def f_X11_river (x1 : Int32) (x2 : Int32) (x3 : Int32) (u0 : qM) : Option (Int32 × qM) :=
  q_bd (f_X11_in x3 0 1000 u0) (fun (x4 : Int32) (u1 : qM) => if x4 = 0 then some ((-1), u1) else q_bd (f_X11_askedFor x1 u1) (fun (x5 : Int32) (u2 : qM) => if (0 : Int32) ≤ x5 then q_ck (q_in x1 8) (if (u2.1 86 0 (Int32.toNatClampNeg x1)) = 4 then some ((-2), u2) else q_bd (f_X11_isCell x1 x2 u2) (fun (x6 : Int32) (u3 : qM) => if x6 = 0 then q_bd (f_X11_meets 2 u3) (fun (x7 : Int32) (u7 : qM) => some (x7, u7)) else q_ck (q_in x1 8) (q_ck (q_in ((4 * x1) + (u3.1 86 0 (Int32.toNatClampNeg x1))) 32) (q_lt (q_si u3 87 0 (Int32.toNatClampNeg ((4 * x1) + (u3.1 86 0 (Int32.toNatClampNeg x1)))) x2) (fun (u4 : qM) => q_ck (q_in x1 8) (q_ck (q_in ((4 * x1) + (u4.1 86 0 (Int32.toNatClampNeg x1))) 32) (q_lt (q_si u4 88 0 (Int32.toNatClampNeg ((4 * x1) + (u4.1 86 0 (Int32.toNatClampNeg x1)))) x3) (fun (u5 : qM) => q_ck (q_in x1 8) (q_ck (q_in x1 8) (q_lt (q_si u5 86 0 (Int32.toNatClampNeg x1) ((u5.1 86 0 (Int32.toNatClampNeg x1)) + 1)) (fun (u6 : qM) => q_ck (q_in x1 8) (some (u6.1 86 0 (Int32.toNatClampNeg x1), u6))))))))))))) else some (x5, u2)))
set_option maxRecDepth 100000 in
set_option maxHeartbeats 4000000 in
theorem k_X11_river (l : Launch) (G : qG) (x1 : Int32) (x2 : Int32) (x3 : Int32)  (u0 : qM) : qCt l G m_X11_river q_cI [.ref (q_ad G 11 0), .int x1, .int x2, .int x3] u0 (f_X11_river x1 x2 x3 u0) := by
  refine q_entry pk_X11_river (Nat.le_of_ble_eq_true rfl) ?_
  show qAW l G m_X11_river (q_mq G q_cI) 0 [(0, .ref (q_ad G 11 0)), (1, .int x1), (2, .int x2), (3, .int x3)] [] u0 (f_X11_river x1 x2 x3 u0)
  unfold f_X11_river
  refine aw_iload_n (i := 3) dX11_river_0 1 rfl rfl 3 rfl ?_
  refine aw_iconst (x := 0) dX11_river_1 2 rfl rfl ?_
  refine aw_sipush (x := 1000) dX11_river_2 5 rfl rfl ?_
  refine aw_callS (M2 := m_X11_in) (cv := q_cI) dX11_river_5 8 rfl (k_X11_in l G x3 0 1000  u0) wd_226 wv_X11_in pk_X11_in rfl ⟨by decide, by decide⟩ ⟨Nat.zero_le _, Nat.zero_le _⟩ rfl (Nat.le_of_ble_eq_true rfl) (fun x4 u1 => ?_)
  show qAW l G m_X11_river (q_mq G q_cI) 8 [(0, .ref (q_ad G 11 0)), (1, .int x1), (2, .int x2), (3, .int x3)] [.int x4] u1 _
  refine aw_if_ne dX11_river_8 11 rfl 13 rfl (fun h1 => ?_) (fun h1 => ?_)
  · refine aw_aload_n (i := 0) dX11_river_13 14 rfl rfl 0 rfl ?_
    refine aw_iload_n (i := 1) dX11_river_14 15 rfl rfl 1 rfl ?_
    refine aw_callV (M2 := m_X11_askedFor) (cv := q_cI) dX11_river_15 18 rfl (k_X11_askedFor l G x1  u1) wd_274 wv_X11_askedFor pk_X11_askedFor rfl rfl ⟨by decide, by decide⟩ ⟨Nat.zero_le _, Nat.zero_le _⟩ at_11 (ok_11 (by decide)) rfl rfl rfl (Nat.le_of_ble_eq_true rfl) (fun x5 u2 => ?_)
    show qAW l G m_X11_river (q_mq G q_cI) 18 [(0, .ref (q_ad G 11 0)), (1, .int x1), (2, .int x2), (3, .int x3)] [.int x5] u2 _
    refine aw_istore dX11_river_18 20 rfl [(4, .int x5), (0, .ref (q_ad G 11 0)), (1, .int x1), (2, .int x2), (3, .int x3)] (by decide) rfl ?_
    refine aw_iload (i := 4) dX11_river_20 22 rfl 0 rfl ?_
    refine aw_if_ge dX11_river_22 25 rfl 28 rfl (fun h2 => ?_) (fun h2 => ?_)
    · refine aw_aload_n (i := 0) dX11_river_28 29 rfl rfl 1 rfl ?_
      refine gf_X11_26 dX11_river_29 32 rfl wd_265 (ok_11 (by decide)) ?_
      refine aw_iload_n (i := 1) dX11_river_32 33 rfl rfl 2 rfl ?_
      refine aw_iald dX11_river_33 34 rfl at_86 (al_86 _) (ok_86 (by decide)) (fun h3 => ?_)
      refine aw_iconst (x := 4) dX11_river_34 35 rfl rfl ?_
      refine aw_icmp_ne dX11_river_35 38 rfl 41 rfl (fun h4 => ?_) (fun h4 => ?_)
      · refine aw_aload_n (i := 0) dX11_river_41 42 rfl rfl 1 rfl ?_
        refine aw_iload_n (i := 1) dX11_river_42 43 rfl rfl 2 rfl ?_
        refine aw_iload_n (i := 2) dX11_river_43 44 rfl rfl 3 rfl ?_
        refine aw_callV (M2 := m_X11_isCell) (cv := q_cI) dX11_river_44 47 rfl (k_X11_isCell l G x1 x2  u2) wd_252 wv_X11_isCell pk_X11_isCell rfl rfl ⟨by decide, by decide⟩ ⟨Nat.zero_le _, Nat.zero_le _⟩ at_11 (ok_11 (by decide)) rfl rfl rfl (Nat.le_of_ble_eq_true rfl) (fun x6 u3 => ?_)
        show qAW l G m_X11_river (q_mq G q_cI) 47 [(4, .int x5), (0, .ref (q_ad G 11 0)), (1, .int x1), (2, .int x2), (3, .int x3)] [.int x6] u3 _
        refine aw_if_ne dX11_river_47 50 rfl 56 rfl (fun h5 => ?_) (fun h5 => ?_)
        · refine aw_aload_n (i := 0) dX11_river_56 57 rfl rfl 1 rfl ?_
          refine gf_X11_27 dX11_river_57 60 rfl wd_279 (ok_11 (by decide)) ?_
          refine aw_iconst (x := 4) dX11_river_60 61 rfl rfl ?_
          refine aw_iload_n (i := 1) dX11_river_61 62 rfl rfl 2 rfl ?_
          refine aw_imul dX11_river_62 63 rfl ?_
          refine aw_aload_n (i := 0) dX11_river_63 64 rfl rfl 1 rfl ?_
          refine gf_X11_26 dX11_river_64 67 rfl wd_265 (ok_11 (by decide)) ?_
          refine aw_iload_n (i := 1) dX11_river_67 68 rfl rfl 2 rfl ?_
          refine aw_iald dX11_river_68 69 rfl at_86 (al_86 _) (ok_86 (by decide)) (fun h6 => ?_)
          refine aw_iadd dX11_river_69 70 rfl ?_
          refine aw_iload_n (i := 2) dX11_river_70 71 rfl rfl 3 rfl ?_
          refine aw_iast dX11_river_71 72 rfl at_87 (al_87 _) (ok_87 (by decide)) (fun h7 => ?_)
          refine aw_ltm (fun u4 => ?_)
          refine aw_aload_n (i := 0) dX11_river_72 73 rfl rfl 1 rfl ?_
          refine gf_X11_28 dX11_river_73 76 rfl wd_280 (ok_11 (by decide)) ?_
          refine aw_iconst (x := 4) dX11_river_76 77 rfl rfl ?_
          refine aw_iload_n (i := 1) dX11_river_77 78 rfl rfl 2 rfl ?_
          refine aw_imul dX11_river_78 79 rfl ?_
          refine aw_aload_n (i := 0) dX11_river_79 80 rfl rfl 1 rfl ?_
          refine gf_X11_26 dX11_river_80 83 rfl wd_265 (ok_11 (by decide)) ?_
          refine aw_iload_n (i := 1) dX11_river_83 84 rfl rfl 2 rfl ?_
          refine aw_iald dX11_river_84 85 rfl at_86 (al_86 _) (ok_86 (by decide)) (fun h8 => ?_)
          refine aw_iadd dX11_river_85 86 rfl ?_
          refine aw_iload_n (i := 3) dX11_river_86 87 rfl rfl 4 rfl ?_
          refine aw_iast dX11_river_87 88 rfl at_88 (al_88 _) (ok_88 (by decide)) (fun h9 => ?_)
          refine aw_ltm (fun u5 => ?_)
          refine aw_aload_n (i := 0) dX11_river_88 89 rfl rfl 1 rfl ?_
          refine gf_X11_26 dX11_river_89 92 rfl wd_265 (ok_11 (by decide)) ?_
          refine aw_iload_n (i := 1) dX11_river_92 93 rfl rfl 2 rfl ?_
          refine aw_dup2 dX11_river_93 94 rfl rfl rfl ?_
          refine aw_iald dX11_river_94 95 rfl at_86 (al_86 _) (ok_86 (by decide)) (fun h10 => ?_)
          refine aw_iconst (x := 1) dX11_river_95 96 rfl rfl ?_
          refine aw_iadd dX11_river_96 97 rfl ?_
          refine aw_iast dX11_river_97 98 rfl at_86 (al_86 _) (ok_86 (by decide)) (fun h11 => ?_)
          refine aw_ltm (fun u6 => ?_)
          refine aw_aload_n (i := 0) dX11_river_98 99 rfl rfl 1 rfl ?_
          refine gf_X11_26 dX11_river_99 102 rfl wd_265 (ok_11 (by decide)) ?_
          refine aw_iload_n (i := 1) dX11_river_102 103 rfl rfl 2 rfl ?_
          refine aw_iald dX11_river_103 104 rfl at_86 (al_86 _) (ok_86 (by decide)) (fun h12 => ?_)
          exact aw_iret dX11_river_104 rfl
        · refine aw_aload_n (i := 0) dX11_river_50 51 rfl rfl 1 rfl ?_
          refine aw_iconst (x := 2) dX11_river_51 52 rfl rfl ?_
          refine aw_callV (M2 := m_X11_meets) (cv := q_cI) dX11_river_52 55 rfl (k_X11_meets l G 2  u3) wd_229 wv_X11_meets pk_X11_meets rfl rfl ⟨by decide, by decide⟩ ⟨Nat.zero_le _, Nat.zero_le _⟩ at_11 (ok_11 (by decide)) rfl rfl rfl (Nat.le_of_ble_eq_true rfl) (fun x7 u7 => ?_)
          show qAW l G m_X11_river (q_mq G q_cI) 55 [(4, .int x5), (0, .ref (q_ad G 11 0)), (1, .int x1), (2, .int x2), (3, .int x3)] [.int x7] u7 _
          exact aw_iret dX11_river_55 rfl
      · refine aw_bipush (x := (-2)) dX11_river_38 40 rfl rfl ?_
        exact aw_iret dX11_river_40 rfl
    · refine aw_iload (i := 4) dX11_river_25 27 rfl 0 rfl ?_
      exact aw_iret dX11_river_27 rfl
  · refine aw_iconst (x := (-1)) dX11_river_11 12 rfl rfl ?_
    exact aw_iret dX11_river_12 rfl
theorem dX11_isTidal_0 : decode cX11_isTidal 0 = .ok (.aload_n 0, 1) := by decide +kernel
theorem dX11_isTidal_1 : decode cX11_isTidal 1 = .ok (.getfield 38, 3) := by decide +kernel
theorem dX11_isTidal_4 : decode cX11_isTidal 4 = .ok (.iload_n 1, 1) := by decide +kernel
theorem dX11_isTidal_5 : decode cX11_isTidal 5 = .ok (.iaload, 1) := by decide +kernel
theorem dX11_isTidal_6 : decode cX11_isTidal 6 = .ok (.iconst 1, 1) := by decide +kernel
theorem dX11_isTidal_7 : decode cX11_isTidal 7 = .ok (.if_icmp .eq 13, 3) := by decide +kernel
theorem dX11_isTidal_10 : decode cX11_isTidal 10 = .ok (.aload_n 0, 1) := by decide +kernel
theorem dX11_isTidal_11 : decode cX11_isTidal 11 = .ok (.getfield 38, 3) := by decide +kernel
theorem dX11_isTidal_14 : decode cX11_isTidal 14 = .ok (.iload_n 1, 1) := by decide +kernel
theorem dX11_isTidal_15 : decode cX11_isTidal 15 = .ok (.iaload, 1) := by decide +kernel
theorem dX11_isTidal_16 : decode cX11_isTidal 16 = .ok (.iconst 3, 1) := by decide +kernel
theorem dX11_isTidal_17 : decode cX11_isTidal 17 = .ok (.if_icmp .ne 7, 3) := by decide +kernel
theorem dX11_isTidal_20 : decode cX11_isTidal 20 = .ok (.iconst 1, 1) := by decide +kernel
theorem dX11_isTidal_21 : decode cX11_isTidal 21 = .ok (.goto 4, 3) := by decide +kernel
theorem dX11_isTidal_24 : decode cX11_isTidal 24 = .ok (.iconst 0, 1) := by decide +kernel
theorem dX11_isTidal_25 : decode cX11_isTidal 25 = .ok (.ireturn, 1) := by decide +kernel
noncomputable def f_X11_isTidal (x1 : Int32) (u0 : qM) : Option (Int32 × qM) :=
  q_ck (q_in x1 8) (q_jn (fun (x2 : Int32) (u1 : qM) => q_ck (q_b x2) (some (x2, u1))) (fun j1 => q_jn (fun  (u2 : qM) => j1 1 u2) (fun j2 => if (u0.1 74 0 (Int32.toNatClampNeg x1)) = 1 then j2 u0 else q_ck (q_in x1 8) (if (u0.1 74 0 (Int32.toNatClampNeg x1)) = 3 then j2 u0 else j1 0 u0))))
set_option maxRecDepth 100000 in
set_option maxHeartbeats 4000000 in
theorem k_X11_isTidal (l : Launch) (G : qG) (x1 : Int32)  (u0 : qM) : qCt l G m_X11_isTidal q_cI [.ref (q_ad G 11 0), .int x1] u0 (f_X11_isTidal x1 u0) := by
  refine q_entry pk_X11_isTidal (Nat.le_of_ble_eq_true rfl) ?_
  show qAW l G m_X11_isTidal (q_mq G q_cI) 0 [(0, .ref (q_ad G 11 0)), (1, .int x1)] [] u0 (f_X11_isTidal x1 u0)
  unfold f_X11_isTidal
  refine aw_aload_n (i := 0) dX11_isTidal_0 1 rfl rfl 0 rfl ?_
  refine gf_X11_14 dX11_isTidal_1 4 rfl wd_250 (ok_11 (by decide)) ?_
  refine aw_iload_n (i := 1) dX11_isTidal_4 5 rfl rfl 1 rfl ?_
  refine aw_iald dX11_isTidal_5 6 rfl at_74 (al_74 _) (ok_74 (by decide)) (fun h1 => ?_)
  refine aw_iconst (x := 1) dX11_isTidal_6 7 rfl rfl ?_
  refine aw_jn (fun k => ∀ (x2 : Int32) (u1 : qM), qAW l G m_X11_isTidal (q_mq G q_cI) 25 [] [.int x2] u1 (k x2 u1)) ?_ ?_
  · intro x2 u1
    refine aw_ck (fun h3 => ?_)
    exact aw_zret dX11_isTidal_25 rfl h3
  · intro j1 hj1
    refine aw_jn (fun k => ∀  (u2 : qM), qAW l G m_X11_isTidal (q_mq G q_cI) 20 [] [] u2 (k u2)) ?_ ?_
    · intro u2
      refine aw_iconst (x := 1) dX11_isTidal_20 21 rfl rfl ?_
      refine aw_goto dX11_isTidal_21 25 rfl ?_
      exact hj1 1 u2
    · intro j2 hj2
      refine aw_icmp_eq dX11_isTidal_7 10 rfl 20 rfl (fun h2 => ?_) (fun h2 => ?_)
      · exact aw_conv [] rfl (hj2 u0)
      · refine aw_aload_n (i := 0) dX11_isTidal_10 11 rfl rfl 0 rfl ?_
        refine gf_X11_14 dX11_isTidal_11 14 rfl wd_250 (ok_11 (by decide)) ?_
        refine aw_iload_n (i := 1) dX11_isTidal_14 15 rfl rfl 1 rfl ?_
        refine aw_iald dX11_isTidal_15 16 rfl at_74 (al_74 _) (ok_74 (by decide)) (fun h4 => ?_)
        refine aw_iconst (x := 3) dX11_isTidal_16 17 rfl rfl ?_
        refine aw_icmp_ne dX11_isTidal_17 20 rfl 24 rfl (fun h5 => ?_) (fun h5 => ?_)
        · refine aw_iconst (x := 0) dX11_isTidal_24 25 rfl rfl ?_
          exact aw_conv [] rfl (hj1 0 u0)
        · exact aw_conv [] rfl (hj2 u0)
theorem dX11_tide_0 : decode cX11_tide 0 = .ok (.iload_n 2, 1) := by decide +kernel
theorem dX11_tide_1 : decode cX11_tide 1 = .ok (.invokestatic 186, 3) := by decide +kernel
theorem dX11_tide_4 : decode cX11_tide 4 = .ok (.ifCond .eq 16, 3) := by decide +kernel
theorem dX11_tide_7 : decode cX11_tide 7 = .ok (.iload_n 3, 1) := by decide +kernel
theorem dX11_tide_8 : decode cX11_tide 8 = .ok (.sipush (-500), 3) := by decide +kernel
theorem dX11_tide_11 : decode cX11_tide 11 = .ok (.sipush 500, 3) := by decide +kernel
theorem dX11_tide_14 : decode cX11_tide 14 = .ok (.invokestatic 182, 3) := by decide +kernel
theorem dX11_tide_17 : decode cX11_tide 17 = .ok (.ifCond .ne 5, 3) := by decide +kernel
theorem dX11_tide_20 : decode cX11_tide 20 = .ok (.iconst (-1), 1) := by decide +kernel
theorem dX11_tide_21 : decode cX11_tide 21 = .ok (.ireturn, 1) := by decide +kernel
theorem dX11_tide_22 : decode cX11_tide 22 = .ok (.aload_n 0, 1) := by decide +kernel
theorem dX11_tide_23 : decode cX11_tide 23 = .ok (.iload_n 1, 1) := by decide +kernel
theorem dX11_tide_24 : decode cX11_tide 24 = .ok (.invokevirtual 237, 3) := by decide +kernel
theorem dX11_tide_27 : decode cX11_tide 27 = .ok (.istore 4, 2) := by decide +kernel
theorem dX11_tide_29 : decode cX11_tide 29 = .ok (.iload 4, 2) := by decide +kernel
theorem dX11_tide_31 : decode cX11_tide 31 = .ok (.ifCond .ge 6, 3) := by decide +kernel
theorem dX11_tide_34 : decode cX11_tide 34 = .ok (.iload 4, 2) := by decide +kernel
theorem dX11_tide_36 : decode cX11_tide 36 = .ok (.ireturn, 1) := by decide +kernel
theorem dX11_tide_37 : decode cX11_tide 37 = .ok (.aload_n 0, 1) := by decide +kernel
theorem dX11_tide_38 : decode cX11_tide 38 = .ok (.iload_n 1, 1) := by decide +kernel
theorem dX11_tide_39 : decode cX11_tide 39 = .ok (.invokevirtual 252, 3) := by decide +kernel
theorem dX11_tide_42 : decode cX11_tide 42 = .ok (.ifCond .ne 9, 3) := by decide +kernel
theorem dX11_tide_45 : decode cX11_tide 45 = .ok (.aload_n 0, 1) := by decide +kernel
theorem dX11_tide_46 : decode cX11_tide 46 = .ok (.iconst 3, 1) := by decide +kernel
theorem dX11_tide_47 : decode cX11_tide 47 = .ok (.invokevirtual 190, 3) := by decide +kernel
theorem dX11_tide_50 : decode cX11_tide 50 = .ok (.ireturn, 1) := by decide +kernel
theorem dX11_tide_51 : decode cX11_tide 51 = .ok (.aload_n 0, 1) := by decide +kernel
theorem dX11_tide_52 : decode cX11_tide 52 = .ok (.getfield 68, 3) := by decide +kernel
theorem dX11_tide_55 : decode cX11_tide 55 = .ok (.iload_n 1, 1) := by decide +kernel
theorem dX11_tide_56 : decode cX11_tide 56 = .ok (.iload_n 2, 1) := by decide +kernel
theorem dX11_tide_57 : decode cX11_tide 57 = .ok (.iastore, 1) := by decide +kernel
theorem dX11_tide_58 : decode cX11_tide 58 = .ok (.aload_n 0, 1) := by decide +kernel
theorem dX11_tide_59 : decode cX11_tide 59 = .ok (.getfield 71, 3) := by decide +kernel
theorem dX11_tide_62 : decode cX11_tide 62 = .ok (.iload_n 1, 1) := by decide +kernel
theorem dX11_tide_63 : decode cX11_tide 63 = .ok (.iload_n 3, 1) := by decide +kernel
theorem dX11_tide_64 : decode cX11_tide 64 = .ok (.iastore, 1) := by decide +kernel
theorem dX11_tide_65 : decode cX11_tide 65 = .ok (.iconst 1, 1) := by decide +kernel
theorem dX11_tide_66 : decode cX11_tide 66 = .ok (.ireturn, 1) := by decide +kernel
noncomputable def f_X11_tide (x1 : Int32) (x2 : Int32) (x3 : Int32) (u0 : qM) : Option (Int32 × qM) :=
  q_bd (f_X11_isSix x2 u0) (fun (x4 : Int32) (u1 : qM) => q_jn (fun  (u2 : qM) => some ((-1), u2)) (fun j1 => if x4 = 0 then j1 u1 else q_bd (f_X11_in x3 (-500) 500 u1) (fun (x5 : Int32) (u3 : qM) => if x5 = 0 then j1 u3 else q_bd (f_X11_askedFor x1 u3) (fun (x6 : Int32) (u4 : qM) => if (0 : Int32) ≤ x6 then q_bd (f_X11_isTidal x1 u4) (fun (x7 : Int32) (u5 : qM) => if x7 = 0 then q_bd (f_X11_meets 3 u5) (fun (x8 : Int32) (u8 : qM) => some (x8, u8)) else q_ck (q_in x1 8) (q_lt (q_si u5 84 0 (Int32.toNatClampNeg x1) x2) (fun (u6 : qM) => q_ck (q_in x1 8) (q_lt (q_si u6 85 0 (Int32.toNatClampNeg x1) x3) (fun (u7 : qM) => some (1, u7)))))) else some (x6, u4)))))
set_option maxRecDepth 100000 in
set_option maxHeartbeats 4000000 in
theorem k_X11_tide (l : Launch) (G : qG) (x1 : Int32) (x2 : Int32) (x3 : Int32)  (u0 : qM) : qCt l G m_X11_tide q_cI [.ref (q_ad G 11 0), .int x1, .int x2, .int x3] u0 (f_X11_tide x1 x2 x3 u0) := by
  refine q_entry pk_X11_tide (Nat.le_of_ble_eq_true rfl) ?_
  show qAW l G m_X11_tide (q_mq G q_cI) 0 [(0, .ref (q_ad G 11 0)), (1, .int x1), (2, .int x2), (3, .int x3)] [] u0 (f_X11_tide x1 x2 x3 u0)
  unfold f_X11_tide
  refine aw_iload_n (i := 2) dX11_tide_0 1 rfl rfl 2 rfl ?_
  refine aw_callS (M2 := m_X11_isSix) (cv := q_cI) dX11_tide_1 4 rfl (k_X11_isSix l G x2  u0) wd_227 wv_X11_isSix pk_X11_isSix rfl ⟨by decide, by decide⟩ ⟨Nat.zero_le _, Nat.zero_le _⟩ rfl (Nat.le_of_ble_eq_true rfl) (fun x4 u1 => ?_)
  show qAW l G m_X11_tide (q_mq G q_cI) 4 [(0, .ref (q_ad G 11 0)), (1, .int x1), (2, .int x2), (3, .int x3)] [.int x4] u1 _
  refine aw_jn (fun k => ∀  (u2 : qM), qAW l G m_X11_tide (q_mq G q_cI) 20 [] [] u2 (k u2)) ?_ ?_
  · intro u2
    refine aw_iconst (x := (-1)) dX11_tide_20 21 rfl rfl ?_
    exact aw_iret dX11_tide_21 rfl
  · intro j1 hj1
    refine aw_if_eq dX11_tide_4 7 rfl 20 rfl (fun h1 => ?_) (fun h1 => ?_)
    · exact aw_conv [] rfl (hj1 u1)
    · refine aw_iload_n (i := 3) dX11_tide_7 8 rfl rfl 3 rfl ?_
      refine aw_sipush (x := (-500)) dX11_tide_8 11 rfl rfl ?_
      refine aw_sipush (x := 500) dX11_tide_11 14 rfl rfl ?_
      refine aw_callS (M2 := m_X11_in) (cv := q_cI) dX11_tide_14 17 rfl (k_X11_in l G x3 (-500) 500  u1) wd_226 wv_X11_in pk_X11_in rfl ⟨by decide, by decide⟩ ⟨Nat.zero_le _, Nat.zero_le _⟩ rfl (Nat.le_of_ble_eq_true rfl) (fun x5 u3 => ?_)
      show qAW l G m_X11_tide (q_mq G q_cI) 17 [(0, .ref (q_ad G 11 0)), (1, .int x1), (2, .int x2), (3, .int x3)] [.int x5] u3 _
      refine aw_if_ne dX11_tide_17 20 rfl 22 rfl (fun h2 => ?_) (fun h2 => ?_)
      · refine aw_aload_n (i := 0) dX11_tide_22 23 rfl rfl 0 rfl ?_
        refine aw_iload_n (i := 1) dX11_tide_23 24 rfl rfl 1 rfl ?_
        refine aw_callV (M2 := m_X11_askedFor) (cv := q_cI) dX11_tide_24 27 rfl (k_X11_askedFor l G x1  u3) wd_274 wv_X11_askedFor pk_X11_askedFor rfl rfl ⟨by decide, by decide⟩ ⟨Nat.zero_le _, Nat.zero_le _⟩ at_11 (ok_11 (by decide)) rfl rfl rfl (Nat.le_of_ble_eq_true rfl) (fun x6 u4 => ?_)
        show qAW l G m_X11_tide (q_mq G q_cI) 27 [(0, .ref (q_ad G 11 0)), (1, .int x1), (2, .int x2), (3, .int x3)] [.int x6] u4 _
        refine aw_istore dX11_tide_27 29 rfl [(4, .int x6), (0, .ref (q_ad G 11 0)), (1, .int x1), (2, .int x2), (3, .int x3)] (by decide) rfl ?_
        refine aw_iload (i := 4) dX11_tide_29 31 rfl 0 rfl ?_
        refine aw_if_ge dX11_tide_31 34 rfl 37 rfl (fun h3 => ?_) (fun h3 => ?_)
        · refine aw_aload_n (i := 0) dX11_tide_37 38 rfl rfl 1 rfl ?_
          refine aw_iload_n (i := 1) dX11_tide_38 39 rfl rfl 2 rfl ?_
          refine aw_callV (M2 := m_X11_isTidal) (cv := q_cI) dX11_tide_39 42 rfl (k_X11_isTidal l G x1  u4) wd_281 wv_X11_isTidal pk_X11_isTidal rfl rfl ⟨by decide, by decide⟩ ⟨Nat.zero_le _, Nat.zero_le _⟩ at_11 (ok_11 (by decide)) rfl rfl rfl (Nat.le_of_ble_eq_true rfl) (fun x7 u5 => ?_)
          show qAW l G m_X11_tide (q_mq G q_cI) 42 [(4, .int x6), (0, .ref (q_ad G 11 0)), (1, .int x1), (2, .int x2), (3, .int x3)] [.int x7] u5 _
          refine aw_if_ne dX11_tide_42 45 rfl 51 rfl (fun h4 => ?_) (fun h4 => ?_)
          · refine aw_aload_n (i := 0) dX11_tide_51 52 rfl rfl 1 rfl ?_
            refine gf_X11_24 dX11_tide_52 55 rfl wd_263 (ok_11 (by decide)) ?_
            refine aw_iload_n (i := 1) dX11_tide_55 56 rfl rfl 2 rfl ?_
            refine aw_iload_n (i := 2) dX11_tide_56 57 rfl rfl 3 rfl ?_
            refine aw_iast dX11_tide_57 58 rfl at_84 (al_84 _) (ok_84 (by decide)) (fun h5 => ?_)
            refine aw_ltm (fun u6 => ?_)
            refine aw_aload_n (i := 0) dX11_tide_58 59 rfl rfl 1 rfl ?_
            refine gf_X11_25 dX11_tide_59 62 rfl wd_264 (ok_11 (by decide)) ?_
            refine aw_iload_n (i := 1) dX11_tide_62 63 rfl rfl 2 rfl ?_
            refine aw_iload_n (i := 3) dX11_tide_63 64 rfl rfl 4 rfl ?_
            refine aw_iast dX11_tide_64 65 rfl at_85 (al_85 _) (ok_85 (by decide)) (fun h6 => ?_)
            refine aw_ltm (fun u7 => ?_)
            refine aw_iconst (x := 1) dX11_tide_65 66 rfl rfl ?_
            exact aw_iret dX11_tide_66 rfl
          · refine aw_aload_n (i := 0) dX11_tide_45 46 rfl rfl 1 rfl ?_
            refine aw_iconst (x := 3) dX11_tide_46 47 rfl rfl ?_
            refine aw_callV (M2 := m_X11_meets) (cv := q_cI) dX11_tide_47 50 rfl (k_X11_meets l G 3  u5) wd_229 wv_X11_meets pk_X11_meets rfl rfl ⟨by decide, by decide⟩ ⟨Nat.zero_le _, Nat.zero_le _⟩ at_11 (ok_11 (by decide)) rfl rfl rfl (Nat.le_of_ble_eq_true rfl) (fun x8 u8 => ?_)
            show qAW l G m_X11_tide (q_mq G q_cI) 50 [(4, .int x6), (0, .ref (q_ad G 11 0)), (1, .int x1), (2, .int x2), (3, .int x3)] [.int x8] u8 _
            exact aw_iret dX11_tide_50 rfl
        · refine aw_iload (i := 4) dX11_tide_34 36 rfl 0 rfl ?_
          exact aw_iret dX11_tide_36 rfl
      · exact aw_conv [] rfl (hj1 u3)
theorem dX11_pushed_0 : decode cX11_pushed 0 = .ok (.aload_n 0, 1) := by decide +kernel
theorem dX11_pushed_1 : decode cX11_pushed 1 = .ok (.getfield 101, 3) := by decide +kernel
theorem dX11_pushed_4 : decode cX11_pushed 4 = .ok (.bipush 96, 2) := by decide +kernel
theorem dX11_pushed_6 : decode cX11_pushed 6 = .ok (.iload_n 1, 1) := by decide +kernel
theorem dX11_pushed_7 : decode cX11_pushed 7 = .ok (.imul, 1) := by decide +kernel
theorem dX11_pushed_8 : decode cX11_pushed 8 = .ok (.iload_n 2, 1) := by decide +kernel
theorem dX11_pushed_9 : decode cX11_pushed 9 = .ok (.iadd, 1) := by decide +kernel
theorem dX11_pushed_10 : decode cX11_pushed 10 = .ok (.baload, 1) := by decide +kernel
theorem dX11_pushed_11 : decode cX11_pushed 11 = .ok (.ifCond .eq 5, 3) := by decide +kernel
theorem dX11_pushed_14 : decode cX11_pushed 14 = .ok (.iconst 0, 1) := by decide +kernel
theorem dX11_pushed_15 : decode cX11_pushed 15 = .ok (.ireturn, 1) := by decide +kernel
theorem dX11_pushed_16 : decode cX11_pushed 16 = .ok (.iload_n 2, 1) := by decide +kernel
theorem dX11_pushed_17 : decode cX11_pushed 17 = .ok (.iconst 2, 1) := by decide +kernel
theorem dX11_pushed_18 : decode cX11_pushed 18 = .ok (.idiv, 1) := by decide +kernel
theorem dX11_pushed_19 : decode cX11_pushed 19 = .ok (.istore 4, 2) := by decide +kernel
theorem dX11_pushed_21 : decode cX11_pushed 21 = .ok (.aload_n 0, 1) := by decide +kernel
theorem dX11_pushed_22 : decode cX11_pushed 22 = .ok (.getfield 98, 3) := by decide +kernel
theorem dX11_pushed_25 : decode cX11_pushed 25 = .ok (.bipush 96, 2) := by decide +kernel
theorem dX11_pushed_27 : decode cX11_pushed 27 = .ok (.iload_n 1, 1) := by decide +kernel
theorem dX11_pushed_28 : decode cX11_pushed 28 = .ok (.imul, 1) := by decide +kernel
theorem dX11_pushed_29 : decode cX11_pushed 29 = .ok (.iload_n 2, 1) := by decide +kernel
theorem dX11_pushed_30 : decode cX11_pushed 30 = .ok (.iadd, 1) := by decide +kernel
theorem dX11_pushed_31 : decode cX11_pushed 31 = .ok (.iaload, 1) := by decide +kernel
theorem dX11_pushed_32 : decode cX11_pushed 32 = .ok (.aload_n 0, 1) := by decide +kernel
theorem dX11_pushed_33 : decode cX11_pushed 33 = .ok (.getfield 47, 3) := by decide +kernel
theorem dX11_pushed_36 : decode cX11_pushed 36 = .ok (.iload_n 1, 1) := by decide +kernel
theorem dX11_pushed_37 : decode cX11_pushed 37 = .ok (.iaload, 1) := by decide +kernel
theorem dX11_pushed_38 : decode cX11_pushed 38 = .ok (.aload_n 0, 1) := by decide +kernel
theorem dX11_pushed_39 : decode cX11_pushed 39 = .ok (.iload_n 1, 1) := by decide +kernel
theorem dX11_pushed_40 : decode cX11_pushed 40 = .ok (.iload 4, 2) := by decide +kernel
theorem dX11_pushed_42 : decode cX11_pushed 42 = .ok (.invokevirtual 243, 3) := by decide +kernel
theorem dX11_pushed_45 : decode cX11_pushed 45 = .ok (.aload_n 0, 1) := by decide +kernel
theorem dX11_pushed_46 : decode cX11_pushed 46 = .ok (.iload_n 1, 1) := by decide +kernel
theorem dX11_pushed_47 : decode cX11_pushed 47 = .ok (.iload_n 3, 1) := by decide +kernel
theorem dX11_pushed_48 : decode cX11_pushed 48 = .ok (.invokevirtual 243, 3) := by decide +kernel
theorem dX11_pushed_51 : decode cX11_pushed 51 = .ok (.isub, 1) := by decide +kernel
theorem dX11_pushed_52 : decode cX11_pushed 52 = .ok (.imul, 1) := by decide +kernel
theorem dX11_pushed_53 : decode cX11_pushed 53 = .ok (.bipush 8, 2) := by decide +kernel
theorem dX11_pushed_55 : decode cX11_pushed 55 = .ok (.idiv, 1) := by decide +kernel
theorem dX11_pushed_56 : decode cX11_pushed 56 = .ok (.iadd, 1) := by decide +kernel
theorem dX11_pushed_57 : decode cX11_pushed 57 = .ok (.istore 5, 2) := by decide +kernel
theorem dX11_pushed_59 : decode cX11_pushed 59 = .ok (.iload 5, 2) := by decide +kernel
theorem dX11_pushed_61 : decode cX11_pushed 61 = .ok (.aload_n 0, 1) := by decide +kernel
theorem dX11_pushed_62 : decode cX11_pushed 62 = .ok (.getfield 38, 3) := by decide +kernel
theorem dX11_pushed_65 : decode cX11_pushed 65 = .ok (.iload_n 1, 1) := by decide +kernel
theorem dX11_pushed_66 : decode cX11_pushed 66 = .ok (.iaload, 1) := by decide +kernel
theorem dX11_pushed_67 : decode cX11_pushed 67 = .ok (.iconst 3, 1) := by decide +kernel
theorem dX11_pushed_68 : decode cX11_pushed 68 = .ok (.if_icmp .ne 7, 3) := by decide +kernel
theorem dX11_pushed_71 : decode cX11_pushed 71 = .ok (.iconst 0, 1) := by decide +kernel
theorem dX11_pushed_72 : decode cX11_pushed 72 = .ok (.goto 24, 3) := by decide +kernel
theorem dX11_pushed_75 : decode cX11_pushed 75 = .ok (.iload_n 2, 1) := by decide +kernel
theorem dX11_pushed_76 : decode cX11_pushed 76 = .ok (.iconst 2, 1) := by decide +kernel
theorem dX11_pushed_77 : decode cX11_pushed 77 = .ok (.irem, 1) := by decide +kernel
theorem dX11_pushed_78 : decode cX11_pushed 78 = .ok (.ifCond .ne 12, 3) := by decide +kernel
theorem dX11_pushed_81 : decode cX11_pushed 81 = .ok (.aload_n 0, 1) := by decide +kernel
theorem dX11_pushed_82 : decode cX11_pushed 82 = .ok (.getfield 53, 3) := by decide +kernel
theorem dX11_pushed_85 : decode cX11_pushed 85 = .ok (.iload_n 1, 1) := by decide +kernel
theorem dX11_pushed_86 : decode cX11_pushed 86 = .ok (.iaload, 1) := by decide +kernel
theorem dX11_pushed_87 : decode cX11_pushed 87 = .ok (.goto 9, 3) := by decide +kernel
theorem dX11_pushed_90 : decode cX11_pushed 90 = .ok (.aload_n 0, 1) := by decide +kernel
theorem dX11_pushed_91 : decode cX11_pushed 91 = .ok (.getfield 56, 3) := by decide +kernel
theorem dX11_pushed_94 : decode cX11_pushed 94 = .ok (.iload_n 1, 1) := by decide +kernel
theorem dX11_pushed_95 : decode cX11_pushed 95 = .ok (.iaload, 1) := by decide +kernel
theorem dX11_pushed_96 : decode cX11_pushed 96 = .ok (.iadd, 1) := by decide +kernel
theorem dX11_pushed_97 : decode cX11_pushed 97 = .ok (.istore 5, 2) := by decide +kernel
theorem dX11_pushed_99 : decode cX11_pushed 99 = .ok (.iload 5, 2) := by decide +kernel
theorem dX11_pushed_101 : decode cX11_pushed 101 = .ok (.iload 5, 2) := by decide +kernel
theorem dX11_pushed_103 : decode cX11_pushed 103 = .ok (.aload_n 0, 1) := by decide +kernel
theorem dX11_pushed_104 : decode cX11_pushed 104 = .ok (.getfield 50, 3) := by decide +kernel
theorem dX11_pushed_107 : decode cX11_pushed 107 = .ok (.iload_n 1, 1) := by decide +kernel
theorem dX11_pushed_108 : decode cX11_pushed 108 = .ok (.iaload, 1) := by decide +kernel
theorem dX11_pushed_109 : decode cX11_pushed 109 = .ok (.idiv, 1) := by decide +kernel
theorem dX11_pushed_110 : decode cX11_pushed 110 = .ok (.isub, 1) := by decide +kernel
theorem dX11_pushed_111 : decode cX11_pushed 111 = .ok (.istore 5, 2) := by decide +kernel
theorem dX11_pushed_113 : decode cX11_pushed 113 = .ok (.iload 5, 2) := by decide +kernel
theorem dX11_pushed_115 : decode cX11_pushed 115 = .ok (.ifCond .le 8, 3) := by decide +kernel
theorem dX11_pushed_118 : decode cX11_pushed 118 = .ok (.iload 4, 2) := by decide +kernel
theorem dX11_pushed_120 : decode cX11_pushed 120 = .ok (.goto 4, 3) := by decide +kernel
theorem dX11_pushed_123 : decode cX11_pushed 123 = .ok (.iload_n 3, 1) := by decide +kernel
theorem dX11_pushed_124 : decode cX11_pushed 124 = .ok (.istore 6, 2) := by decide +kernel
theorem dX11_pushed_126 : decode cX11_pushed 126 = .ok (.iload 5, 2) := by decide +kernel
theorem dX11_pushed_128 : decode cX11_pushed 128 = .ok (.ifCond .le 7, 3) := by decide +kernel
theorem dX11_pushed_131 : decode cX11_pushed 131 = .ok (.iload_n 3, 1) := by decide +kernel
theorem dX11_pushed_132 : decode cX11_pushed 132 = .ok (.goto 5, 3) := by decide +kernel
theorem dX11_pushed_135 : decode cX11_pushed 135 = .ok (.iload 4, 2) := by decide +kernel
theorem dX11_pushed_137 : decode cX11_pushed 137 = .ok (.istore 7, 2) := by decide +kernel
theorem dX11_pushed_139 : decode cX11_pushed 139 = .ok (.aload_n 0, 1) := by decide +kernel
theorem dX11_pushed_140 : decode cX11_pushed 140 = .ok (.getfield 92, 3) := by decide +kernel
theorem dX11_pushed_143 : decode cX11_pushed 143 = .ok (.bipush 48, 2) := by decide +kernel
theorem dX11_pushed_145 : decode cX11_pushed 145 = .ok (.iload_n 1, 1) := by decide +kernel
theorem dX11_pushed_146 : decode cX11_pushed 146 = .ok (.imul, 1) := by decide +kernel
theorem dX11_pushed_147 : decode cX11_pushed 147 = .ok (.iload 6, 2) := by decide +kernel
theorem dX11_pushed_149 : decode cX11_pushed 149 = .ok (.iadd, 1) := by decide +kernel
theorem dX11_pushed_150 : decode cX11_pushed 150 = .ok (.iaload, 1) := by decide +kernel
theorem dX11_pushed_151 : decode cX11_pushed 151 = .ok (.ifCond .eq 25, 3) := by decide +kernel
theorem dX11_pushed_154 : decode cX11_pushed 154 = .ok (.aload_n 0, 1) := by decide +kernel
theorem dX11_pushed_155 : decode cX11_pushed 155 = .ok (.getfield 89, 3) := by decide +kernel
theorem dX11_pushed_158 : decode cX11_pushed 158 = .ok (.bipush 48, 2) := by decide +kernel
theorem dX11_pushed_160 : decode cX11_pushed 160 = .ok (.iload_n 1, 1) := by decide +kernel
theorem dX11_pushed_161 : decode cX11_pushed 161 = .ok (.imul, 1) := by decide +kernel
theorem dX11_pushed_162 : decode cX11_pushed 162 = .ok (.iload 7, 2) := by decide +kernel
theorem dX11_pushed_164 : decode cX11_pushed 164 = .ok (.iadd, 1) := by decide +kernel
theorem dX11_pushed_165 : decode cX11_pushed 165 = .ok (.iaload, 1) := by decide +kernel
theorem dX11_pushed_166 : decode cX11_pushed 166 = .ok (.aload_n 0, 1) := by decide +kernel
theorem dX11_pushed_167 : decode cX11_pushed 167 = .ok (.iload_n 1, 1) := by decide +kernel
theorem dX11_pushed_168 : decode cX11_pushed 168 = .ok (.iload 6, 2) := by decide +kernel
theorem dX11_pushed_170 : decode cX11_pushed 170 = .ok (.invokevirtual 243, 3) := by decide +kernel
theorem dX11_pushed_173 : decode cX11_pushed 173 = .ok (.if_icmp .lt 7, 3) := by decide +kernel
theorem dX11_pushed_176 : decode cX11_pushed 176 = .ok (.iconst 0, 1) := by decide +kernel
theorem dX11_pushed_177 : decode cX11_pushed 177 = .ok (.goto 5, 3) := by decide +kernel
theorem dX11_pushed_180 : decode cX11_pushed 180 = .ok (.iload 5, 2) := by decide +kernel
theorem dX11_pushed_182 : decode cX11_pushed 182 = .ok (.ireturn, 1) := by decide +kernel
noncomputable def f_X11_pushed (x1 : Int32) (x2 : Int32) (x3 : Int32) (u0 : qM) : Option (Int32 × qM) :=
  q_ck (q_in ((96 * x1) + x2) 768) (if (u0.1 95 0 (Int32.toNatClampNeg ((96 * x1) + x2))) = 0 then q_lt (x2 / 2) (fun (x4 : Int32) => q_ck (q_in ((96 * x1) + x2) 768) (q_ck (q_in x1 8) (q_bd (f_X11_level x1 x4 u0) (fun (x5 : Int32) (u1 : qM) => q_bd (f_X11_level x1 x3 u1) (fun (x6 : Int32) (u2 : qM) => q_lt ((u0.1 94 0 (Int32.toNatClampNeg ((96 * x1) + x2))) + (((u0.1 77 0 (Int32.toNatClampNeg x1)) * (x5 - x6)) / 8)) (fun (x7 : Int32) => q_ck (q_in x1 8) (q_jn (fun (x8 : Int32) (u3 : qM) => q_lt (x7 + x8) (fun (x9 : Int32) => q_ck (q_in x1 8) (q_ck (q_nz (u3.1 78 0 (Int32.toNatClampNeg x1))) (q_lt (x9 - (x9 / (u3.1 78 0 (Int32.toNatClampNeg x1)))) (fun (x10 : Int32) => q_jn (fun (x11 : Int32) (u4 : qM) => q_jn (fun (x12 : Int32) (u5 : qM) => q_ck (q_in ((48 * x1) + x11) 384) (q_jn (fun (x13 : Int32) (u6 : qM) => some (x13, u6)) (fun j4 => q_jn (fun  (u7 : qM) => j4 0 u7) (fun j5 => if (u5.1 92 0 (Int32.toNatClampNeg ((48 * x1) + x11))) = 0 then j5 u5 else q_ck (q_in ((48 * x1) + x12) 384) (q_bd (f_X11_level x1 x11 u5) (fun (x14 : Int32) (u8 : qM) => if (u5.1 91 0 (Int32.toNatClampNeg ((48 * x1) + x12))) < x14 then j4 x10 u8 else j5 u8)))))) (fun j3 => if x10 ≤ 0 then j3 x4 u4 else j3 x3 u4)) (fun j2 => if x10 ≤ 0 then j2 x3 u3 else j2 x4 u3)))))) (fun j1 => if (u2.1 74 0 (Int32.toNatClampNeg x1)) = 3 then j1 0 u2 else if (x2 - x2 / 2 * 2) = 0 then q_ck (q_in x1 8) (j1 (u2.1 79 0 (Int32.toNatClampNeg x1)) u2) else q_ck (q_in x1 8) (j1 (u2.1 80 0 (Int32.toNatClampNeg x1)) u2))))))))) else some (0, u0))
set_option maxRecDepth 100000 in
set_option maxHeartbeats 4000000 in
theorem k_X11_pushed (l : Launch) (G : qG) (x1 : Int32) (x2 : Int32) (x3 : Int32)  (u0 : qM) : qCt l G m_X11_pushed q_cI [.ref (q_ad G 11 0), .int x1, .int x2, .int x3] u0 (f_X11_pushed x1 x2 x3 u0) := by
  refine q_entry pk_X11_pushed (Nat.le_of_ble_eq_true rfl) ?_
  show qAW l G m_X11_pushed (q_mq G q_cI) 0 [(0, .ref (q_ad G 11 0)), (1, .int x1), (2, .int x2), (3, .int x3)] [] u0 (f_X11_pushed x1 x2 x3 u0)
  unfold f_X11_pushed
  refine aw_aload_n (i := 0) dX11_pushed_0 1 rfl rfl 0 rfl ?_
  refine gf_X11_35 dX11_pushed_1 4 rfl wd_271 (ok_11 (by decide)) ?_
  refine aw_bipush (x := 96) dX11_pushed_4 6 rfl rfl ?_
  refine aw_iload_n (i := 1) dX11_pushed_6 7 rfl rfl 1 rfl ?_
  refine aw_imul dX11_pushed_7 8 rfl ?_
  refine aw_iload_n (i := 2) dX11_pushed_8 9 rfl rfl 2 rfl ?_
  refine aw_iadd dX11_pushed_9 10 rfl ?_
  refine aw_zald dX11_pushed_10 11 rfl at_95 (al_95 _) (ok_95 (by decide)) (fun h1 => ?_)
  refine aw_if_eq dX11_pushed_11 14 rfl 16 rfl (fun h2 => ?_) (fun h2 => ?_)
  · refine aw_iload_n (i := 2) dX11_pushed_16 17 rfl rfl 2 rfl ?_
    refine aw_iconst (x := 2) dX11_pushed_17 18 rfl rfl ?_
    refine aw_idiv dX11_pushed_18 19 rfl (by decide) ?_
    refine aw_lti (fun x4 => ?_)
    refine aw_istore dX11_pushed_19 21 rfl [(4, .int x4), (0, .ref (q_ad G 11 0)), (1, .int x1), (2, .int x2), (3, .int x3)] (by decide) rfl ?_
    refine aw_aload_n (i := 0) dX11_pushed_21 22 rfl rfl 1 rfl ?_
    refine gf_X11_34 dX11_pushed_22 25 rfl wd_270 (ok_11 (by decide)) ?_
    refine aw_bipush (x := 96) dX11_pushed_25 27 rfl rfl ?_
    refine aw_iload_n (i := 1) dX11_pushed_27 28 rfl rfl 2 rfl ?_
    refine aw_imul dX11_pushed_28 29 rfl ?_
    refine aw_iload_n (i := 2) dX11_pushed_29 30 rfl rfl 3 rfl ?_
    refine aw_iadd dX11_pushed_30 31 rfl ?_
    refine aw_iald dX11_pushed_31 32 rfl at_94 (al_94 _) (ok_94 (by decide)) (fun h3 => ?_)
    refine aw_aload_n (i := 0) dX11_pushed_32 33 rfl rfl 1 rfl ?_
    refine gf_X11_17 dX11_pushed_33 36 rfl wd_256 (ok_11 (by decide)) ?_
    refine aw_iload_n (i := 1) dX11_pushed_36 37 rfl rfl 2 rfl ?_
    refine aw_iald dX11_pushed_37 38 rfl at_77 (al_77 _) (ok_77 (by decide)) (fun h4 => ?_)
    refine aw_aload_n (i := 0) dX11_pushed_38 39 rfl rfl 1 rfl ?_
    refine aw_iload_n (i := 1) dX11_pushed_39 40 rfl rfl 2 rfl ?_
    refine aw_iload (i := 4) dX11_pushed_40 42 rfl 0 rfl ?_
    refine aw_callV (M2 := m_X11_level) (cv := q_cI) dX11_pushed_42 45 rfl (k_X11_level l G x1 x4  u0) wd_276 wv_X11_level pk_X11_level rfl rfl ⟨by decide, by decide⟩ ⟨Nat.zero_le _, Nat.zero_le _⟩ at_11 (ok_11 (by decide)) rfl rfl rfl (Nat.le_of_ble_eq_true rfl) (fun x5 u1 => ?_)
    show qAW l G m_X11_pushed (q_mq G q_cI) 45 [(4, .int x4), (0, .ref (q_ad G 11 0)), (1, .int x1), (2, .int x2), (3, .int x3)] [.int x5, .int (u0.1 77 0 (Int32.toNatClampNeg x1)), .int (u0.1 94 0 (Int32.toNatClampNeg ((96 * x1) + x2)))] u1 _
    refine aw_aload_n (i := 0) dX11_pushed_45 46 rfl rfl 1 rfl ?_
    refine aw_iload_n (i := 1) dX11_pushed_46 47 rfl rfl 2 rfl ?_
    refine aw_iload_n (i := 3) dX11_pushed_47 48 rfl rfl 4 rfl ?_
    refine aw_callV (M2 := m_X11_level) (cv := q_cI) dX11_pushed_48 51 rfl (k_X11_level l G x1 x3  u1) wd_276 wv_X11_level pk_X11_level rfl rfl ⟨by decide, by decide⟩ ⟨Nat.zero_le _, Nat.zero_le _⟩ at_11 (ok_11 (by decide)) rfl rfl rfl (Nat.le_of_ble_eq_true rfl) (fun x6 u2 => ?_)
    show qAW l G m_X11_pushed (q_mq G q_cI) 51 [(4, .int x4), (0, .ref (q_ad G 11 0)), (1, .int x1), (2, .int x2), (3, .int x3)] [.int x6, .int x5, .int (u0.1 77 0 (Int32.toNatClampNeg x1)), .int (u0.1 94 0 (Int32.toNatClampNeg ((96 * x1) + x2)))] u2 _
    refine aw_isub dX11_pushed_51 52 rfl ?_
    refine aw_imul dX11_pushed_52 53 rfl ?_
    refine aw_bipush (x := 8) dX11_pushed_53 55 rfl rfl ?_
    refine aw_idiv dX11_pushed_55 56 rfl (by decide) ?_
    refine aw_iadd dX11_pushed_56 57 rfl ?_
    refine aw_lti (fun x7 => ?_)
    refine aw_istore dX11_pushed_57 59 rfl [(5, .int x7), (4, .int x4), (0, .ref (q_ad G 11 0)), (1, .int x1), (2, .int x2), (3, .int x3)] (by decide) rfl ?_
    refine aw_iload (i := 5) dX11_pushed_59 61 rfl 0 rfl ?_
    refine aw_aload_n (i := 0) dX11_pushed_61 62 rfl rfl 2 rfl ?_
    refine gf_X11_14 dX11_pushed_62 65 rfl wd_250 (ok_11 (by decide)) ?_
    refine aw_iload_n (i := 1) dX11_pushed_65 66 rfl rfl 3 rfl ?_
    refine aw_iald dX11_pushed_66 67 rfl at_74 (al_74 _) (ok_74 (by decide)) (fun h5 => ?_)
    refine aw_iconst (x := 3) dX11_pushed_67 68 rfl rfl ?_
    refine aw_jn (fun k => ∀ (x8 : Int32) (u3 : qM), qAW l G m_X11_pushed (q_mq G q_cI) 96 [(0, .ref (q_ad G 11 0)), (1, .int x1), (3, .int x3), (4, .int x4)] [.int x8, .int x7] u3 (k x8 u3)) ?_ ?_
    · intro x8 u3
      refine aw_iadd dX11_pushed_96 97 rfl ?_
      refine aw_lti (fun x9 => ?_)
      refine aw_istore dX11_pushed_97 99 rfl [(5, .int x9), (0, .ref (q_ad G 11 0)), (1, .int x1), (3, .int x3), (4, .int x4)] (by decide) rfl ?_
      refine aw_iload (i := 5) dX11_pushed_99 101 rfl 0 rfl ?_
      refine aw_iload (i := 5) dX11_pushed_101 103 rfl 0 rfl ?_
      refine aw_aload_n (i := 0) dX11_pushed_103 104 rfl rfl 1 rfl ?_
      refine gf_X11_18 dX11_pushed_104 107 rfl wd_257 (ok_11 (by decide)) ?_
      refine aw_iload_n (i := 1) dX11_pushed_107 108 rfl rfl 2 rfl ?_
      refine aw_iald dX11_pushed_108 109 rfl at_78 (al_78 _) (ok_78 (by decide)) (fun h7 => ?_)
      refine aw_ck (fun h8 => ?_)
      refine aw_idiv dX11_pushed_109 110 rfl (of_decide_eq_true h8) ?_
      refine aw_isub dX11_pushed_110 111 rfl ?_
      refine aw_lti (fun x10 => ?_)
      refine aw_istore dX11_pushed_111 113 rfl [(5, .int x10), (0, .ref (q_ad G 11 0)), (1, .int x1), (3, .int x3), (4, .int x4)] (by decide) rfl ?_
      refine aw_iload (i := 5) dX11_pushed_113 115 rfl 0 rfl ?_
      refine aw_jn (fun k => ∀ (x11 : Int32) (u4 : qM), qAW l G m_X11_pushed (q_mq G q_cI) 124 [(0, .ref (q_ad G 11 0)), (1, .int x1), (3, .int x3), (4, .int x4), (5, .int x10)] [.int x11] u4 (k x11 u4)) ?_ ?_
      · intro x11 u4
        refine aw_istore dX11_pushed_124 126 rfl [(6, .int x11), (0, .ref (q_ad G 11 0)), (1, .int x1), (3, .int x3), (4, .int x4), (5, .int x10)] (by decide) rfl ?_
        refine aw_iload (i := 5) dX11_pushed_126 128 rfl 5 rfl ?_
        refine aw_jn (fun k => ∀ (x12 : Int32) (u5 : qM), qAW l G m_X11_pushed (q_mq G q_cI) 137 [(0, .ref (q_ad G 11 0)), (1, .int x1), (5, .int x10), (6, .int x11)] [.int x12] u5 (k x12 u5)) ?_ ?_
        · intro x12 u5
          refine aw_istore dX11_pushed_137 139 rfl [(7, .int x12), (0, .ref (q_ad G 11 0)), (1, .int x1), (5, .int x10), (6, .int x11)] (by decide) rfl ?_
          refine aw_aload_n (i := 0) dX11_pushed_139 140 rfl rfl 1 rfl ?_
          refine gf_X11_32 dX11_pushed_140 143 rfl wd_249 (ok_11 (by decide)) ?_
          refine aw_bipush (x := 48) dX11_pushed_143 145 rfl rfl ?_
          refine aw_iload_n (i := 1) dX11_pushed_145 146 rfl rfl 2 rfl ?_
          refine aw_imul dX11_pushed_146 147 rfl ?_
          refine aw_iload (i := 6) dX11_pushed_147 149 rfl 4 rfl ?_
          refine aw_iadd dX11_pushed_149 150 rfl ?_
          refine aw_iald dX11_pushed_150 151 rfl at_92 (al_92 _) (ok_92 (by decide)) (fun h11 => ?_)
          refine aw_jn (fun k => ∀ (x13 : Int32) (u6 : qM), qAW l G m_X11_pushed (q_mq G q_cI) 182 [] [.int x13] u6 (k x13 u6)) ?_ ?_
          · intro x13 u6
            exact aw_iret dX11_pushed_182 rfl
          · intro j4 hj4
            refine aw_jn (fun k => ∀  (u7 : qM), qAW l G m_X11_pushed (q_mq G q_cI) 176 [] [] u7 (k u7)) ?_ ?_
            · intro u7
              refine aw_iconst (x := 0) dX11_pushed_176 177 rfl rfl ?_
              refine aw_goto dX11_pushed_177 182 rfl ?_
              exact hj4 0 u7
            · intro j5 hj5
              refine aw_if_eq dX11_pushed_151 154 rfl 176 rfl (fun h12 => ?_) (fun h12 => ?_)
              · exact aw_conv [] rfl (hj5 u5)
              · refine aw_aload_n (i := 0) dX11_pushed_154 155 rfl rfl 1 rfl ?_
                refine gf_X11_31 dX11_pushed_155 158 rfl wd_248 (ok_11 (by decide)) ?_
                refine aw_bipush (x := 48) dX11_pushed_158 160 rfl rfl ?_
                refine aw_iload_n (i := 1) dX11_pushed_160 161 rfl rfl 2 rfl ?_
                refine aw_imul dX11_pushed_161 162 rfl ?_
                refine aw_iload (i := 7) dX11_pushed_162 164 rfl 0 rfl ?_
                refine aw_iadd dX11_pushed_164 165 rfl ?_
                refine aw_iald dX11_pushed_165 166 rfl at_91 (al_91 _) (ok_91 (by decide)) (fun h13 => ?_)
                refine aw_aload_n (i := 0) dX11_pushed_166 167 rfl rfl 1 rfl ?_
                refine aw_iload_n (i := 1) dX11_pushed_167 168 rfl rfl 2 rfl ?_
                refine aw_iload (i := 6) dX11_pushed_168 170 rfl 4 rfl ?_
                refine aw_callV (M2 := m_X11_level) (cv := q_cI) dX11_pushed_170 173 rfl (k_X11_level l G x1 x11  u5) wd_276 wv_X11_level pk_X11_level rfl rfl ⟨by decide, by decide⟩ ⟨Nat.zero_le _, Nat.zero_le _⟩ at_11 (ok_11 (by decide)) rfl rfl rfl (Nat.le_of_ble_eq_true rfl) (fun x14 u8 => ?_)
                show qAW l G m_X11_pushed (q_mq G q_cI) 173 [(7, .int x12), (0, .ref (q_ad G 11 0)), (1, .int x1), (5, .int x10), (6, .int x11)] [.int x14, .int (u5.1 91 0 (Int32.toNatClampNeg ((48 * x1) + x12)))] u8 _
                refine aw_icmp_lt dX11_pushed_173 176 rfl 180 rfl (fun h14 => ?_) (fun h14 => ?_)
                · refine aw_iload (i := 5) dX11_pushed_180 182 rfl 3 rfl ?_
                  exact aw_conv [] rfl (hj4 x10 u8)
                · exact aw_conv [] rfl (hj5 u8)
        · intro j3 hj3
          refine aw_if_le dX11_pushed_128 131 rfl 135 rfl (fun h10 => ?_) (fun h10 => ?_)
          · refine aw_iload (i := 4) dX11_pushed_135 137 rfl 4 rfl ?_
            exact aw_conv [1, 2, 5, 0] rfl (hj3 x4 u4)
          · refine aw_iload_n (i := 3) dX11_pushed_131 132 rfl rfl 3 rfl ?_
            refine aw_goto dX11_pushed_132 137 rfl ?_
            exact aw_conv [1, 2, 5, 0] rfl (hj3 x3 u4)
      · intro j2 hj2
        refine aw_if_le dX11_pushed_115 118 rfl 123 rfl (fun h9 => ?_) (fun h9 => ?_)
        · refine aw_iload_n (i := 3) dX11_pushed_123 124 rfl rfl 3 rfl ?_
          exact aw_conv [1, 2, 3, 4, 0] rfl (hj2 x3 u3)
        · refine aw_iload (i := 4) dX11_pushed_118 120 rfl 4 rfl ?_
          refine aw_goto dX11_pushed_120 124 rfl ?_
          exact aw_conv [1, 2, 3, 4, 0] rfl (hj2 x4 u3)
    · intro j1 hj1
      refine aw_icmp_ne dX11_pushed_68 71 rfl 75 rfl (fun h6 => ?_) (fun h6 => ?_)
      · refine aw_iload_n (i := 2) dX11_pushed_75 76 rfl rfl 4 rfl ?_
        refine aw_iconst (x := 2) dX11_pushed_76 77 rfl rfl ?_
        refine aw_irem dX11_pushed_77 78 rfl (by decide) ?_
        refine aw_if_ne dX11_pushed_78 81 rfl 90 rfl (fun h15 => ?_) (fun h15 => ?_)
        · refine aw_aload_n (i := 0) dX11_pushed_90 91 rfl rfl 2 rfl ?_
          refine gf_X11_20 dX11_pushed_91 94 rfl wd_259 (ok_11 (by decide)) ?_
          refine aw_iload_n (i := 1) dX11_pushed_94 95 rfl rfl 3 rfl ?_
          refine aw_iald dX11_pushed_95 96 rfl at_80 (al_80 _) (ok_80 (by decide)) (fun h16 => ?_)
          exact aw_conv [2, 3, 5, 1] rfl (hj1 (u2.1 80 0 (Int32.toNatClampNeg x1)) u2)
        · refine aw_aload_n (i := 0) dX11_pushed_81 82 rfl rfl 2 rfl ?_
          refine gf_X11_19 dX11_pushed_82 85 rfl wd_258 (ok_11 (by decide)) ?_
          refine aw_iload_n (i := 1) dX11_pushed_85 86 rfl rfl 3 rfl ?_
          refine aw_iald dX11_pushed_86 87 rfl at_79 (al_79 _) (ok_79 (by decide)) (fun h17 => ?_)
          refine aw_goto dX11_pushed_87 96 rfl ?_
          exact aw_conv [2, 3, 5, 1] rfl (hj1 (u2.1 79 0 (Int32.toNatClampNeg x1)) u2)
      · refine aw_iconst (x := 0) dX11_pushed_71 72 rfl rfl ?_
        refine aw_goto dX11_pushed_72 96 rfl ?_
        exact aw_conv [2, 3, 5, 1] rfl (hj1 0 u2)
  · refine aw_iconst (x := 0) dX11_pushed_14 15 rfl rfl ?_
    exact aw_iret dX11_pushed_15 rfl
theorem dX11_pushAll_0 : decode cX11_pushAll 0 = .ok (.iconst 0, 1) := by decide +kernel
theorem dX11_pushAll_1 : decode cX11_pushAll 1 = .ok (.istore_n 2, 1) := by decide +kernel
theorem dX11_pushAll_2 : decode cX11_pushAll 2 = .ok (.iload_n 2, 1) := by decide +kernel
theorem dX11_pushAll_3 : decode cX11_pushAll 3 = .ok (.bipush 48, 2) := by decide +kernel
theorem dX11_pushAll_5 : decode cX11_pushAll 5 = .ok (.if_icmp .ge 16, 3) := by decide +kernel
theorem dX11_pushAll_8 : decode cX11_pushAll 8 = .ok (.aload_n 0, 1) := by decide +kernel
theorem dX11_pushAll_9 : decode cX11_pushAll 9 = .ok (.getfield 123, 3) := by decide +kernel
theorem dX11_pushAll_12 : decode cX11_pushAll 12 = .ok (.iload_n 2, 1) := by decide +kernel
theorem dX11_pushAll_13 : decode cX11_pushAll 13 = .ok (.iconst 0, 1) := by decide +kernel
theorem dX11_pushAll_14 : decode cX11_pushAll 14 = .ok (.iastore, 1) := by decide +kernel
theorem dX11_pushAll_15 : decode cX11_pushAll 15 = .ok (.iinc 2 1, 3) := by decide +kernel
theorem dX11_pushAll_18 : decode cX11_pushAll 18 = .ok (.goto (-16), 3) := by decide +kernel
theorem dX11_pushAll_21 : decode cX11_pushAll 21 = .ok (.iconst 0, 1) := by decide +kernel
theorem dX11_pushAll_22 : decode cX11_pushAll 22 = .ok (.istore_n 2, 1) := by decide +kernel
theorem dX11_pushAll_23 : decode cX11_pushAll 23 = .ok (.iload_n 2, 1) := by decide +kernel
theorem dX11_pushAll_24 : decode cX11_pushAll 24 = .ok (.iconst 2, 1) := by decide +kernel
theorem dX11_pushAll_25 : decode cX11_pushAll 25 = .ok (.aload_n 0, 1) := by decide +kernel
theorem dX11_pushAll_26 : decode cX11_pushAll 26 = .ok (.iload_n 1, 1) := by decide +kernel
theorem dX11_pushAll_27 : decode cX11_pushAll 27 = .ok (.invokevirtual 223, 3) := by decide +kernel
theorem dX11_pushAll_30 : decode cX11_pushAll 30 = .ok (.imul, 1) := by decide +kernel
theorem dX11_pushAll_31 : decode cX11_pushAll 31 = .ok (.if_icmp .ge 96, 3) := by decide +kernel
theorem dX11_pushAll_34 : decode cX11_pushAll 34 = .ok (.aload_n 0, 1) := by decide +kernel
theorem dX11_pushAll_35 : decode cX11_pushAll 35 = .ok (.iload_n 1, 1) := by decide +kernel
theorem dX11_pushAll_36 : decode cX11_pushAll 36 = .ok (.iload_n 2, 1) := by decide +kernel
theorem dX11_pushAll_37 : decode cX11_pushAll 37 = .ok (.invokevirtual 246, 3) := by decide +kernel
theorem dX11_pushAll_40 : decode cX11_pushAll 40 = .ok (.istore_n 3, 1) := by decide +kernel
theorem dX11_pushAll_41 : decode cX11_pushAll 41 = .ok (.aload_n 0, 1) := by decide +kernel
theorem dX11_pushAll_42 : decode cX11_pushAll 42 = .ok (.getfield 120, 3) := by decide +kernel
theorem dX11_pushAll_45 : decode cX11_pushAll 45 = .ok (.iload_n 2, 1) := by decide +kernel
theorem dX11_pushAll_46 : decode cX11_pushAll 46 = .ok (.iload_n 3, 1) := by decide +kernel
theorem dX11_pushAll_47 : decode cX11_pushAll 47 = .ok (.ifCond .ge 7, 3) := by decide +kernel
theorem dX11_pushAll_50 : decode cX11_pushAll 50 = .ok (.iconst 0, 1) := by decide +kernel
theorem dX11_pushAll_51 : decode cX11_pushAll 51 = .ok (.goto 10, 3) := by decide +kernel
theorem dX11_pushAll_54 : decode cX11_pushAll 54 = .ok (.aload_n 0, 1) := by decide +kernel
theorem dX11_pushAll_55 : decode cX11_pushAll 55 = .ok (.iload_n 1, 1) := by decide +kernel
theorem dX11_pushAll_56 : decode cX11_pushAll 56 = .ok (.iload_n 2, 1) := by decide +kernel
theorem dX11_pushAll_57 : decode cX11_pushAll 57 = .ok (.iload_n 3, 1) := by decide +kernel
theorem dX11_pushAll_58 : decode cX11_pushAll 58 = .ok (.invokevirtual 255, 3) := by decide +kernel
theorem dX11_pushAll_61 : decode cX11_pushAll 61 = .ok (.iastore, 1) := by decide +kernel
theorem dX11_pushAll_62 : decode cX11_pushAll 62 = .ok (.aload_n 0, 1) := by decide +kernel
theorem dX11_pushAll_63 : decode cX11_pushAll 63 = .ok (.getfield 123, 3) := by decide +kernel
theorem dX11_pushAll_66 : decode cX11_pushAll 66 = .ok (.aload_n 0, 1) := by decide +kernel
theorem dX11_pushAll_67 : decode cX11_pushAll 67 = .ok (.getfield 120, 3) := by decide +kernel
theorem dX11_pushAll_70 : decode cX11_pushAll 70 = .ok (.iload_n 2, 1) := by decide +kernel
theorem dX11_pushAll_71 : decode cX11_pushAll 71 = .ok (.iaload, 1) := by decide +kernel
theorem dX11_pushAll_72 : decode cX11_pushAll 72 = .ok (.ifCond .le 9, 3) := by decide +kernel
theorem dX11_pushAll_75 : decode cX11_pushAll 75 = .ok (.iload_n 2, 1) := by decide +kernel
theorem dX11_pushAll_76 : decode cX11_pushAll 76 = .ok (.iconst 2, 1) := by decide +kernel
theorem dX11_pushAll_77 : decode cX11_pushAll 77 = .ok (.idiv, 1) := by decide +kernel
theorem dX11_pushAll_78 : decode cX11_pushAll 78 = .ok (.goto 14, 3) := by decide +kernel
theorem dX11_pushAll_81 : decode cX11_pushAll 81 = .ok (.iload_n 3, 1) := by decide +kernel
theorem dX11_pushAll_82 : decode cX11_pushAll 82 = .ok (.ifCond .ge 9, 3) := by decide +kernel
theorem dX11_pushAll_85 : decode cX11_pushAll 85 = .ok (.iload_n 2, 1) := by decide +kernel
theorem dX11_pushAll_86 : decode cX11_pushAll 86 = .ok (.iconst 2, 1) := by decide +kernel
theorem dX11_pushAll_87 : decode cX11_pushAll 87 = .ok (.idiv, 1) := by decide +kernel
theorem dX11_pushAll_88 : decode cX11_pushAll 88 = .ok (.goto 4, 3) := by decide +kernel
theorem dX11_pushAll_91 : decode cX11_pushAll 91 = .ok (.iload_n 3, 1) := by decide +kernel
theorem dX11_pushAll_92 : decode cX11_pushAll 92 = .ok (.dup2, 1) := by decide +kernel
theorem dX11_pushAll_93 : decode cX11_pushAll 93 = .ok (.iaload, 1) := by decide +kernel
theorem dX11_pushAll_94 : decode cX11_pushAll 94 = .ok (.aload_n 0, 1) := by decide +kernel
theorem dX11_pushAll_95 : decode cX11_pushAll 95 = .ok (.getfield 120, 3) := by decide +kernel
theorem dX11_pushAll_98 : decode cX11_pushAll 98 = .ok (.iload_n 2, 1) := by decide +kernel
theorem dX11_pushAll_99 : decode cX11_pushAll 99 = .ok (.iaload, 1) := by decide +kernel
theorem dX11_pushAll_100 : decode cX11_pushAll 100 = .ok (.ifCond .le 12, 3) := by decide +kernel
theorem dX11_pushAll_103 : decode cX11_pushAll 103 = .ok (.aload_n 0, 1) := by decide +kernel
theorem dX11_pushAll_104 : decode cX11_pushAll 104 = .ok (.getfield 120, 3) := by decide +kernel
theorem dX11_pushAll_107 : decode cX11_pushAll 107 = .ok (.iload_n 2, 1) := by decide +kernel
theorem dX11_pushAll_108 : decode cX11_pushAll 108 = .ok (.iaload, 1) := by decide +kernel
theorem dX11_pushAll_109 : decode cX11_pushAll 109 = .ok (.goto 10, 3) := by decide +kernel
theorem dX11_pushAll_112 : decode cX11_pushAll 112 = .ok (.aload_n 0, 1) := by decide +kernel
theorem dX11_pushAll_113 : decode cX11_pushAll 113 = .ok (.getfield 120, 3) := by decide +kernel
theorem dX11_pushAll_116 : decode cX11_pushAll 116 = .ok (.iload_n 2, 1) := by decide +kernel
theorem dX11_pushAll_117 : decode cX11_pushAll 117 = .ok (.iaload, 1) := by decide +kernel
theorem dX11_pushAll_118 : decode cX11_pushAll 118 = .ok (.ineg, 1) := by decide +kernel
theorem dX11_pushAll_119 : decode cX11_pushAll 119 = .ok (.iadd, 1) := by decide +kernel
theorem dX11_pushAll_120 : decode cX11_pushAll 120 = .ok (.iastore, 1) := by decide +kernel
theorem dX11_pushAll_121 : decode cX11_pushAll 121 = .ok (.iinc 2 1, 3) := by decide +kernel
theorem dX11_pushAll_124 : decode cX11_pushAll 124 = .ok (.goto (-101), 3) := by decide +kernel
theorem dX11_pushAll_127 : decode cX11_pushAll 127 = .ok (.iconst 0, 1) := by decide +kernel
theorem dX11_pushAll_128 : decode cX11_pushAll 128 = .ok (.istore_n 2, 1) := by decide +kernel
theorem dX11_pushAll_129 : decode cX11_pushAll 129 = .ok (.iload_n 2, 1) := by decide +kernel
theorem dX11_pushAll_130 : decode cX11_pushAll 130 = .ok (.iconst 2, 1) := by decide +kernel
theorem dX11_pushAll_131 : decode cX11_pushAll 131 = .ok (.aload_n 0, 1) := by decide +kernel
theorem dX11_pushAll_132 : decode cX11_pushAll 132 = .ok (.iload_n 1, 1) := by decide +kernel
theorem dX11_pushAll_133 : decode cX11_pushAll 133 = .ok (.invokevirtual 223, 3) := by decide +kernel
theorem dX11_pushAll_136 : decode cX11_pushAll 136 = .ok (.imul, 1) := by decide +kernel
theorem dX11_pushAll_137 : decode cX11_pushAll 137 = .ok (.if_icmp .ge 99, 3) := by decide +kernel
theorem dX11_pushAll_140 : decode cX11_pushAll 140 = .ok (.aload_n 0, 1) := by decide +kernel
theorem dX11_pushAll_141 : decode cX11_pushAll 141 = .ok (.getfield 120, 3) := by decide +kernel
theorem dX11_pushAll_144 : decode cX11_pushAll 144 = .ok (.iload_n 2, 1) := by decide +kernel
theorem dX11_pushAll_145 : decode cX11_pushAll 145 = .ok (.iaload, 1) := by decide +kernel
theorem dX11_pushAll_146 : decode cX11_pushAll 146 = .ok (.ifCond .eq 84, 3) := by decide +kernel
theorem dX11_pushAll_149 : decode cX11_pushAll 149 = .ok (.aload_n 0, 1) := by decide +kernel
theorem dX11_pushAll_150 : decode cX11_pushAll 150 = .ok (.getfield 120, 3) := by decide +kernel
theorem dX11_pushAll_153 : decode cX11_pushAll 153 = .ok (.iload_n 2, 1) := by decide +kernel
theorem dX11_pushAll_154 : decode cX11_pushAll 154 = .ok (.iaload, 1) := by decide +kernel
theorem dX11_pushAll_155 : decode cX11_pushAll 155 = .ok (.ifCond .le 9, 3) := by decide +kernel
theorem dX11_pushAll_158 : decode cX11_pushAll 158 = .ok (.iload_n 2, 1) := by decide +kernel
theorem dX11_pushAll_159 : decode cX11_pushAll 159 = .ok (.iconst 2, 1) := by decide +kernel
theorem dX11_pushAll_160 : decode cX11_pushAll 160 = .ok (.idiv, 1) := by decide +kernel
theorem dX11_pushAll_161 : decode cX11_pushAll 161 = .ok (.goto 9, 3) := by decide +kernel
theorem dX11_pushAll_164 : decode cX11_pushAll 164 = .ok (.aload_n 0, 1) := by decide +kernel
theorem dX11_pushAll_165 : decode cX11_pushAll 165 = .ok (.iload_n 1, 1) := by decide +kernel
theorem dX11_pushAll_166 : decode cX11_pushAll 166 = .ok (.iload_n 2, 1) := by decide +kernel
theorem dX11_pushAll_167 : decode cX11_pushAll 167 = .ok (.invokevirtual 246, 3) := by decide +kernel
theorem dX11_pushAll_170 : decode cX11_pushAll 170 = .ok (.istore_n 3, 1) := by decide +kernel
theorem dX11_pushAll_171 : decode cX11_pushAll 171 = .ok (.aload_n 0, 1) := by decide +kernel
theorem dX11_pushAll_172 : decode cX11_pushAll 172 = .ok (.getfield 92, 3) := by decide +kernel
theorem dX11_pushAll_175 : decode cX11_pushAll 175 = .ok (.bipush 48, 2) := by decide +kernel
theorem dX11_pushAll_177 : decode cX11_pushAll 177 = .ok (.iload_n 1, 1) := by decide +kernel
theorem dX11_pushAll_178 : decode cX11_pushAll 178 = .ok (.imul, 1) := by decide +kernel
theorem dX11_pushAll_179 : decode cX11_pushAll 179 = .ok (.iload_n 3, 1) := by decide +kernel
theorem dX11_pushAll_180 : decode cX11_pushAll 180 = .ok (.iadd, 1) := by decide +kernel
theorem dX11_pushAll_181 : decode cX11_pushAll 181 = .ok (.iaload, 1) := by decide +kernel
theorem dX11_pushAll_182 : decode cX11_pushAll 182 = .ok (.istore 4, 2) := by decide +kernel
theorem dX11_pushAll_184 : decode cX11_pushAll 184 = .ok (.aload_n 0, 1) := by decide +kernel
theorem dX11_pushAll_185 : decode cX11_pushAll 185 = .ok (.getfield 120, 3) := by decide +kernel
theorem dX11_pushAll_188 : decode cX11_pushAll 188 = .ok (.iload_n 2, 1) := by decide +kernel
theorem dX11_pushAll_189 : decode cX11_pushAll 189 = .ok (.aload_n 0, 1) := by decide +kernel
theorem dX11_pushAll_190 : decode cX11_pushAll 190 = .ok (.getfield 123, 3) := by decide +kernel
theorem dX11_pushAll_193 : decode cX11_pushAll 193 = .ok (.iload_n 3, 1) := by decide +kernel
theorem dX11_pushAll_194 : decode cX11_pushAll 194 = .ok (.iaload, 1) := by decide +kernel
theorem dX11_pushAll_195 : decode cX11_pushAll 195 = .ok (.iload 4, 2) := by decide +kernel
theorem dX11_pushAll_197 : decode cX11_pushAll 197 = .ok (.if_icmp .le 26, 3) := by decide +kernel
theorem dX11_pushAll_200 : decode cX11_pushAll 200 = .ok (.aload_n 0, 1) := by decide +kernel
theorem dX11_pushAll_201 : decode cX11_pushAll 201 = .ok (.getfield 120, 3) := by decide +kernel
theorem dX11_pushAll_204 : decode cX11_pushAll 204 = .ok (.iload_n 2, 1) := by decide +kernel
theorem dX11_pushAll_205 : decode cX11_pushAll 205 = .ok (.iaload, 1) := by decide +kernel
theorem dX11_pushAll_206 : decode cX11_pushAll 206 = .ok (.i2l, 1) := by decide +kernel
theorem dX11_pushAll_207 : decode cX11_pushAll 207 = .ok (.iload 4, 2) := by decide +kernel
theorem dX11_pushAll_209 : decode cX11_pushAll 209 = .ok (.i2l, 1) := by decide +kernel
theorem dX11_pushAll_210 : decode cX11_pushAll 210 = .ok (.lmul, 1) := by decide +kernel
theorem dX11_pushAll_211 : decode cX11_pushAll 211 = .ok (.aload_n 0, 1) := by decide +kernel
theorem dX11_pushAll_212 : decode cX11_pushAll 212 = .ok (.getfield 123, 3) := by decide +kernel
theorem dX11_pushAll_215 : decode cX11_pushAll 215 = .ok (.iload_n 3, 1) := by decide +kernel
theorem dX11_pushAll_216 : decode cX11_pushAll 216 = .ok (.iaload, 1) := by decide +kernel
theorem dX11_pushAll_217 : decode cX11_pushAll 217 = .ok (.i2l, 1) := by decide +kernel
theorem dX11_pushAll_218 : decode cX11_pushAll 218 = .ok (.ldiv, 1) := by decide +kernel
theorem dX11_pushAll_219 : decode cX11_pushAll 219 = .ok (.l2i, 1) := by decide +kernel
theorem dX11_pushAll_220 : decode cX11_pushAll 220 = .ok (.goto 9, 3) := by decide +kernel
theorem dX11_pushAll_223 : decode cX11_pushAll 223 = .ok (.aload_n 0, 1) := by decide +kernel
theorem dX11_pushAll_224 : decode cX11_pushAll 224 = .ok (.getfield 120, 3) := by decide +kernel
theorem dX11_pushAll_227 : decode cX11_pushAll 227 = .ok (.iload_n 2, 1) := by decide +kernel
theorem dX11_pushAll_228 : decode cX11_pushAll 228 = .ok (.iaload, 1) := by decide +kernel
theorem dX11_pushAll_229 : decode cX11_pushAll 229 = .ok (.iastore, 1) := by decide +kernel
theorem dX11_pushAll_230 : decode cX11_pushAll 230 = .ok (.iinc 2 1, 3) := by decide +kernel
theorem dX11_pushAll_233 : decode cX11_pushAll 233 = .ok (.goto (-104), 3) := by decide +kernel
theorem dX11_pushAll_236 : decode cX11_pushAll 236 = .ok (.return_, 1) := by decide +kernel
noncomputable def L_X11_pushAll_2 (x1 : Int32) : Nat → Int32 → qM → (qM → Option (Unit × qM)) → Option (Unit × qM)
  | 0, _, _, _ => none
  | n + 1, x2, u1, e1 => if 48 ≤ x2 then e1 u1 else q_ck (q_in x2 48) (q_lt (q_si u1 102 0 (Int32.toNatClampNeg x2) 0) (fun (u2 : qM) => q_lt (x2 + 1) (fun (x3 : Int32) => L_X11_pushAll_2 x1 n x3 u2 e1)))
noncomputable def L_X11_pushAll_23 (x1 : Int32) : Nat → Int32 → qM → (qM → Option (Unit × qM)) → Option (Unit × qM)
  | 0, _, _, _ => none
  | n + 1, x4, u4, e1 => q_bd (f_X11_cells x1 u4) (fun (x5 : Int32) (u5 : qM) => if (2 * x5) ≤ x4 then e1 u5 else q_bd (f_X11_beyond x1 x4 u5) (fun (x6 : Int32) (u6 : qM) => q_jn (fun (x7 : Int32) (u7 : qM) => q_ck (q_in x4 96) (q_lt (q_si u7 101 0 (Int32.toNatClampNeg x4) x7) (fun (u8 : qM) => q_ck (q_in x4 96) (q_jn (fun (x8 : Int32) (u9 : qM) => q_ck (q_in x8 48) (q_ck (q_in x4 96) (q_jn (fun (x9 : Int32) (u10 : qM) => q_ck (q_in x8 48) (q_lt (q_si u10 102 0 (Int32.toNatClampNeg x8) ((u9.1 102 0 (Int32.toNatClampNeg x8)) + x9)) (fun (u11 : qM) => q_lt (x4 + 1) (fun (x10 : Int32) => L_X11_pushAll_23 x1 n x10 u11 e1)))) (fun j3 => if (u9.1 101 0 (Int32.toNatClampNeg x4)) ≤ 0 then q_ck (q_in x4 96) (j3 (-(u9.1 101 0 (Int32.toNatClampNeg x4))) u9) else q_ck (q_in x4 96) (j3 (u9.1 101 0 (Int32.toNatClampNeg x4)) u9))))) (fun j2 => if (u8.1 101 0 (Int32.toNatClampNeg x4)) ≤ 0 then if (0 : Int32) ≤ x6 then j2 x6 u8 else j2 (x4 / 2) u8 else j2 (x4 / 2) u8))))) (fun j1 => if (0 : Int32) ≤ x6 then q_bd (f_X11_pushed x1 x4 x6 u6) (fun (x11 : Int32) (u12 : qM) => j1 x11 u12) else j1 0 u6)))
noncomputable def L_X11_pushAll_129 (x1 : Int32) : Nat → Int32 → qM → (qM → Option (Unit × qM)) → Option (Unit × qM)
  | 0, _, _, _ => none
  | n + 1, x12, u14, e1 => q_bd (f_X11_cells x1 u14) (fun (x13 : Int32) (u15 : qM) => if (2 * x13) ≤ x12 then e1 u15 else q_ck (q_in x12 96) (q_jn (fun  (u16 : qM) => q_lt (x12 + 1) (fun (x14 : Int32) => L_X11_pushAll_129 x1 n x14 u16 e1)) (fun j4 => if (u15.1 101 0 (Int32.toNatClampNeg x12)) = 0 then j4 u15 else q_ck (q_in x12 96) (q_jn (fun (x15 : Int32) (u17 : qM) => q_ck (q_in ((48 * x1) + x15) 384) (q_lt (u17.1 92 0 (Int32.toNatClampNeg ((48 * x1) + x15))) (fun (x16 : Int32) => q_ck (q_in x15 48) (q_jn (fun (x17 : Int32) (u18 : qM) => q_ck (q_in x12 96) (q_lt (q_si u18 101 0 (Int32.toNatClampNeg x12) x17) (fun (u19 : qM) => j4 u19))) (fun j6 => if (u17.1 102 0 (Int32.toNatClampNeg x15)) ≤ x16 then q_ck (q_in x12 96) (j6 (u17.1 101 0 (Int32.toNatClampNeg x12)) u17) else q_ck (q_in x12 96) (q_ck (q_in x15 48) (q_ck (q_nzl (Int32.toInt64 (u17.1 102 0 (Int32.toNatClampNeg x15)))) (j6 (Int64.toInt32 (((Int32.toInt64 (u17.1 101 0 (Int32.toNatClampNeg x12))) * (Int32.toInt64 x16)) / (Int32.toInt64 (u17.1 102 0 (Int32.toNatClampNeg x15))))) u17)))))))) (fun j5 => if (u15.1 101 0 (Int32.toNatClampNeg x12)) ≤ 0 then q_bd (f_X11_beyond x1 x12 u15) (fun (x18 : Int32) (u20 : qM) => j5 x18 u20) else j5 (x12 / 2) u15)))))
noncomputable def f_X11_pushAll (x1 : Int32) (u0 : qM) : Option (Unit × qM) :=
  L_X11_pushAll_2 x1 q_fu 0 u0 (fun u3 => L_X11_pushAll_23 x1 q_fu 0 u3 (fun u13 => L_X11_pushAll_129 x1 q_fu 0 u13 (fun u21 => some ((), u21))))
set_option maxRecDepth 100000 in
set_option maxHeartbeats 4000000 in
theorem TL_X11_pushAll_2 (l : Launch) (G : qG) (x1 : Int32)  (e1 : qM → Option (Unit × qM)) (he1 : ∀  (v : qM), qAW l G m_X11_pushAll (q_mq G q_cU) 21 [(0, .ref (q_ad G 11 0)), (1, .int x1)] [] v (e1 v)) : ∀ (n : Nat) (x2 : Int32) (u1 : qM), qAW l G m_X11_pushAll (q_mq G q_cU) 2 [(0, .ref (q_ad G 11 0)), (1, .int x1), (2, .int x2)] [] u1 (L_X11_pushAll_2 x1 n x2 u1 e1) := by
  intro n
  induction n with
  | zero => intros; exact aw_none
  | succ n ih =>
    intro x2 u1
    unfold L_X11_pushAll_2
    refine aw_iload_n (i := 2) dX11_pushAll_2 3 rfl rfl 2 rfl ?_
    refine aw_bipush (x := 48) dX11_pushAll_3 5 rfl rfl ?_
    refine aw_icmp_ge dX11_pushAll_5 8 rfl 21 rfl (fun h1 => ?_) (fun h1 => ?_)
    · exact aw_conv [0, 1] rfl (he1 u1)
    · refine aw_aload_n (i := 0) dX11_pushAll_8 9 rfl rfl 0 rfl ?_
      refine gf_X11_42 dX11_pushAll_9 12 rfl wd_282 (ok_11 (by decide)) ?_
      refine aw_iload_n (i := 2) dX11_pushAll_12 13 rfl rfl 2 rfl ?_
      refine aw_iconst (x := 0) dX11_pushAll_13 14 rfl rfl ?_
      refine aw_iast dX11_pushAll_14 15 rfl at_102 (al_102 _) (ok_102 (by decide)) (fun h2 => ?_)
      refine aw_ltm (fun u2 => ?_)
      refine aw_iincx (i := 2) dX11_pushAll_15 18 rfl 2 rfl 1 rfl (fun x3 => [(2, .int x3), (0, .ref (q_ad G 11 0)), (1, .int x1)]) (by decide) (fun _ => rfl) (fun x3 => ?_)
      refine aw_goto dX11_pushAll_18 2 rfl ?_
      exact aw_conv [1, 2, 0] rfl (ih x3 u2)
set_option maxRecDepth 100000 in
set_option maxHeartbeats 4000000 in
theorem TL_X11_pushAll_23 (l : Launch) (G : qG) (x1 : Int32)  (e1 : qM → Option (Unit × qM)) (he1 : ∀  (v : qM), qAW l G m_X11_pushAll (q_mq G q_cU) 127 [(0, .ref (q_ad G 11 0)), (1, .int x1)] [] v (e1 v)) : ∀ (n : Nat) (x4 : Int32) (u4 : qM), qAW l G m_X11_pushAll (q_mq G q_cU) 23 [(0, .ref (q_ad G 11 0)), (1, .int x1), (2, .int x4)] [] u4 (L_X11_pushAll_23 x1 n x4 u4 e1) := by
  intro n
  induction n with
  | zero => intros; exact aw_none
  | succ n ih =>
    intro x4 u4
    unfold L_X11_pushAll_23
    refine aw_iload_n (i := 2) dX11_pushAll_23 24 rfl rfl 2 rfl ?_
    refine aw_iconst (x := 2) dX11_pushAll_24 25 rfl rfl ?_
    refine aw_aload_n (i := 0) dX11_pushAll_25 26 rfl rfl 0 rfl ?_
    refine aw_iload_n (i := 1) dX11_pushAll_26 27 rfl rfl 1 rfl ?_
    refine aw_callV (M2 := m_X11_cells) (cv := q_cI) dX11_pushAll_27 30 rfl (k_X11_cells l G x1  u4) wd_251 wv_X11_cells pk_X11_cells rfl rfl ⟨by decide, by decide⟩ ⟨Nat.zero_le _, Nat.zero_le _⟩ at_11 (ok_11 (by decide)) rfl rfl rfl (Nat.le_of_ble_eq_true rfl) (fun x5 u5 => ?_)
    show qAW l G m_X11_pushAll (q_mq G q_cU) 30 [(0, .ref (q_ad G 11 0)), (1, .int x1), (2, .int x4)] [.int x5, .int 2, .int x4] u5 _
    refine aw_imul dX11_pushAll_30 31 rfl ?_
    refine aw_icmp_ge dX11_pushAll_31 34 rfl 127 rfl (fun h3 => ?_) (fun h3 => ?_)
    · exact aw_conv [0, 1] rfl (he1 u5)
    · refine aw_aload_n (i := 0) dX11_pushAll_34 35 rfl rfl 0 rfl ?_
      refine aw_iload_n (i := 1) dX11_pushAll_35 36 rfl rfl 1 rfl ?_
      refine aw_iload_n (i := 2) dX11_pushAll_36 37 rfl rfl 2 rfl ?_
      refine aw_callV (M2 := m_X11_beyond) (cv := q_cI) dX11_pushAll_37 40 rfl (k_X11_beyond l G x1 x4  u5) wd_277 wv_X11_beyond pk_X11_beyond rfl rfl ⟨by decide, by decide⟩ ⟨Nat.zero_le _, Nat.zero_le _⟩ at_11 (ok_11 (by decide)) rfl rfl rfl (Nat.le_of_ble_eq_true rfl) (fun x6 u6 => ?_)
      show qAW l G m_X11_pushAll (q_mq G q_cU) 40 [(0, .ref (q_ad G 11 0)), (1, .int x1), (2, .int x4)] [.int x6] u6 _
      refine aw_istore_n dX11_pushAll_40 41 rfl rfl [(3, .int x6), (0, .ref (q_ad G 11 0)), (1, .int x1), (2, .int x4)] (by decide) rfl ?_
      refine aw_aload_n (i := 0) dX11_pushAll_41 42 rfl rfl 1 rfl ?_
      refine gf_X11_41 dX11_pushAll_42 45 rfl wd_283 (ok_11 (by decide)) ?_
      refine aw_iload_n (i := 2) dX11_pushAll_45 46 rfl rfl 3 rfl ?_
      refine aw_iload_n (i := 3) dX11_pushAll_46 47 rfl rfl 0 rfl ?_
      refine aw_jn (fun k => ∀ (x7 : Int32) (u7 : qM), qAW l G m_X11_pushAll (q_mq G q_cU) 61 [(0, .ref (q_ad G 11 0)), (1, .int x1), (2, .int x4), (3, .int x6)] [.int x7, .int x4, .ref (q_ad G 101 0)] u7 (k x7 u7)) ?_ ?_
      · intro x7 u7
        refine aw_iast dX11_pushAll_61 62 rfl at_101 (al_101 _) (ok_101 (by decide)) (fun h5 => ?_)
        refine aw_ltm (fun u8 => ?_)
        refine aw_aload_n (i := 0) dX11_pushAll_62 63 rfl rfl 0 rfl ?_
        refine gf_X11_42 dX11_pushAll_63 66 rfl wd_282 (ok_11 (by decide)) ?_
        refine aw_aload_n (i := 0) dX11_pushAll_66 67 rfl rfl 0 rfl ?_
        refine gf_X11_41 dX11_pushAll_67 70 rfl wd_283 (ok_11 (by decide)) ?_
        refine aw_iload_n (i := 2) dX11_pushAll_70 71 rfl rfl 2 rfl ?_
        refine aw_iald dX11_pushAll_71 72 rfl at_101 (al_101 _) (ok_101 (by decide)) (fun h6 => ?_)
        refine aw_jn (fun k => ∀ (x8 : Int32) (u9 : qM), qAW l G m_X11_pushAll (q_mq G q_cU) 92 [(0, .ref (q_ad G 11 0)), (1, .int x1), (2, .int x4)] [.int x8, .ref (q_ad G 102 0)] u9 (k x8 u9)) ?_ ?_
        · intro x8 u9
          refine aw_dup2 dX11_pushAll_92 93 rfl rfl rfl ?_
          refine aw_iald dX11_pushAll_93 94 rfl at_102 (al_102 _) (ok_102 (by decide)) (fun h8 => ?_)
          refine aw_aload_n (i := 0) dX11_pushAll_94 95 rfl rfl 0 rfl ?_
          refine gf_X11_41 dX11_pushAll_95 98 rfl wd_283 (ok_11 (by decide)) ?_
          refine aw_iload_n (i := 2) dX11_pushAll_98 99 rfl rfl 2 rfl ?_
          refine aw_iald dX11_pushAll_99 100 rfl at_101 (al_101 _) (ok_101 (by decide)) (fun h9 => ?_)
          refine aw_jn (fun k => ∀ (x9 : Int32) (u10 : qM), qAW l G m_X11_pushAll (q_mq G q_cU) 119 [(0, .ref (q_ad G 11 0)), (1, .int x1), (2, .int x4)] [.int x9, .int (u9.1 102 0 (Int32.toNatClampNeg x8)), .int x8, .ref (q_ad G 102 0)] u10 (k x9 u10)) ?_ ?_
          · intro x9 u10
            refine aw_iadd dX11_pushAll_119 120 rfl ?_
            refine aw_iast dX11_pushAll_120 121 rfl at_102 (al_102 _) (ok_102 (by decide)) (fun h11 => ?_)
            refine aw_ltm (fun u11 => ?_)
            refine aw_iincx (i := 2) dX11_pushAll_121 124 rfl 2 rfl 1 rfl (fun x10 => [(2, .int x10), (0, .ref (q_ad G 11 0)), (1, .int x1)]) (by decide) (fun _ => rfl) (fun x10 => ?_)
            refine aw_goto dX11_pushAll_124 23 rfl ?_
            exact aw_conv [1, 2, 0] rfl (ih x10 u11)
          · intro j3 hj3
            refine aw_if_le dX11_pushAll_100 103 rfl 112 rfl (fun h10 => ?_) (fun h10 => ?_)
            · refine aw_aload_n (i := 0) dX11_pushAll_112 113 rfl rfl 0 rfl ?_
              refine gf_X11_41 dX11_pushAll_113 116 rfl wd_283 (ok_11 (by decide)) ?_
              refine aw_iload_n (i := 2) dX11_pushAll_116 117 rfl rfl 2 rfl ?_
              refine aw_iald dX11_pushAll_117 118 rfl at_101 (al_101 _) (ok_101 (by decide)) (fun h12 => ?_)
              refine aw_ineg dX11_pushAll_118 119 rfl ?_
              exact hj3 (-(u9.1 101 0 (Int32.toNatClampNeg x4))) u9
            · refine aw_aload_n (i := 0) dX11_pushAll_103 104 rfl rfl 0 rfl ?_
              refine gf_X11_41 dX11_pushAll_104 107 rfl wd_283 (ok_11 (by decide)) ?_
              refine aw_iload_n (i := 2) dX11_pushAll_107 108 rfl rfl 2 rfl ?_
              refine aw_iald dX11_pushAll_108 109 rfl at_101 (al_101 _) (ok_101 (by decide)) (fun h13 => ?_)
              refine aw_goto dX11_pushAll_109 119 rfl ?_
              exact hj3 (u9.1 101 0 (Int32.toNatClampNeg x4)) u9
        · intro j2 hj2
          refine aw_if_le dX11_pushAll_72 75 rfl 81 rfl (fun h7 => ?_) (fun h7 => ?_)
          · refine aw_iload_n (i := 3) dX11_pushAll_81 82 rfl rfl 3 rfl ?_
            refine aw_if_ge dX11_pushAll_82 85 rfl 91 rfl (fun h14 => ?_) (fun h14 => ?_)
            · refine aw_iload_n (i := 3) dX11_pushAll_91 92 rfl rfl 3 rfl ?_
              exact aw_conv [0, 1, 2] rfl (hj2 x6 u8)
            · refine aw_iload_n (i := 2) dX11_pushAll_85 86 rfl rfl 2 rfl ?_
              refine aw_iconst (x := 2) dX11_pushAll_86 87 rfl rfl ?_
              refine aw_idiv dX11_pushAll_87 88 rfl (by decide) ?_
              refine aw_goto dX11_pushAll_88 92 rfl ?_
              exact aw_conv [0, 1, 2] rfl (hj2 (x4 / 2) u8)
          · refine aw_iload_n (i := 2) dX11_pushAll_75 76 rfl rfl 2 rfl ?_
            refine aw_iconst (x := 2) dX11_pushAll_76 77 rfl rfl ?_
            refine aw_idiv dX11_pushAll_77 78 rfl (by decide) ?_
            refine aw_goto dX11_pushAll_78 92 rfl ?_
            exact aw_conv [0, 1, 2] rfl (hj2 (x4 / 2) u8)
      · intro j1 hj1
        refine aw_if_ge dX11_pushAll_47 50 rfl 54 rfl (fun h4 => ?_) (fun h4 => ?_)
        · refine aw_aload_n (i := 0) dX11_pushAll_54 55 rfl rfl 1 rfl ?_
          refine aw_iload_n (i := 1) dX11_pushAll_55 56 rfl rfl 2 rfl ?_
          refine aw_iload_n (i := 2) dX11_pushAll_56 57 rfl rfl 3 rfl ?_
          refine aw_iload_n (i := 3) dX11_pushAll_57 58 rfl rfl 0 rfl ?_
          refine aw_callV (M2 := m_X11_pushed) (cv := q_cI) dX11_pushAll_58 61 rfl (k_X11_pushed l G x1 x4 x6  u6) wd_284 wv_X11_pushed pk_X11_pushed rfl rfl ⟨by decide, by decide⟩ ⟨Nat.zero_le _, Nat.zero_le _⟩ at_11 (ok_11 (by decide)) rfl rfl rfl (Nat.le_of_ble_eq_true rfl) (fun x11 u12 => ?_)
          show qAW l G m_X11_pushAll (q_mq G q_cU) 61 [(3, .int x6), (0, .ref (q_ad G 11 0)), (1, .int x1), (2, .int x4)] [.int x11, .int x4, .ref (q_ad G 101 0)] u12 _
          exact aw_conv [1, 2, 3, 0] rfl (hj1 x11 u12)
        · refine aw_iconst (x := 0) dX11_pushAll_50 51 rfl rfl ?_
          refine aw_goto dX11_pushAll_51 61 rfl ?_
          exact aw_conv [1, 2, 3, 0] rfl (hj1 0 u6)
set_option maxRecDepth 100000 in
set_option maxHeartbeats 4000000 in
theorem TL_X11_pushAll_129 (l : Launch) (G : qG) (x1 : Int32)  (e1 : qM → Option (Unit × qM)) (he1 : ∀  (v : qM), qAW l G m_X11_pushAll (q_mq G q_cU) 236 [] [] v (e1 v)) : ∀ (n : Nat) (x12 : Int32) (u14 : qM), qAW l G m_X11_pushAll (q_mq G q_cU) 129 [(0, .ref (q_ad G 11 0)), (1, .int x1), (2, .int x12)] [] u14 (L_X11_pushAll_129 x1 n x12 u14 e1) := by
  intro n
  induction n with
  | zero => intros; exact aw_none
  | succ n ih =>
    intro x12 u14
    unfold L_X11_pushAll_129
    refine aw_iload_n (i := 2) dX11_pushAll_129 130 rfl rfl 2 rfl ?_
    refine aw_iconst (x := 2) dX11_pushAll_130 131 rfl rfl ?_
    refine aw_aload_n (i := 0) dX11_pushAll_131 132 rfl rfl 0 rfl ?_
    refine aw_iload_n (i := 1) dX11_pushAll_132 133 rfl rfl 1 rfl ?_
    refine aw_callV (M2 := m_X11_cells) (cv := q_cI) dX11_pushAll_133 136 rfl (k_X11_cells l G x1  u14) wd_251 wv_X11_cells pk_X11_cells rfl rfl ⟨by decide, by decide⟩ ⟨Nat.zero_le _, Nat.zero_le _⟩ at_11 (ok_11 (by decide)) rfl rfl rfl (Nat.le_of_ble_eq_true rfl) (fun x13 u15 => ?_)
    show qAW l G m_X11_pushAll (q_mq G q_cU) 136 [(0, .ref (q_ad G 11 0)), (1, .int x1), (2, .int x12)] [.int x13, .int 2, .int x12] u15 _
    refine aw_imul dX11_pushAll_136 137 rfl ?_
    refine aw_icmp_ge dX11_pushAll_137 140 rfl 236 rfl (fun h15 => ?_) (fun h15 => ?_)
    · exact aw_conv [] rfl (he1 u15)
    · refine aw_aload_n (i := 0) dX11_pushAll_140 141 rfl rfl 0 rfl ?_
      refine gf_X11_41 dX11_pushAll_141 144 rfl wd_283 (ok_11 (by decide)) ?_
      refine aw_iload_n (i := 2) dX11_pushAll_144 145 rfl rfl 2 rfl ?_
      refine aw_iald dX11_pushAll_145 146 rfl at_101 (al_101 _) (ok_101 (by decide)) (fun h16 => ?_)
      refine aw_jn (fun k => ∀  (u16 : qM), qAW l G m_X11_pushAll (q_mq G q_cU) 230 [(0, .ref (q_ad G 11 0)), (1, .int x1), (2, .int x12)] [] u16 (k u16)) ?_ ?_
      · intro u16
        refine aw_iincx (i := 2) dX11_pushAll_230 233 rfl 2 rfl 1 rfl (fun x14 => [(2, .int x14), (0, .ref (q_ad G 11 0)), (1, .int x1)]) (by decide) (fun _ => rfl) (fun x14 => ?_)
        refine aw_goto dX11_pushAll_233 129 rfl ?_
        exact aw_conv [1, 2, 0] rfl (ih x14 u16)
      · intro j4 hj4
        refine aw_if_eq dX11_pushAll_146 149 rfl 230 rfl (fun h17 => ?_) (fun h17 => ?_)
        · exact hj4 u15
        · refine aw_aload_n (i := 0) dX11_pushAll_149 150 rfl rfl 0 rfl ?_
          refine gf_X11_41 dX11_pushAll_150 153 rfl wd_283 (ok_11 (by decide)) ?_
          refine aw_iload_n (i := 2) dX11_pushAll_153 154 rfl rfl 2 rfl ?_
          refine aw_iald dX11_pushAll_154 155 rfl at_101 (al_101 _) (ok_101 (by decide)) (fun h18 => ?_)
          refine aw_jn (fun k => ∀ (x15 : Int32) (u17 : qM), qAW l G m_X11_pushAll (q_mq G q_cU) 170 [(0, .ref (q_ad G 11 0)), (1, .int x1), (2, .int x12)] [.int x15] u17 (k x15 u17)) ?_ ?_
          · intro x15 u17
            refine aw_istore_n dX11_pushAll_170 171 rfl rfl [(3, .int x15), (0, .ref (q_ad G 11 0)), (1, .int x1), (2, .int x12)] (by decide) rfl ?_
            refine aw_aload_n (i := 0) dX11_pushAll_171 172 rfl rfl 1 rfl ?_
            refine gf_X11_32 dX11_pushAll_172 175 rfl wd_249 (ok_11 (by decide)) ?_
            refine aw_bipush (x := 48) dX11_pushAll_175 177 rfl rfl ?_
            refine aw_iload_n (i := 1) dX11_pushAll_177 178 rfl rfl 2 rfl ?_
            refine aw_imul dX11_pushAll_178 179 rfl ?_
            refine aw_iload_n (i := 3) dX11_pushAll_179 180 rfl rfl 0 rfl ?_
            refine aw_iadd dX11_pushAll_180 181 rfl ?_
            refine aw_iald dX11_pushAll_181 182 rfl at_92 (al_92 _) (ok_92 (by decide)) (fun h20 => ?_)
            refine aw_lti (fun x16 => ?_)
            refine aw_istore dX11_pushAll_182 184 rfl [(4, .int x16), (3, .int x15), (0, .ref (q_ad G 11 0)), (1, .int x1), (2, .int x12)] (by decide) rfl ?_
            refine aw_aload_n (i := 0) dX11_pushAll_184 185 rfl rfl 2 rfl ?_
            refine gf_X11_41 dX11_pushAll_185 188 rfl wd_283 (ok_11 (by decide)) ?_
            refine aw_iload_n (i := 2) dX11_pushAll_188 189 rfl rfl 4 rfl ?_
            refine aw_aload_n (i := 0) dX11_pushAll_189 190 rfl rfl 2 rfl ?_
            refine gf_X11_42 dX11_pushAll_190 193 rfl wd_282 (ok_11 (by decide)) ?_
            refine aw_iload_n (i := 3) dX11_pushAll_193 194 rfl rfl 1 rfl ?_
            refine aw_iald dX11_pushAll_194 195 rfl at_102 (al_102 _) (ok_102 (by decide)) (fun h21 => ?_)
            refine aw_iload (i := 4) dX11_pushAll_195 197 rfl 0 rfl ?_
            refine aw_jn (fun k => ∀ (x17 : Int32) (u18 : qM), qAW l G m_X11_pushAll (q_mq G q_cU) 229 [(0, .ref (q_ad G 11 0)), (1, .int x1), (2, .int x12)] [.int x17, .int x12, .ref (q_ad G 101 0)] u18 (k x17 u18)) ?_ ?_
            · intro x17 u18
              refine aw_iast dX11_pushAll_229 230 rfl at_101 (al_101 _) (ok_101 (by decide)) (fun h23 => ?_)
              refine aw_ltm (fun u19 => ?_)
              exact hj4 u19
            · intro j6 hj6
              refine aw_icmp_le dX11_pushAll_197 200 rfl 223 rfl (fun h22 => ?_) (fun h22 => ?_)
              · refine aw_aload_n (i := 0) dX11_pushAll_223 224 rfl rfl 2 rfl ?_
                refine gf_X11_41 dX11_pushAll_224 227 rfl wd_283 (ok_11 (by decide)) ?_
                refine aw_iload_n (i := 2) dX11_pushAll_227 228 rfl rfl 4 rfl ?_
                refine aw_iald dX11_pushAll_228 229 rfl at_101 (al_101 _) (ok_101 (by decide)) (fun h24 => ?_)
                exact aw_conv [2, 3, 4] rfl (hj6 (u17.1 101 0 (Int32.toNatClampNeg x12)) u17)
              · refine aw_aload_n (i := 0) dX11_pushAll_200 201 rfl rfl 2 rfl ?_
                refine gf_X11_41 dX11_pushAll_201 204 rfl wd_283 (ok_11 (by decide)) ?_
                refine aw_iload_n (i := 2) dX11_pushAll_204 205 rfl rfl 4 rfl ?_
                refine aw_iald dX11_pushAll_205 206 rfl at_101 (al_101 _) (ok_101 (by decide)) (fun h25 => ?_)
                refine aw_i2l dX11_pushAll_206 207 rfl ?_
                refine aw_iload (i := 4) dX11_pushAll_207 209 rfl 0 rfl ?_
                refine aw_i2l dX11_pushAll_209 210 rfl ?_
                refine aw_lmul dX11_pushAll_210 211 rfl ?_
                refine aw_aload_n (i := 0) dX11_pushAll_211 212 rfl rfl 2 rfl ?_
                refine gf_X11_42 dX11_pushAll_212 215 rfl wd_282 (ok_11 (by decide)) ?_
                refine aw_iload_n (i := 3) dX11_pushAll_215 216 rfl rfl 1 rfl ?_
                refine aw_iald dX11_pushAll_216 217 rfl at_102 (al_102 _) (ok_102 (by decide)) (fun h26 => ?_)
                refine aw_i2l dX11_pushAll_217 218 rfl ?_
                refine aw_ck (fun h27 => ?_)
                refine aw_ldiv dX11_pushAll_218 219 rfl (of_decide_eq_true h27) ?_
                refine aw_l2i dX11_pushAll_219 220 rfl ?_
                refine aw_goto dX11_pushAll_220 229 rfl ?_
                exact aw_conv [2, 3, 4] rfl (hj6 (Int64.toInt32 (((Int32.toInt64 (u17.1 101 0 (Int32.toNatClampNeg x12))) * (Int32.toInt64 x16)) / (Int32.toInt64 (u17.1 102 0 (Int32.toNatClampNeg x15))))) u17)
          · intro j5 hj5
            refine aw_if_le dX11_pushAll_155 158 rfl 164 rfl (fun h19 => ?_) (fun h19 => ?_)
            · refine aw_aload_n (i := 0) dX11_pushAll_164 165 rfl rfl 0 rfl ?_
              refine aw_iload_n (i := 1) dX11_pushAll_165 166 rfl rfl 1 rfl ?_
              refine aw_iload_n (i := 2) dX11_pushAll_166 167 rfl rfl 2 rfl ?_
              refine aw_callV (M2 := m_X11_beyond) (cv := q_cI) dX11_pushAll_167 170 rfl (k_X11_beyond l G x1 x12  u15) wd_277 wv_X11_beyond pk_X11_beyond rfl rfl ⟨by decide, by decide⟩ ⟨Nat.zero_le _, Nat.zero_le _⟩ at_11 (ok_11 (by decide)) rfl rfl rfl (Nat.le_of_ble_eq_true rfl) (fun x18 u20 => ?_)
              show qAW l G m_X11_pushAll (q_mq G q_cU) 170 [(0, .ref (q_ad G 11 0)), (1, .int x1), (2, .int x12)] [.int x18] u20 _
              exact hj5 x18 u20
            · refine aw_iload_n (i := 2) dX11_pushAll_158 159 rfl rfl 2 rfl ?_
              refine aw_iconst (x := 2) dX11_pushAll_159 160 rfl rfl ?_
              refine aw_idiv dX11_pushAll_160 161 rfl (by decide) ?_
              refine aw_goto dX11_pushAll_161 170 rfl ?_
              exact hj5 (x12 / 2) u15
set_option maxRecDepth 100000 in
set_option maxHeartbeats 4000000 in
theorem k_X11_pushAll (l : Launch) (G : qG) (x1 : Int32)  (u0 : qM) : qCt l G m_X11_pushAll q_cU [.ref (q_ad G 11 0), .int x1] u0 (f_X11_pushAll x1 u0) := by
  refine q_entry pk_X11_pushAll (Nat.le_of_ble_eq_true rfl) ?_
  show qAW l G m_X11_pushAll (q_mq G q_cU) 0 [(0, .ref (q_ad G 11 0)), (1, .int x1)] [] u0 (f_X11_pushAll x1 u0)
  unfold f_X11_pushAll
  refine aw_iconst (x := 0) dX11_pushAll_0 1 rfl rfl ?_
  refine aw_istore_n dX11_pushAll_1 2 rfl rfl [(2, .int 0), (0, .ref (q_ad G 11 0)), (1, .int x1)] (by decide) rfl ?_
  refine aw_conv [1, 2, 0] rfl (TL_X11_pushAll_2 l G x1  _ ?_ _ 0 u0)
  · intro u3
    refine aw_iconst (x := 0) dX11_pushAll_21 22 rfl rfl ?_
    refine aw_istore_n dX11_pushAll_22 23 rfl rfl [(2, .int 0), (0, .ref (q_ad G 11 0)), (1, .int x1)] (by decide) rfl ?_
    refine aw_conv [1, 2, 0] rfl (TL_X11_pushAll_23 l G x1  _ ?_ _ 0 u3)
    · intro u13
      refine aw_iconst (x := 0) dX11_pushAll_127 128 rfl rfl ?_
      refine aw_istore_n dX11_pushAll_128 129 rfl rfl [(2, .int 0), (0, .ref (q_ad G 11 0)), (1, .int x1)] (by decide) rfl ?_
      refine aw_conv [1, 2, 0] rfl (TL_X11_pushAll_129 l G x1  _ ?_ _ 0 u13)
      · intro u21
        exact aw_vret dX11_pushAll_236 rfl
theorem dX11_carryAll_0 : decode cX11_carryAll 0 = .ok (.iconst 0, 1) := by decide +kernel
theorem dX11_carryAll_1 : decode cX11_carryAll 1 = .ok (.istore_n 2, 1) := by decide +kernel
theorem dX11_carryAll_2 : decode cX11_carryAll 2 = .ok (.iload_n 2, 1) := by decide +kernel
theorem dX11_carryAll_3 : decode cX11_carryAll 3 = .ok (.aload_n 0, 1) := by decide +kernel
theorem dX11_carryAll_4 : decode cX11_carryAll 4 = .ok (.iload_n 1, 1) := by decide +kernel
theorem dX11_carryAll_5 : decode cX11_carryAll 5 = .ok (.invokevirtual 223, 3) := by decide +kernel
theorem dX11_carryAll_8 : decode cX11_carryAll 8 = .ok (.if_icmp .ge 67, 3) := by decide +kernel
theorem dX11_carryAll_11 : decode cX11_carryAll 11 = .ok (.aload_n 0, 1) := by decide +kernel
theorem dX11_carryAll_12 : decode cX11_carryAll 12 = .ok (.getfield 126, 3) := by decide +kernel
theorem dX11_carryAll_15 : decode cX11_carryAll 15 = .ok (.iload_n 2, 1) := by decide +kernel
theorem dX11_carryAll_16 : decode cX11_carryAll 16 = .ok (.aload_n 0, 1) := by decide +kernel
theorem dX11_carryAll_17 : decode cX11_carryAll 17 = .ok (.getfield 92, 3) := by decide +kernel
theorem dX11_carryAll_20 : decode cX11_carryAll 20 = .ok (.bipush 48, 2) := by decide +kernel
theorem dX11_carryAll_22 : decode cX11_carryAll 22 = .ok (.iload_n 1, 1) := by decide +kernel
theorem dX11_carryAll_23 : decode cX11_carryAll 23 = .ok (.imul, 1) := by decide +kernel
theorem dX11_carryAll_24 : decode cX11_carryAll 24 = .ok (.iload_n 2, 1) := by decide +kernel
theorem dX11_carryAll_25 : decode cX11_carryAll 25 = .ok (.iadd, 1) := by decide +kernel
theorem dX11_carryAll_26 : decode cX11_carryAll 26 = .ok (.iaload, 1) := by decide +kernel
theorem dX11_carryAll_27 : decode cX11_carryAll 27 = .ok (.iastore, 1) := by decide +kernel
theorem dX11_carryAll_28 : decode cX11_carryAll 28 = .ok (.iconst 0, 1) := by decide +kernel
theorem dX11_carryAll_29 : decode cX11_carryAll 29 = .ok (.istore_n 3, 1) := by decide +kernel
theorem dX11_carryAll_30 : decode cX11_carryAll 30 = .ok (.iload_n 3, 1) := by decide +kernel
theorem dX11_carryAll_31 : decode cX11_carryAll 31 = .ok (.iconst 3, 1) := by decide +kernel
theorem dX11_carryAll_32 : decode cX11_carryAll 32 = .ok (.if_icmp .ge 37, 3) := by decide +kernel
theorem dX11_carryAll_35 : decode cX11_carryAll 35 = .ok (.aload_n 0, 1) := by decide +kernel
theorem dX11_carryAll_36 : decode cX11_carryAll 36 = .ok (.getfield 129, 3) := by decide +kernel
theorem dX11_carryAll_39 : decode cX11_carryAll 39 = .ok (.bipush 48, 2) := by decide +kernel
theorem dX11_carryAll_41 : decode cX11_carryAll 41 = .ok (.iload_n 3, 1) := by decide +kernel
theorem dX11_carryAll_42 : decode cX11_carryAll 42 = .ok (.imul, 1) := by decide +kernel
theorem dX11_carryAll_43 : decode cX11_carryAll 43 = .ok (.iload_n 2, 1) := by decide +kernel
theorem dX11_carryAll_44 : decode cX11_carryAll 44 = .ok (.iadd, 1) := by decide +kernel
theorem dX11_carryAll_45 : decode cX11_carryAll 45 = .ok (.aload_n 0, 1) := by decide +kernel
theorem dX11_carryAll_46 : decode cX11_carryAll 46 = .ok (.getfield 95, 3) := by decide +kernel
theorem dX11_carryAll_49 : decode cX11_carryAll 49 = .ok (.sipush 144, 3) := by decide +kernel
theorem dX11_carryAll_52 : decode cX11_carryAll 52 = .ok (.iload_n 1, 1) := by decide +kernel
theorem dX11_carryAll_53 : decode cX11_carryAll 53 = .ok (.imul, 1) := by decide +kernel
theorem dX11_carryAll_54 : decode cX11_carryAll 54 = .ok (.bipush 48, 2) := by decide +kernel
theorem dX11_carryAll_56 : decode cX11_carryAll 56 = .ok (.iload_n 3, 1) := by decide +kernel
theorem dX11_carryAll_57 : decode cX11_carryAll 57 = .ok (.imul, 1) := by decide +kernel
theorem dX11_carryAll_58 : decode cX11_carryAll 58 = .ok (.iadd, 1) := by decide +kernel
theorem dX11_carryAll_59 : decode cX11_carryAll 59 = .ok (.iload_n 2, 1) := by decide +kernel
theorem dX11_carryAll_60 : decode cX11_carryAll 60 = .ok (.iadd, 1) := by decide +kernel
theorem dX11_carryAll_61 : decode cX11_carryAll 61 = .ok (.iaload, 1) := by decide +kernel
theorem dX11_carryAll_62 : decode cX11_carryAll 62 = .ok (.iastore, 1) := by decide +kernel
theorem dX11_carryAll_63 : decode cX11_carryAll 63 = .ok (.iinc 3 1, 3) := by decide +kernel
theorem dX11_carryAll_66 : decode cX11_carryAll 66 = .ok (.goto (-36), 3) := by decide +kernel
theorem dX11_carryAll_69 : decode cX11_carryAll 69 = .ok (.iinc 2 1, 3) := by decide +kernel
theorem dX11_carryAll_72 : decode cX11_carryAll 72 = .ok (.goto (-70), 3) := by decide +kernel
theorem dX11_carryAll_75 : decode cX11_carryAll 75 = .ok (.iconst 0, 1) := by decide +kernel
theorem dX11_carryAll_76 : decode cX11_carryAll 76 = .ok (.istore_n 2, 1) := by decide +kernel
theorem dX11_carryAll_77 : decode cX11_carryAll 77 = .ok (.iload_n 2, 1) := by decide +kernel
theorem dX11_carryAll_78 : decode cX11_carryAll 78 = .ok (.iconst 2, 1) := by decide +kernel
theorem dX11_carryAll_79 : decode cX11_carryAll 79 = .ok (.aload_n 0, 1) := by decide +kernel
theorem dX11_carryAll_80 : decode cX11_carryAll 80 = .ok (.iload_n 1, 1) := by decide +kernel
theorem dX11_carryAll_81 : decode cX11_carryAll 81 = .ok (.invokevirtual 223, 3) := by decide +kernel
theorem dX11_carryAll_84 : decode cX11_carryAll 84 = .ok (.imul, 1) := by decide +kernel
theorem dX11_carryAll_85 : decode cX11_carryAll 85 = .ok (.if_icmp .ge 202, 3) := by decide +kernel
theorem dX11_carryAll_88 : decode cX11_carryAll 88 = .ok (.aload_n 0, 1) := by decide +kernel
theorem dX11_carryAll_89 : decode cX11_carryAll 89 = .ok (.getfield 120, 3) := by decide +kernel
theorem dX11_carryAll_92 : decode cX11_carryAll 92 = .ok (.iload_n 2, 1) := by decide +kernel
theorem dX11_carryAll_93 : decode cX11_carryAll 93 = .ok (.iaload, 1) := by decide +kernel
theorem dX11_carryAll_94 : decode cX11_carryAll 94 = .ok (.ifCond .eq 187, 3) := by decide +kernel
theorem dX11_carryAll_97 : decode cX11_carryAll 97 = .ok (.aload_n 0, 1) := by decide +kernel
theorem dX11_carryAll_98 : decode cX11_carryAll 98 = .ok (.getfield 120, 3) := by decide +kernel
theorem dX11_carryAll_101 : decode cX11_carryAll 101 = .ok (.iload_n 2, 1) := by decide +kernel
theorem dX11_carryAll_102 : decode cX11_carryAll 102 = .ok (.iaload, 1) := by decide +kernel
theorem dX11_carryAll_103 : decode cX11_carryAll 103 = .ok (.ifCond .le 9, 3) := by decide +kernel
theorem dX11_carryAll_106 : decode cX11_carryAll 106 = .ok (.iload_n 2, 1) := by decide +kernel
theorem dX11_carryAll_107 : decode cX11_carryAll 107 = .ok (.iconst 2, 1) := by decide +kernel
theorem dX11_carryAll_108 : decode cX11_carryAll 108 = .ok (.idiv, 1) := by decide +kernel
theorem dX11_carryAll_109 : decode cX11_carryAll 109 = .ok (.goto 9, 3) := by decide +kernel
theorem dX11_carryAll_112 : decode cX11_carryAll 112 = .ok (.aload_n 0, 1) := by decide +kernel
theorem dX11_carryAll_113 : decode cX11_carryAll 113 = .ok (.iload_n 1, 1) := by decide +kernel
theorem dX11_carryAll_114 : decode cX11_carryAll 114 = .ok (.iload_n 2, 1) := by decide +kernel
theorem dX11_carryAll_115 : decode cX11_carryAll 115 = .ok (.invokevirtual 246, 3) := by decide +kernel
theorem dX11_carryAll_118 : decode cX11_carryAll 118 = .ok (.istore_n 3, 1) := by decide +kernel
theorem dX11_carryAll_119 : decode cX11_carryAll 119 = .ok (.aload_n 0, 1) := by decide +kernel
theorem dX11_carryAll_120 : decode cX11_carryAll 120 = .ok (.getfield 120, 3) := by decide +kernel
theorem dX11_carryAll_123 : decode cX11_carryAll 123 = .ok (.iload_n 2, 1) := by decide +kernel
theorem dX11_carryAll_124 : decode cX11_carryAll 124 = .ok (.iaload, 1) := by decide +kernel
theorem dX11_carryAll_125 : decode cX11_carryAll 125 = .ok (.ifCond .le 12, 3) := by decide +kernel
theorem dX11_carryAll_128 : decode cX11_carryAll 128 = .ok (.aload_n 0, 1) := by decide +kernel
theorem dX11_carryAll_129 : decode cX11_carryAll 129 = .ok (.iload_n 1, 1) := by decide +kernel
theorem dX11_carryAll_130 : decode cX11_carryAll 130 = .ok (.iload_n 2, 1) := by decide +kernel
theorem dX11_carryAll_131 : decode cX11_carryAll 131 = .ok (.invokevirtual 246, 3) := by decide +kernel
theorem dX11_carryAll_134 : decode cX11_carryAll 134 = .ok (.goto 6, 3) := by decide +kernel
theorem dX11_carryAll_137 : decode cX11_carryAll 137 = .ok (.iload_n 2, 1) := by decide +kernel
theorem dX11_carryAll_138 : decode cX11_carryAll 138 = .ok (.iconst 2, 1) := by decide +kernel
theorem dX11_carryAll_139 : decode cX11_carryAll 139 = .ok (.idiv, 1) := by decide +kernel
theorem dX11_carryAll_140 : decode cX11_carryAll 140 = .ok (.istore 4, 2) := by decide +kernel
theorem dX11_carryAll_142 : decode cX11_carryAll 142 = .ok (.aload_n 0, 1) := by decide +kernel
theorem dX11_carryAll_143 : decode cX11_carryAll 143 = .ok (.getfield 120, 3) := by decide +kernel
theorem dX11_carryAll_146 : decode cX11_carryAll 146 = .ok (.iload_n 2, 1) := by decide +kernel
theorem dX11_carryAll_147 : decode cX11_carryAll 147 = .ok (.iaload, 1) := by decide +kernel
theorem dX11_carryAll_148 : decode cX11_carryAll 148 = .ok (.ifCond .le 12, 3) := by decide +kernel
theorem dX11_carryAll_151 : decode cX11_carryAll 151 = .ok (.aload_n 0, 1) := by decide +kernel
theorem dX11_carryAll_152 : decode cX11_carryAll 152 = .ok (.getfield 120, 3) := by decide +kernel
theorem dX11_carryAll_155 : decode cX11_carryAll 155 = .ok (.iload_n 2, 1) := by decide +kernel
theorem dX11_carryAll_156 : decode cX11_carryAll 156 = .ok (.iaload, 1) := by decide +kernel
theorem dX11_carryAll_157 : decode cX11_carryAll 157 = .ok (.goto 10, 3) := by decide +kernel
theorem dX11_carryAll_160 : decode cX11_carryAll 160 = .ok (.aload_n 0, 1) := by decide +kernel
theorem dX11_carryAll_161 : decode cX11_carryAll 161 = .ok (.getfield 120, 3) := by decide +kernel
theorem dX11_carryAll_164 : decode cX11_carryAll 164 = .ok (.iload_n 2, 1) := by decide +kernel
theorem dX11_carryAll_165 : decode cX11_carryAll 165 = .ok (.iaload, 1) := by decide +kernel
theorem dX11_carryAll_166 : decode cX11_carryAll 166 = .ok (.ineg, 1) := by decide +kernel
theorem dX11_carryAll_167 : decode cX11_carryAll 167 = .ok (.istore 5, 2) := by decide +kernel
theorem dX11_carryAll_169 : decode cX11_carryAll 169 = .ok (.aload_n 0, 1) := by decide +kernel
theorem dX11_carryAll_170 : decode cX11_carryAll 170 = .ok (.getfield 126, 3) := by decide +kernel
theorem dX11_carryAll_173 : decode cX11_carryAll 173 = .ok (.iload_n 3, 1) := by decide +kernel
theorem dX11_carryAll_174 : decode cX11_carryAll 174 = .ok (.dup2, 1) := by decide +kernel
theorem dX11_carryAll_175 : decode cX11_carryAll 175 = .ok (.iaload, 1) := by decide +kernel
theorem dX11_carryAll_176 : decode cX11_carryAll 176 = .ok (.iload 5, 2) := by decide +kernel
theorem dX11_carryAll_178 : decode cX11_carryAll 178 = .ok (.isub, 1) := by decide +kernel
theorem dX11_carryAll_179 : decode cX11_carryAll 179 = .ok (.iastore, 1) := by decide +kernel
theorem dX11_carryAll_180 : decode cX11_carryAll 180 = .ok (.aload_n 0, 1) := by decide +kernel
theorem dX11_carryAll_181 : decode cX11_carryAll 181 = .ok (.getfield 126, 3) := by decide +kernel
theorem dX11_carryAll_184 : decode cX11_carryAll 184 = .ok (.iload 4, 2) := by decide +kernel
theorem dX11_carryAll_186 : decode cX11_carryAll 186 = .ok (.dup2, 1) := by decide +kernel
theorem dX11_carryAll_187 : decode cX11_carryAll 187 = .ok (.iaload, 1) := by decide +kernel
theorem dX11_carryAll_188 : decode cX11_carryAll 188 = .ok (.iload 5, 2) := by decide +kernel
theorem dX11_carryAll_190 : decode cX11_carryAll 190 = .ok (.iadd, 1) := by decide +kernel
theorem dX11_carryAll_191 : decode cX11_carryAll 191 = .ok (.iastore, 1) := by decide +kernel
theorem dX11_carryAll_192 : decode cX11_carryAll 192 = .ok (.iconst 0, 1) := by decide +kernel
theorem dX11_carryAll_193 : decode cX11_carryAll 193 = .ok (.istore 6, 2) := by decide +kernel
theorem dX11_carryAll_195 : decode cX11_carryAll 195 = .ok (.iload 6, 2) := by decide +kernel
theorem dX11_carryAll_197 : decode cX11_carryAll 197 = .ok (.iconst 3, 1) := by decide +kernel
theorem dX11_carryAll_198 : decode cX11_carryAll 198 = .ok (.if_icmp .ge 83, 3) := by decide +kernel
theorem dX11_carryAll_201 : decode cX11_carryAll 201 = .ok (.aload_n 0, 1) := by decide +kernel
theorem dX11_carryAll_202 : decode cX11_carryAll 202 = .ok (.getfield 95, 3) := by decide +kernel
theorem dX11_carryAll_205 : decode cX11_carryAll 205 = .ok (.sipush 144, 3) := by decide +kernel
theorem dX11_carryAll_208 : decode cX11_carryAll 208 = .ok (.iload_n 1, 1) := by decide +kernel
theorem dX11_carryAll_209 : decode cX11_carryAll 209 = .ok (.imul, 1) := by decide +kernel
theorem dX11_carryAll_210 : decode cX11_carryAll 210 = .ok (.bipush 48, 2) := by decide +kernel
theorem dX11_carryAll_212 : decode cX11_carryAll 212 = .ok (.iload 6, 2) := by decide +kernel
theorem dX11_carryAll_214 : decode cX11_carryAll 214 = .ok (.imul, 1) := by decide +kernel
theorem dX11_carryAll_215 : decode cX11_carryAll 215 = .ok (.iadd, 1) := by decide +kernel
theorem dX11_carryAll_216 : decode cX11_carryAll 216 = .ok (.iload_n 3, 1) := by decide +kernel
theorem dX11_carryAll_217 : decode cX11_carryAll 217 = .ok (.iadd, 1) := by decide +kernel
theorem dX11_carryAll_218 : decode cX11_carryAll 218 = .ok (.iaload, 1) := by decide +kernel
theorem dX11_carryAll_219 : decode cX11_carryAll 219 = .ok (.i2l, 1) := by decide +kernel
theorem dX11_carryAll_220 : decode cX11_carryAll 220 = .ok (.iload 5, 2) := by decide +kernel
theorem dX11_carryAll_222 : decode cX11_carryAll 222 = .ok (.i2l, 1) := by decide +kernel
theorem dX11_carryAll_223 : decode cX11_carryAll 223 = .ok (.lmul, 1) := by decide +kernel
theorem dX11_carryAll_224 : decode cX11_carryAll 224 = .ok (.aload_n 0, 1) := by decide +kernel
theorem dX11_carryAll_225 : decode cX11_carryAll 225 = .ok (.getfield 92, 3) := by decide +kernel
theorem dX11_carryAll_228 : decode cX11_carryAll 228 = .ok (.bipush 48, 2) := by decide +kernel
theorem dX11_carryAll_230 : decode cX11_carryAll 230 = .ok (.iload_n 1, 1) := by decide +kernel
theorem dX11_carryAll_231 : decode cX11_carryAll 231 = .ok (.imul, 1) := by decide +kernel
theorem dX11_carryAll_232 : decode cX11_carryAll 232 = .ok (.iload_n 3, 1) := by decide +kernel
theorem dX11_carryAll_233 : decode cX11_carryAll 233 = .ok (.iadd, 1) := by decide +kernel
theorem dX11_carryAll_234 : decode cX11_carryAll 234 = .ok (.iaload, 1) := by decide +kernel
theorem dX11_carryAll_235 : decode cX11_carryAll 235 = .ok (.i2l, 1) := by decide +kernel
theorem dX11_carryAll_236 : decode cX11_carryAll 236 = .ok (.ldiv, 1) := by decide +kernel
theorem dX11_carryAll_237 : decode cX11_carryAll 237 = .ok (.l2i, 1) := by decide +kernel
theorem dX11_carryAll_238 : decode cX11_carryAll 238 = .ok (.istore 7, 2) := by decide +kernel
theorem dX11_carryAll_240 : decode cX11_carryAll 240 = .ok (.aload_n 0, 1) := by decide +kernel
theorem dX11_carryAll_241 : decode cX11_carryAll 241 = .ok (.getfield 129, 3) := by decide +kernel
theorem dX11_carryAll_244 : decode cX11_carryAll 244 = .ok (.bipush 48, 2) := by decide +kernel
theorem dX11_carryAll_246 : decode cX11_carryAll 246 = .ok (.iload 6, 2) := by decide +kernel
theorem dX11_carryAll_248 : decode cX11_carryAll 248 = .ok (.imul, 1) := by decide +kernel
theorem dX11_carryAll_249 : decode cX11_carryAll 249 = .ok (.iload_n 3, 1) := by decide +kernel
theorem dX11_carryAll_250 : decode cX11_carryAll 250 = .ok (.iadd, 1) := by decide +kernel
theorem dX11_carryAll_251 : decode cX11_carryAll 251 = .ok (.dup2, 1) := by decide +kernel
theorem dX11_carryAll_252 : decode cX11_carryAll 252 = .ok (.iaload, 1) := by decide +kernel
theorem dX11_carryAll_253 : decode cX11_carryAll 253 = .ok (.iload 7, 2) := by decide +kernel
theorem dX11_carryAll_255 : decode cX11_carryAll 255 = .ok (.isub, 1) := by decide +kernel
theorem dX11_carryAll_256 : decode cX11_carryAll 256 = .ok (.iastore, 1) := by decide +kernel
theorem dX11_carryAll_257 : decode cX11_carryAll 257 = .ok (.aload_n 0, 1) := by decide +kernel
theorem dX11_carryAll_258 : decode cX11_carryAll 258 = .ok (.getfield 129, 3) := by decide +kernel
theorem dX11_carryAll_261 : decode cX11_carryAll 261 = .ok (.bipush 48, 2) := by decide +kernel
theorem dX11_carryAll_263 : decode cX11_carryAll 263 = .ok (.iload 6, 2) := by decide +kernel
theorem dX11_carryAll_265 : decode cX11_carryAll 265 = .ok (.imul, 1) := by decide +kernel
theorem dX11_carryAll_266 : decode cX11_carryAll 266 = .ok (.iload 4, 2) := by decide +kernel
theorem dX11_carryAll_268 : decode cX11_carryAll 268 = .ok (.iadd, 1) := by decide +kernel
theorem dX11_carryAll_269 : decode cX11_carryAll 269 = .ok (.dup2, 1) := by decide +kernel
theorem dX11_carryAll_270 : decode cX11_carryAll 270 = .ok (.iaload, 1) := by decide +kernel
theorem dX11_carryAll_271 : decode cX11_carryAll 271 = .ok (.iload 7, 2) := by decide +kernel
theorem dX11_carryAll_273 : decode cX11_carryAll 273 = .ok (.iadd, 1) := by decide +kernel
theorem dX11_carryAll_274 : decode cX11_carryAll 274 = .ok (.iastore, 1) := by decide +kernel
theorem dX11_carryAll_275 : decode cX11_carryAll 275 = .ok (.iinc 6 1, 3) := by decide +kernel
theorem dX11_carryAll_278 : decode cX11_carryAll 278 = .ok (.goto (-83), 3) := by decide +kernel
theorem dX11_carryAll_281 : decode cX11_carryAll 281 = .ok (.iinc 2 1, 3) := by decide +kernel
theorem dX11_carryAll_284 : decode cX11_carryAll 284 = .ok (.goto (-207), 3) := by decide +kernel
theorem dX11_carryAll_287 : decode cX11_carryAll 287 = .ok (.return_, 1) := by decide +kernel
noncomputable def L_X11_carryAll_30 (x1 : Int32) (x2 : Int32) : Nat → Int32 → qM → (qM → Option (Unit × qM)) → Option (Unit × qM)
  | 0, _, _, _ => none
  | n + 1, x4, u4, e1 => if 3 ≤ x4 then e1 u4 else q_ck (q_in (((144 * x1) + (48 * x4)) + x2) 1152) (q_ck (q_in ((48 * x4) + x2) 144) (q_lt (q_si u4 104 0 (Int32.toNatClampNeg ((48 * x4) + x2)) (u4.1 93 0 (Int32.toNatClampNeg (((144 * x1) + (48 * x4)) + x2)))) (fun (u5 : qM) => q_lt (x4 + 1) (fun (x5 : Int32) => L_X11_carryAll_30 x1 x2 n x5 u5 e1))))
noncomputable def L_X11_carryAll_2 (x1 : Int32) : Nat → Int32 → qM → (qM → Option (Unit × qM)) → Option (Unit × qM)
  | 0, _, _, _ => none
  | n + 1, x2, u1, e1 => q_bd (f_X11_cells x1 u1) (fun (x3 : Int32) (u2 : qM) => if x3 ≤ x2 then e1 u2 else q_ck (q_in ((48 * x1) + x2) 384) (q_ck (q_in x2 48) (q_lt (q_si u2 103 0 (Int32.toNatClampNeg x2) (u2.1 92 0 (Int32.toNatClampNeg ((48 * x1) + x2)))) (fun (u3 : qM) => L_X11_carryAll_30 x1 x2 q_fu 0 u3 (fun u6 => q_lt (x2 + 1) (fun (x6 : Int32) => L_X11_carryAll_2 x1 n x6 u6 e1))))))
noncomputable def L_X11_carryAll_195 (x1 : Int32) (x7 : Int32) (x10 : Int32) (x11 : Int32) (x12 : Int32) : Nat → Int32 → qM → (qM → Option (Unit × qM)) → Option (Unit × qM)
  | 0, _, _, _ => none
  | n + 1, x13, u16, e1 => if 3 ≤ x13 then e1 u16 else q_ck (q_in (((144 * x1) + (48 * x13)) + x10) 1152) (q_ck (q_in ((48 * x1) + x10) 384) (q_ck (q_nzl (Int32.toInt64 (u16.1 92 0 (Int32.toNatClampNeg ((48 * x1) + x10))))) (q_lt (Int64.toInt32 (((Int32.toInt64 (u16.1 93 0 (Int32.toNatClampNeg (((144 * x1) + (48 * x13)) + x10)))) * (Int32.toInt64 x12)) / (Int32.toInt64 (u16.1 92 0 (Int32.toNatClampNeg ((48 * x1) + x10)))))) (fun (x14 : Int32) => q_lt ((48 * x13) + x10) (fun (x15 : Int32) => q_ck (q_in x15 144) (q_ck (q_in x15 144) (q_lt (q_si u16 104 0 (Int32.toNatClampNeg x15) ((u16.1 104 0 (Int32.toNatClampNeg x15)) - x14)) (fun (u17 : qM) => q_lt ((48 * x13) + x11) (fun (x16 : Int32) => q_ck (q_in x16 144) (q_ck (q_in x16 144) (q_lt (q_si u17 104 0 (Int32.toNatClampNeg x16) ((u17.1 104 0 (Int32.toNatClampNeg x16)) + x14)) (fun (u18 : qM) => q_lt (x13 + 1) (fun (x17 : Int32) => L_X11_carryAll_195 x1 x7 x10 x11 x12 n x17 u18 e1)))))))))))))
noncomputable def L_X11_carryAll_77 (x1 : Int32) : Nat → Int32 → qM → (qM → Option (Unit × qM)) → Option (Unit × qM)
  | 0, _, _, _ => none
  | n + 1, x7, u8, e1 => q_bd (f_X11_cells x1 u8) (fun (x8 : Int32) (u9 : qM) => if (2 * x8) ≤ x7 then e1 u9 else q_ck (q_in x7 96) (q_jn (fun  (u10 : qM) => q_lt (x7 + 1) (fun (x9 : Int32) => L_X11_carryAll_77 x1 n x9 u10 e1)) (fun j1 => if (u9.1 101 0 (Int32.toNatClampNeg x7)) = 0 then j1 u9 else q_ck (q_in x7 96) (q_jn (fun (x10 : Int32) (u11 : qM) => q_ck (q_in x7 96) (q_jn (fun (x11 : Int32) (u12 : qM) => q_ck (q_in x7 96) (q_jn (fun (x12 : Int32) (u13 : qM) => q_ck (q_in x10 48) (q_ck (q_in x10 48) (q_lt (q_si u13 103 0 (Int32.toNatClampNeg x10) ((u13.1 103 0 (Int32.toNatClampNeg x10)) - x12)) (fun (u14 : qM) => q_ck (q_in x11 48) (q_ck (q_in x11 48) (q_lt (q_si u14 103 0 (Int32.toNatClampNeg x11) ((u14.1 103 0 (Int32.toNatClampNeg x11)) + x12)) (fun (u15 : qM) => L_X11_carryAll_195 x1 x7 x10 x11 x12 q_fu 0 u15 (fun u19 => j1 u19)))))))) (fun j4 => if (u12.1 101 0 (Int32.toNatClampNeg x7)) ≤ 0 then q_ck (q_in x7 96) (j4 (-(u12.1 101 0 (Int32.toNatClampNeg x7))) u12) else q_ck (q_in x7 96) (j4 (u12.1 101 0 (Int32.toNatClampNeg x7)) u12)))) (fun j3 => if (u11.1 101 0 (Int32.toNatClampNeg x7)) ≤ 0 then j3 (x7 / 2) u11 else q_bd (f_X11_beyond x1 x7 u11) (fun (x18 : Int32) (u20 : qM) => j3 x18 u20)))) (fun j2 => if (u9.1 101 0 (Int32.toNatClampNeg x7)) ≤ 0 then q_bd (f_X11_beyond x1 x7 u9) (fun (x19 : Int32) (u21 : qM) => j2 x19 u21) else j2 (x7 / 2) u9)))))
noncomputable def f_X11_carryAll (x1 : Int32) (u0 : qM) : Option (Unit × qM) :=
  L_X11_carryAll_2 x1 q_fu 0 u0 (fun u7 => L_X11_carryAll_77 x1 q_fu 0 u7 (fun u22 => some ((), u22)))
set_option maxRecDepth 100000 in
set_option maxHeartbeats 4000000 in
theorem TL_X11_carryAll_30 (l : Launch) (G : qG) (x1 : Int32) (x2 : Int32)  (e1 : qM → Option (Unit × qM)) (he1 : ∀  (v : qM), qAW l G m_X11_carryAll (q_mq G q_cU) 69 [(0, .ref (q_ad G 11 0)), (1, .int x1), (2, .int x2)] [] v (e1 v)) : ∀ (n : Nat) (x4 : Int32) (u4 : qM), qAW l G m_X11_carryAll (q_mq G q_cU) 30 [(0, .ref (q_ad G 11 0)), (1, .int x1), (2, .int x2), (3, .int x4)] [] u4 (L_X11_carryAll_30 x1 x2 n x4 u4 e1) := by
  intro n
  induction n with
  | zero => intros; exact aw_none
  | succ n ih =>
    intro x4 u4
    unfold L_X11_carryAll_30
    refine aw_iload_n (i := 3) dX11_carryAll_30 31 rfl rfl 3 rfl ?_
    refine aw_iconst (x := 3) dX11_carryAll_31 32 rfl rfl ?_
    refine aw_icmp_ge dX11_carryAll_32 35 rfl 69 rfl (fun h4 => ?_) (fun h4 => ?_)
    · exact aw_conv [0, 1, 2] rfl (he1 u4)
    · refine aw_aload_n (i := 0) dX11_carryAll_35 36 rfl rfl 0 rfl ?_
      refine gf_X11_44 dX11_carryAll_36 39 rfl wd_286 (ok_11 (by decide)) ?_
      refine aw_bipush (x := 48) dX11_carryAll_39 41 rfl rfl ?_
      refine aw_iload_n (i := 3) dX11_carryAll_41 42 rfl rfl 3 rfl ?_
      refine aw_imul dX11_carryAll_42 43 rfl ?_
      refine aw_iload_n (i := 2) dX11_carryAll_43 44 rfl rfl 2 rfl ?_
      refine aw_iadd dX11_carryAll_44 45 rfl ?_
      refine aw_aload_n (i := 0) dX11_carryAll_45 46 rfl rfl 0 rfl ?_
      refine gf_X11_33 dX11_carryAll_46 49 rfl wd_269 (ok_11 (by decide)) ?_
      refine aw_sipush (x := 144) dX11_carryAll_49 52 rfl rfl ?_
      refine aw_iload_n (i := 1) dX11_carryAll_52 53 rfl rfl 1 rfl ?_
      refine aw_imul dX11_carryAll_53 54 rfl ?_
      refine aw_bipush (x := 48) dX11_carryAll_54 56 rfl rfl ?_
      refine aw_iload_n (i := 3) dX11_carryAll_56 57 rfl rfl 3 rfl ?_
      refine aw_imul dX11_carryAll_57 58 rfl ?_
      refine aw_iadd dX11_carryAll_58 59 rfl ?_
      refine aw_iload_n (i := 2) dX11_carryAll_59 60 rfl rfl 2 rfl ?_
      refine aw_iadd dX11_carryAll_60 61 rfl ?_
      refine aw_iald dX11_carryAll_61 62 rfl at_93 (al_93 _) (ok_93 (by decide)) (fun h5 => ?_)
      refine aw_iast dX11_carryAll_62 63 rfl at_104 (al_104 _) (ok_104 (by decide)) (fun h6 => ?_)
      refine aw_ltm (fun u5 => ?_)
      refine aw_iincx (i := 3) dX11_carryAll_63 66 rfl 3 rfl 1 rfl (fun x5 => [(3, .int x5), (0, .ref (q_ad G 11 0)), (1, .int x1), (2, .int x2)]) (by decide) (fun _ => rfl) (fun x5 => ?_)
      refine aw_goto dX11_carryAll_66 30 rfl ?_
      exact aw_conv [1, 2, 3, 0] rfl (ih x5 u5)
set_option maxRecDepth 100000 in
set_option maxHeartbeats 4000000 in
theorem TL_X11_carryAll_2 (l : Launch) (G : qG) (x1 : Int32)  (e1 : qM → Option (Unit × qM)) (he1 : ∀  (v : qM), qAW l G m_X11_carryAll (q_mq G q_cU) 75 [(0, .ref (q_ad G 11 0)), (1, .int x1)] [] v (e1 v)) : ∀ (n : Nat) (x2 : Int32) (u1 : qM), qAW l G m_X11_carryAll (q_mq G q_cU) 2 [(0, .ref (q_ad G 11 0)), (1, .int x1), (2, .int x2)] [] u1 (L_X11_carryAll_2 x1 n x2 u1 e1) := by
  intro n
  induction n with
  | zero => intros; exact aw_none
  | succ n ih =>
    intro x2 u1
    unfold L_X11_carryAll_2
    refine aw_iload_n (i := 2) dX11_carryAll_2 3 rfl rfl 2 rfl ?_
    refine aw_aload_n (i := 0) dX11_carryAll_3 4 rfl rfl 0 rfl ?_
    refine aw_iload_n (i := 1) dX11_carryAll_4 5 rfl rfl 1 rfl ?_
    refine aw_callV (M2 := m_X11_cells) (cv := q_cI) dX11_carryAll_5 8 rfl (k_X11_cells l G x1  u1) wd_251 wv_X11_cells pk_X11_cells rfl rfl ⟨by decide, by decide⟩ ⟨Nat.zero_le _, Nat.zero_le _⟩ at_11 (ok_11 (by decide)) rfl rfl rfl (Nat.le_of_ble_eq_true rfl) (fun x3 u2 => ?_)
    show qAW l G m_X11_carryAll (q_mq G q_cU) 8 [(0, .ref (q_ad G 11 0)), (1, .int x1), (2, .int x2)] [.int x3, .int x2] u2 _
    refine aw_icmp_ge dX11_carryAll_8 11 rfl 75 rfl (fun h1 => ?_) (fun h1 => ?_)
    · exact aw_conv [0, 1] rfl (he1 u2)
    · refine aw_aload_n (i := 0) dX11_carryAll_11 12 rfl rfl 0 rfl ?_
      refine gf_X11_43 dX11_carryAll_12 15 rfl wd_285 (ok_11 (by decide)) ?_
      refine aw_iload_n (i := 2) dX11_carryAll_15 16 rfl rfl 2 rfl ?_
      refine aw_aload_n (i := 0) dX11_carryAll_16 17 rfl rfl 0 rfl ?_
      refine gf_X11_32 dX11_carryAll_17 20 rfl wd_249 (ok_11 (by decide)) ?_
      refine aw_bipush (x := 48) dX11_carryAll_20 22 rfl rfl ?_
      refine aw_iload_n (i := 1) dX11_carryAll_22 23 rfl rfl 1 rfl ?_
      refine aw_imul dX11_carryAll_23 24 rfl ?_
      refine aw_iload_n (i := 2) dX11_carryAll_24 25 rfl rfl 2 rfl ?_
      refine aw_iadd dX11_carryAll_25 26 rfl ?_
      refine aw_iald dX11_carryAll_26 27 rfl at_92 (al_92 _) (ok_92 (by decide)) (fun h2 => ?_)
      refine aw_iast dX11_carryAll_27 28 rfl at_103 (al_103 _) (ok_103 (by decide)) (fun h3 => ?_)
      refine aw_ltm (fun u3 => ?_)
      refine aw_iconst (x := 0) dX11_carryAll_28 29 rfl rfl ?_
      refine aw_istore_n dX11_carryAll_29 30 rfl rfl [(3, .int 0), (0, .ref (q_ad G 11 0)), (1, .int x1), (2, .int x2)] (by decide) rfl ?_
      refine aw_conv [1, 2, 3, 0] rfl (TL_X11_carryAll_30 l G x1 x2  _ ?_ _ 0 u3)
      · intro u6
        refine aw_iincx (i := 2) dX11_carryAll_69 72 rfl 2 rfl 1 rfl (fun x6 => [(2, .int x6), (0, .ref (q_ad G 11 0)), (1, .int x1)]) (by decide) (fun _ => rfl) (fun x6 => ?_)
        refine aw_goto dX11_carryAll_72 2 rfl ?_
        exact aw_conv [1, 2, 0] rfl (ih x6 u6)
set_option maxRecDepth 100000 in
set_option maxHeartbeats 4000000 in
theorem TL_X11_carryAll_195 (l : Launch) (G : qG) (x1 : Int32) (x7 : Int32) (x10 : Int32) (x11 : Int32) (x12 : Int32)  (e1 : qM → Option (Unit × qM)) (he1 : ∀  (v : qM), qAW l G m_X11_carryAll (q_mq G q_cU) 281 [(0, .ref (q_ad G 11 0)), (1, .int x1), (2, .int x7)] [] v (e1 v)) : ∀ (n : Nat) (x13 : Int32) (u16 : qM), qAW l G m_X11_carryAll (q_mq G q_cU) 195 [(0, .ref (q_ad G 11 0)), (1, .int x1), (2, .int x7), (3, .int x10), (4, .int x11), (5, .int x12), (6, .int x13)] [] u16 (L_X11_carryAll_195 x1 x7 x10 x11 x12 n x13 u16 e1) := by
  intro n
  induction n with
  | zero => intros; exact aw_none
  | succ n ih =>
    intro x13 u16
    unfold L_X11_carryAll_195
    refine aw_iload (i := 6) dX11_carryAll_195 197 rfl 6 rfl ?_
    refine aw_iconst (x := 3) dX11_carryAll_197 198 rfl rfl ?_
    refine aw_icmp_ge dX11_carryAll_198 201 rfl 281 rfl (fun h20 => ?_) (fun h20 => ?_)
    · exact aw_conv [0, 1, 2] rfl (he1 u16)
    · refine aw_aload_n (i := 0) dX11_carryAll_201 202 rfl rfl 0 rfl ?_
      refine gf_X11_33 dX11_carryAll_202 205 rfl wd_269 (ok_11 (by decide)) ?_
      refine aw_sipush (x := 144) dX11_carryAll_205 208 rfl rfl ?_
      refine aw_iload_n (i := 1) dX11_carryAll_208 209 rfl rfl 1 rfl ?_
      refine aw_imul dX11_carryAll_209 210 rfl ?_
      refine aw_bipush (x := 48) dX11_carryAll_210 212 rfl rfl ?_
      refine aw_iload (i := 6) dX11_carryAll_212 214 rfl 6 rfl ?_
      refine aw_imul dX11_carryAll_214 215 rfl ?_
      refine aw_iadd dX11_carryAll_215 216 rfl ?_
      refine aw_iload_n (i := 3) dX11_carryAll_216 217 rfl rfl 3 rfl ?_
      refine aw_iadd dX11_carryAll_217 218 rfl ?_
      refine aw_iald dX11_carryAll_218 219 rfl at_93 (al_93 _) (ok_93 (by decide)) (fun h21 => ?_)
      refine aw_i2l dX11_carryAll_219 220 rfl ?_
      refine aw_iload (i := 5) dX11_carryAll_220 222 rfl 5 rfl ?_
      refine aw_i2l dX11_carryAll_222 223 rfl ?_
      refine aw_lmul dX11_carryAll_223 224 rfl ?_
      refine aw_aload_n (i := 0) dX11_carryAll_224 225 rfl rfl 0 rfl ?_
      refine gf_X11_32 dX11_carryAll_225 228 rfl wd_249 (ok_11 (by decide)) ?_
      refine aw_bipush (x := 48) dX11_carryAll_228 230 rfl rfl ?_
      refine aw_iload_n (i := 1) dX11_carryAll_230 231 rfl rfl 1 rfl ?_
      refine aw_imul dX11_carryAll_231 232 rfl ?_
      refine aw_iload_n (i := 3) dX11_carryAll_232 233 rfl rfl 3 rfl ?_
      refine aw_iadd dX11_carryAll_233 234 rfl ?_
      refine aw_iald dX11_carryAll_234 235 rfl at_92 (al_92 _) (ok_92 (by decide)) (fun h22 => ?_)
      refine aw_i2l dX11_carryAll_235 236 rfl ?_
      refine aw_ck (fun h23 => ?_)
      refine aw_ldiv dX11_carryAll_236 237 rfl (of_decide_eq_true h23) ?_
      refine aw_l2i dX11_carryAll_237 238 rfl ?_
      refine aw_lti (fun x14 => ?_)
      refine aw_istore dX11_carryAll_238 240 rfl [(7, .int x14), (0, .ref (q_ad G 11 0)), (1, .int x1), (2, .int x7), (3, .int x10), (4, .int x11), (5, .int x12), (6, .int x13)] (by decide) rfl ?_
      refine aw_aload_n (i := 0) dX11_carryAll_240 241 rfl rfl 1 rfl ?_
      refine gf_X11_44 dX11_carryAll_241 244 rfl wd_286 (ok_11 (by decide)) ?_
      refine aw_bipush (x := 48) dX11_carryAll_244 246 rfl rfl ?_
      refine aw_iload (i := 6) dX11_carryAll_246 248 rfl 7 rfl ?_
      refine aw_imul dX11_carryAll_248 249 rfl ?_
      refine aw_iload_n (i := 3) dX11_carryAll_249 250 rfl rfl 4 rfl ?_
      refine aw_iadd dX11_carryAll_250 251 rfl ?_
      refine aw_lti (fun x15 => ?_)
      refine aw_dup2 dX11_carryAll_251 252 rfl rfl rfl ?_
      refine aw_iald dX11_carryAll_252 253 rfl at_104 (al_104 _) (ok_104 (by decide)) (fun h24 => ?_)
      refine aw_iload (i := 7) dX11_carryAll_253 255 rfl 0 rfl ?_
      refine aw_isub dX11_carryAll_255 256 rfl ?_
      refine aw_iast dX11_carryAll_256 257 rfl at_104 (al_104 _) (ok_104 (by decide)) (fun h25 => ?_)
      refine aw_ltm (fun u17 => ?_)
      refine aw_aload_n (i := 0) dX11_carryAll_257 258 rfl rfl 1 rfl ?_
      refine gf_X11_44 dX11_carryAll_258 261 rfl wd_286 (ok_11 (by decide)) ?_
      refine aw_bipush (x := 48) dX11_carryAll_261 263 rfl rfl ?_
      refine aw_iload (i := 6) dX11_carryAll_263 265 rfl 7 rfl ?_
      refine aw_imul dX11_carryAll_265 266 rfl ?_
      refine aw_iload (i := 4) dX11_carryAll_266 268 rfl 5 rfl ?_
      refine aw_iadd dX11_carryAll_268 269 rfl ?_
      refine aw_lti (fun x16 => ?_)
      refine aw_dup2 dX11_carryAll_269 270 rfl rfl rfl ?_
      refine aw_iald dX11_carryAll_270 271 rfl at_104 (al_104 _) (ok_104 (by decide)) (fun h26 => ?_)
      refine aw_iload (i := 7) dX11_carryAll_271 273 rfl 0 rfl ?_
      refine aw_iadd dX11_carryAll_273 274 rfl ?_
      refine aw_iast dX11_carryAll_274 275 rfl at_104 (al_104 _) (ok_104 (by decide)) (fun h27 => ?_)
      refine aw_ltm (fun u18 => ?_)
      refine aw_iincx (i := 6) dX11_carryAll_275 278 rfl 7 rfl 1 rfl (fun x17 => [(6, .int x17), (7, .int x14), (0, .ref (q_ad G 11 0)), (1, .int x1), (2, .int x7), (3, .int x10), (4, .int x11), (5, .int x12)]) (by decide) (fun _ => rfl) (fun x17 => ?_)
      refine aw_goto dX11_carryAll_278 195 rfl ?_
      exact aw_conv [2, 3, 4, 5, 6, 7, 0] rfl (ih x17 u18)
set_option maxRecDepth 100000 in
set_option maxHeartbeats 4000000 in
theorem TL_X11_carryAll_77 (l : Launch) (G : qG) (x1 : Int32)  (e1 : qM → Option (Unit × qM)) (he1 : ∀  (v : qM), qAW l G m_X11_carryAll (q_mq G q_cU) 287 [] [] v (e1 v)) : ∀ (n : Nat) (x7 : Int32) (u8 : qM), qAW l G m_X11_carryAll (q_mq G q_cU) 77 [(0, .ref (q_ad G 11 0)), (1, .int x1), (2, .int x7)] [] u8 (L_X11_carryAll_77 x1 n x7 u8 e1) := by
  intro n
  induction n with
  | zero => intros; exact aw_none
  | succ n ih =>
    intro x7 u8
    unfold L_X11_carryAll_77
    refine aw_iload_n (i := 2) dX11_carryAll_77 78 rfl rfl 2 rfl ?_
    refine aw_iconst (x := 2) dX11_carryAll_78 79 rfl rfl ?_
    refine aw_aload_n (i := 0) dX11_carryAll_79 80 rfl rfl 0 rfl ?_
    refine aw_iload_n (i := 1) dX11_carryAll_80 81 rfl rfl 1 rfl ?_
    refine aw_callV (M2 := m_X11_cells) (cv := q_cI) dX11_carryAll_81 84 rfl (k_X11_cells l G x1  u8) wd_251 wv_X11_cells pk_X11_cells rfl rfl ⟨by decide, by decide⟩ ⟨Nat.zero_le _, Nat.zero_le _⟩ at_11 (ok_11 (by decide)) rfl rfl rfl (Nat.le_of_ble_eq_true rfl) (fun x8 u9 => ?_)
    show qAW l G m_X11_carryAll (q_mq G q_cU) 84 [(0, .ref (q_ad G 11 0)), (1, .int x1), (2, .int x7)] [.int x8, .int 2, .int x7] u9 _
    refine aw_imul dX11_carryAll_84 85 rfl ?_
    refine aw_icmp_ge dX11_carryAll_85 88 rfl 287 rfl (fun h7 => ?_) (fun h7 => ?_)
    · exact aw_conv [] rfl (he1 u9)
    · refine aw_aload_n (i := 0) dX11_carryAll_88 89 rfl rfl 0 rfl ?_
      refine gf_X11_41 dX11_carryAll_89 92 rfl wd_283 (ok_11 (by decide)) ?_
      refine aw_iload_n (i := 2) dX11_carryAll_92 93 rfl rfl 2 rfl ?_
      refine aw_iald dX11_carryAll_93 94 rfl at_101 (al_101 _) (ok_101 (by decide)) (fun h8 => ?_)
      refine aw_jn (fun k => ∀  (u10 : qM), qAW l G m_X11_carryAll (q_mq G q_cU) 281 [(0, .ref (q_ad G 11 0)), (1, .int x1), (2, .int x7)] [] u10 (k u10)) ?_ ?_
      · intro u10
        refine aw_iincx (i := 2) dX11_carryAll_281 284 rfl 2 rfl 1 rfl (fun x9 => [(2, .int x9), (0, .ref (q_ad G 11 0)), (1, .int x1)]) (by decide) (fun _ => rfl) (fun x9 => ?_)
        refine aw_goto dX11_carryAll_284 77 rfl ?_
        exact aw_conv [1, 2, 0] rfl (ih x9 u10)
      · intro j1 hj1
        refine aw_if_eq dX11_carryAll_94 97 rfl 281 rfl (fun h9 => ?_) (fun h9 => ?_)
        · exact hj1 u9
        · refine aw_aload_n (i := 0) dX11_carryAll_97 98 rfl rfl 0 rfl ?_
          refine gf_X11_41 dX11_carryAll_98 101 rfl wd_283 (ok_11 (by decide)) ?_
          refine aw_iload_n (i := 2) dX11_carryAll_101 102 rfl rfl 2 rfl ?_
          refine aw_iald dX11_carryAll_102 103 rfl at_101 (al_101 _) (ok_101 (by decide)) (fun h10 => ?_)
          refine aw_jn (fun k => ∀ (x10 : Int32) (u11 : qM), qAW l G m_X11_carryAll (q_mq G q_cU) 118 [(0, .ref (q_ad G 11 0)), (1, .int x1), (2, .int x7)] [.int x10] u11 (k x10 u11)) ?_ ?_
          · intro x10 u11
            refine aw_istore_n dX11_carryAll_118 119 rfl rfl [(3, .int x10), (0, .ref (q_ad G 11 0)), (1, .int x1), (2, .int x7)] (by decide) rfl ?_
            refine aw_aload_n (i := 0) dX11_carryAll_119 120 rfl rfl 1 rfl ?_
            refine gf_X11_41 dX11_carryAll_120 123 rfl wd_283 (ok_11 (by decide)) ?_
            refine aw_iload_n (i := 2) dX11_carryAll_123 124 rfl rfl 3 rfl ?_
            refine aw_iald dX11_carryAll_124 125 rfl at_101 (al_101 _) (ok_101 (by decide)) (fun h12 => ?_)
            refine aw_jn (fun k => ∀ (x11 : Int32) (u12 : qM), qAW l G m_X11_carryAll (q_mq G q_cU) 140 [(0, .ref (q_ad G 11 0)), (1, .int x1), (2, .int x7), (3, .int x10)] [.int x11] u12 (k x11 u12)) ?_ ?_
            · intro x11 u12
              refine aw_istore dX11_carryAll_140 142 rfl [(4, .int x11), (0, .ref (q_ad G 11 0)), (1, .int x1), (2, .int x7), (3, .int x10)] (by decide) rfl ?_
              refine aw_aload_n (i := 0) dX11_carryAll_142 143 rfl rfl 1 rfl ?_
              refine gf_X11_41 dX11_carryAll_143 146 rfl wd_283 (ok_11 (by decide)) ?_
              refine aw_iload_n (i := 2) dX11_carryAll_146 147 rfl rfl 3 rfl ?_
              refine aw_iald dX11_carryAll_147 148 rfl at_101 (al_101 _) (ok_101 (by decide)) (fun h14 => ?_)
              refine aw_jn (fun k => ∀ (x12 : Int32) (u13 : qM), qAW l G m_X11_carryAll (q_mq G q_cU) 167 [(0, .ref (q_ad G 11 0)), (1, .int x1), (2, .int x7), (3, .int x10), (4, .int x11)] [.int x12] u13 (k x12 u13)) ?_ ?_
              · intro x12 u13
                refine aw_istore dX11_carryAll_167 169 rfl [(5, .int x12), (0, .ref (q_ad G 11 0)), (1, .int x1), (2, .int x7), (3, .int x10), (4, .int x11)] (by decide) rfl ?_
                refine aw_aload_n (i := 0) dX11_carryAll_169 170 rfl rfl 1 rfl ?_
                refine gf_X11_43 dX11_carryAll_170 173 rfl wd_285 (ok_11 (by decide)) ?_
                refine aw_iload_n (i := 3) dX11_carryAll_173 174 rfl rfl 4 rfl ?_
                refine aw_dup2 dX11_carryAll_174 175 rfl rfl rfl ?_
                refine aw_iald dX11_carryAll_175 176 rfl at_103 (al_103 _) (ok_103 (by decide)) (fun h16 => ?_)
                refine aw_iload (i := 5) dX11_carryAll_176 178 rfl 0 rfl ?_
                refine aw_isub dX11_carryAll_178 179 rfl ?_
                refine aw_iast dX11_carryAll_179 180 rfl at_103 (al_103 _) (ok_103 (by decide)) (fun h17 => ?_)
                refine aw_ltm (fun u14 => ?_)
                refine aw_aload_n (i := 0) dX11_carryAll_180 181 rfl rfl 1 rfl ?_
                refine gf_X11_43 dX11_carryAll_181 184 rfl wd_285 (ok_11 (by decide)) ?_
                refine aw_iload (i := 4) dX11_carryAll_184 186 rfl 5 rfl ?_
                refine aw_dup2 dX11_carryAll_186 187 rfl rfl rfl ?_
                refine aw_iald dX11_carryAll_187 188 rfl at_103 (al_103 _) (ok_103 (by decide)) (fun h18 => ?_)
                refine aw_iload (i := 5) dX11_carryAll_188 190 rfl 0 rfl ?_
                refine aw_iadd dX11_carryAll_190 191 rfl ?_
                refine aw_iast dX11_carryAll_191 192 rfl at_103 (al_103 _) (ok_103 (by decide)) (fun h19 => ?_)
                refine aw_ltm (fun u15 => ?_)
                refine aw_iconst (x := 0) dX11_carryAll_192 193 rfl rfl ?_
                refine aw_istore dX11_carryAll_193 195 rfl [(6, .int 0), (5, .int x12), (0, .ref (q_ad G 11 0)), (1, .int x1), (2, .int x7), (3, .int x10), (4, .int x11)] (by decide) rfl ?_
                refine aw_conv [2, 3, 4, 5, 6, 1, 0] rfl (TL_X11_carryAll_195 l G x1 x7 x10 x11 x12  _ ?_ _ 0 u15)
                · intro u19
                  exact hj1 u19
              · intro j4 hj4
                refine aw_if_le dX11_carryAll_148 151 rfl 160 rfl (fun h15 => ?_) (fun h15 => ?_)
                · refine aw_aload_n (i := 0) dX11_carryAll_160 161 rfl rfl 1 rfl ?_
                  refine gf_X11_41 dX11_carryAll_161 164 rfl wd_283 (ok_11 (by decide)) ?_
                  refine aw_iload_n (i := 2) dX11_carryAll_164 165 rfl rfl 3 rfl ?_
                  refine aw_iald dX11_carryAll_165 166 rfl at_101 (al_101 _) (ok_101 (by decide)) (fun h28 => ?_)
                  refine aw_ineg dX11_carryAll_166 167 rfl ?_
                  exact aw_conv [1, 2, 3, 4, 0] rfl (hj4 (-(u12.1 101 0 (Int32.toNatClampNeg x7))) u12)
                · refine aw_aload_n (i := 0) dX11_carryAll_151 152 rfl rfl 1 rfl ?_
                  refine gf_X11_41 dX11_carryAll_152 155 rfl wd_283 (ok_11 (by decide)) ?_
                  refine aw_iload_n (i := 2) dX11_carryAll_155 156 rfl rfl 3 rfl ?_
                  refine aw_iald dX11_carryAll_156 157 rfl at_101 (al_101 _) (ok_101 (by decide)) (fun h29 => ?_)
                  refine aw_goto dX11_carryAll_157 167 rfl ?_
                  exact aw_conv [1, 2, 3, 4, 0] rfl (hj4 (u12.1 101 0 (Int32.toNatClampNeg x7)) u12)
            · intro j3 hj3
              refine aw_if_le dX11_carryAll_125 128 rfl 137 rfl (fun h13 => ?_) (fun h13 => ?_)
              · refine aw_iload_n (i := 2) dX11_carryAll_137 138 rfl rfl 3 rfl ?_
                refine aw_iconst (x := 2) dX11_carryAll_138 139 rfl rfl ?_
                refine aw_idiv dX11_carryAll_139 140 rfl (by decide) ?_
                exact aw_conv [1, 2, 3, 0] rfl (hj3 (x7 / 2) u11)
              · refine aw_aload_n (i := 0) dX11_carryAll_128 129 rfl rfl 1 rfl ?_
                refine aw_iload_n (i := 1) dX11_carryAll_129 130 rfl rfl 2 rfl ?_
                refine aw_iload_n (i := 2) dX11_carryAll_130 131 rfl rfl 3 rfl ?_
                refine aw_callV (M2 := m_X11_beyond) (cv := q_cI) dX11_carryAll_131 134 rfl (k_X11_beyond l G x1 x7  u11) wd_277 wv_X11_beyond pk_X11_beyond rfl rfl ⟨by decide, by decide⟩ ⟨Nat.zero_le _, Nat.zero_le _⟩ at_11 (ok_11 (by decide)) rfl rfl rfl (Nat.le_of_ble_eq_true rfl) (fun x18 u20 => ?_)
                show qAW l G m_X11_carryAll (q_mq G q_cU) 134 [(3, .int x10), (0, .ref (q_ad G 11 0)), (1, .int x1), (2, .int x7)] [.int x18] u20 _
                refine aw_goto dX11_carryAll_134 140 rfl ?_
                exact aw_conv [1, 2, 3, 0] rfl (hj3 x18 u20)
          · intro j2 hj2
            refine aw_if_le dX11_carryAll_103 106 rfl 112 rfl (fun h11 => ?_) (fun h11 => ?_)
            · refine aw_aload_n (i := 0) dX11_carryAll_112 113 rfl rfl 0 rfl ?_
              refine aw_iload_n (i := 1) dX11_carryAll_113 114 rfl rfl 1 rfl ?_
              refine aw_iload_n (i := 2) dX11_carryAll_114 115 rfl rfl 2 rfl ?_
              refine aw_callV (M2 := m_X11_beyond) (cv := q_cI) dX11_carryAll_115 118 rfl (k_X11_beyond l G x1 x7  u9) wd_277 wv_X11_beyond pk_X11_beyond rfl rfl ⟨by decide, by decide⟩ ⟨Nat.zero_le _, Nat.zero_le _⟩ at_11 (ok_11 (by decide)) rfl rfl rfl (Nat.le_of_ble_eq_true rfl) (fun x19 u21 => ?_)
              show qAW l G m_X11_carryAll (q_mq G q_cU) 118 [(0, .ref (q_ad G 11 0)), (1, .int x1), (2, .int x7)] [.int x19] u21 _
              exact hj2 x19 u21
            · refine aw_iload_n (i := 2) dX11_carryAll_106 107 rfl rfl 2 rfl ?_
              refine aw_iconst (x := 2) dX11_carryAll_107 108 rfl rfl ?_
              refine aw_idiv dX11_carryAll_108 109 rfl (by decide) ?_
              refine aw_goto dX11_carryAll_109 118 rfl ?_
              exact hj2 (x7 / 2) u9
set_option maxRecDepth 100000 in
set_option maxHeartbeats 4000000 in
theorem k_X11_carryAll (l : Launch) (G : qG) (x1 : Int32)  (u0 : qM) : qCt l G m_X11_carryAll q_cU [.ref (q_ad G 11 0), .int x1] u0 (f_X11_carryAll x1 u0) := by
  refine q_entry pk_X11_carryAll (Nat.le_of_ble_eq_true rfl) ?_
  show qAW l G m_X11_carryAll (q_mq G q_cU) 0 [(0, .ref (q_ad G 11 0)), (1, .int x1)] [] u0 (f_X11_carryAll x1 u0)
  unfold f_X11_carryAll
  refine aw_iconst (x := 0) dX11_carryAll_0 1 rfl rfl ?_
  refine aw_istore_n dX11_carryAll_1 2 rfl rfl [(2, .int 0), (0, .ref (q_ad G 11 0)), (1, .int x1)] (by decide) rfl ?_
  refine aw_conv [1, 2, 0] rfl (TL_X11_carryAll_2 l G x1  _ ?_ _ 0 u0)
  · intro u7
    refine aw_iconst (x := 0) dX11_carryAll_75 76 rfl rfl ?_
    refine aw_istore_n dX11_carryAll_76 77 rfl rfl [(2, .int 0), (0, .ref (q_ad G 11 0)), (1, .int x1)] (by decide) rfl ?_
    refine aw_conv [1, 2, 0] rfl (TL_X11_carryAll_77 l G x1  _ ?_ _ 0 u7)
    · intro u22
      exact aw_vret dX11_carryAll_287 rfl
theorem dX11_hasTide_0 : decode cX11_hasTide 0 = .ok (.aload_n 0, 1) := by decide +kernel
theorem dX11_hasTide_1 : decode cX11_hasTide 1 = .ok (.iload_n 1, 1) := by decide +kernel
theorem dX11_hasTide_2 : decode cX11_hasTide 2 = .ok (.invokevirtual 252, 3) := by decide +kernel
theorem dX11_hasTide_5 : decode cX11_hasTide 5 = .ok (.ifCond .eq 30, 3) := by decide +kernel
theorem dX11_hasTide_8 : decode cX11_hasTide 8 = .ok (.aload_n 0, 1) := by decide +kernel
theorem dX11_hasTide_9 : decode cX11_hasTide 9 = .ok (.getfield 68, 3) := by decide +kernel
theorem dX11_hasTide_12 : decode cX11_hasTide 12 = .ok (.iload_n 1, 1) := by decide +kernel
theorem dX11_hasTide_13 : decode cX11_hasTide 13 = .ok (.iaload, 1) := by decide +kernel
theorem dX11_hasTide_14 : decode cX11_hasTide 14 = .ok (.ifCond .lt 21, 3) := by decide +kernel
theorem dX11_hasTide_17 : decode cX11_hasTide 17 = .ok (.aload_n 0, 1) := by decide +kernel
theorem dX11_hasTide_18 : decode cX11_hasTide 18 = .ok (.getfield 17, 3) := by decide +kernel
theorem dX11_hasTide_21 : decode cX11_hasTide 21 = .ok (.aload_n 0, 1) := by decide +kernel
theorem dX11_hasTide_22 : decode cX11_hasTide 22 = .ok (.getfield 68, 3) := by decide +kernel
theorem dX11_hasTide_25 : decode cX11_hasTide 25 = .ok (.iload_n 1, 1) := by decide +kernel
theorem dX11_hasTide_26 : decode cX11_hasTide 26 = .ok (.iaload, 1) := by decide +kernel
theorem dX11_hasTide_27 : decode cX11_hasTide 27 = .ok (.iaload, 1) := by decide +kernel
theorem dX11_hasTide_28 : decode cX11_hasTide 28 = .ok (.ifCond .le 7, 3) := by decide +kernel
theorem dX11_hasTide_31 : decode cX11_hasTide 31 = .ok (.iconst 1, 1) := by decide +kernel
theorem dX11_hasTide_32 : decode cX11_hasTide 32 = .ok (.goto 4, 3) := by decide +kernel
theorem dX11_hasTide_35 : decode cX11_hasTide 35 = .ok (.iconst 0, 1) := by decide +kernel
theorem dX11_hasTide_36 : decode cX11_hasTide 36 = .ok (.ireturn, 1) := by decide +kernel
noncomputable def f_X11_hasTide (x1 : Int32) (u0 : qM) : Option (Int32 × qM) :=
  q_bd (f_X11_isTidal x1 u0) (fun (x2 : Int32) (u1 : qM) => q_jn (fun (x3 : Int32) (u2 : qM) => q_ck (q_b x3) (some (x3, u2))) (fun j1 => q_jn (fun  (u3 : qM) => j1 0 u3) (fun j2 => if x2 = 0 then j2 u1 else q_ck (q_in x1 8) (if (u1.1 84 0 (Int32.toNatClampNeg x1)) < 0 then j2 u1 else q_ck (q_in x1 8) (q_ck (q_in (u1.1 84 0 (Int32.toNatClampNeg x1)) 6) (if (u1.1 66 0 (Int32.toNatClampNeg (u1.1 84 0 (Int32.toNatClampNeg x1)))) ≤ 0 then j2 u1 else j1 1 u1))))))
set_option maxRecDepth 100000 in
set_option maxHeartbeats 4000000 in
theorem k_X11_hasTide (l : Launch) (G : qG) (x1 : Int32)  (u0 : qM) : qCt l G m_X11_hasTide q_cI [.ref (q_ad G 11 0), .int x1] u0 (f_X11_hasTide x1 u0) := by
  refine q_entry pk_X11_hasTide (Nat.le_of_ble_eq_true rfl) ?_
  show qAW l G m_X11_hasTide (q_mq G q_cI) 0 [(0, .ref (q_ad G 11 0)), (1, .int x1)] [] u0 (f_X11_hasTide x1 u0)
  unfold f_X11_hasTide
  refine aw_aload_n (i := 0) dX11_hasTide_0 1 rfl rfl 0 rfl ?_
  refine aw_iload_n (i := 1) dX11_hasTide_1 2 rfl rfl 1 rfl ?_
  refine aw_callV (M2 := m_X11_isTidal) (cv := q_cI) dX11_hasTide_2 5 rfl (k_X11_isTidal l G x1  u0) wd_281 wv_X11_isTidal pk_X11_isTidal rfl rfl ⟨by decide, by decide⟩ ⟨Nat.zero_le _, Nat.zero_le _⟩ at_11 (ok_11 (by decide)) rfl rfl rfl (Nat.le_of_ble_eq_true rfl) (fun x2 u1 => ?_)
  show qAW l G m_X11_hasTide (q_mq G q_cI) 5 [(0, .ref (q_ad G 11 0)), (1, .int x1)] [.int x2] u1 _
  refine aw_jn (fun k => ∀ (x3 : Int32) (u2 : qM), qAW l G m_X11_hasTide (q_mq G q_cI) 36 [] [.int x3] u2 (k x3 u2)) ?_ ?_
  · intro x3 u2
    refine aw_ck (fun h2 => ?_)
    exact aw_zret dX11_hasTide_36 rfl h2
  · intro j1 hj1
    refine aw_jn (fun k => ∀  (u3 : qM), qAW l G m_X11_hasTide (q_mq G q_cI) 35 [] [] u3 (k u3)) ?_ ?_
    · intro u3
      refine aw_iconst (x := 0) dX11_hasTide_35 36 rfl rfl ?_
      exact hj1 0 u3
    · intro j2 hj2
      refine aw_if_eq dX11_hasTide_5 8 rfl 35 rfl (fun h1 => ?_) (fun h1 => ?_)
      · exact aw_conv [] rfl (hj2 u1)
      · refine aw_aload_n (i := 0) dX11_hasTide_8 9 rfl rfl 0 rfl ?_
        refine gf_X11_24 dX11_hasTide_9 12 rfl wd_263 (ok_11 (by decide)) ?_
        refine aw_iload_n (i := 1) dX11_hasTide_12 13 rfl rfl 1 rfl ?_
        refine aw_iald dX11_hasTide_13 14 rfl at_84 (al_84 _) (ok_84 (by decide)) (fun h3 => ?_)
        refine aw_if_lt dX11_hasTide_14 17 rfl 35 rfl (fun h4 => ?_) (fun h4 => ?_)
        · exact aw_conv [] rfl (hj2 u1)
        · refine aw_aload_n (i := 0) dX11_hasTide_17 18 rfl rfl 0 rfl ?_
          refine gf_X11_6 dX11_hasTide_18 21 rfl wd_228 (ok_11 (by decide)) ?_
          refine aw_aload_n (i := 0) dX11_hasTide_21 22 rfl rfl 0 rfl ?_
          refine gf_X11_24 dX11_hasTide_22 25 rfl wd_263 (ok_11 (by decide)) ?_
          refine aw_iload_n (i := 1) dX11_hasTide_25 26 rfl rfl 1 rfl ?_
          refine aw_iald dX11_hasTide_26 27 rfl at_84 (al_84 _) (ok_84 (by decide)) (fun h5 => ?_)
          refine aw_iald dX11_hasTide_27 28 rfl at_66 (al_66 _) (ok_66 (by decide)) (fun h6 => ?_)
          refine aw_if_le dX11_hasTide_28 31 rfl 35 rfl (fun h7 => ?_) (fun h7 => ?_)
          · exact aw_conv [] rfl (hj2 u1)
          · refine aw_iconst (x := 1) dX11_hasTide_31 32 rfl rfl ?_
            refine aw_goto dX11_hasTide_32 36 rfl ?_
            exact aw_conv [] rfl (hj1 1 u1)
theorem dX11_rimLevel_0 : decode cX11_rimLevel 0 = .ok (.aload_n 0, 1) := by decide +kernel
theorem dX11_rimLevel_1 : decode cX11_rimLevel 1 = .ok (.getfield 68, 3) := by decide +kernel
theorem dX11_rimLevel_4 : decode cX11_rimLevel 4 = .ok (.iload_n 1, 1) := by decide +kernel
theorem dX11_rimLevel_5 : decode cX11_rimLevel 5 = .ok (.iaload, 1) := by decide +kernel
theorem dX11_rimLevel_6 : decode cX11_rimLevel 6 = .ok (.istore_n 2, 1) := by decide +kernel
theorem dX11_rimLevel_7 : decode cX11_rimLevel 7 = .ok (.aload_n 0, 1) := by decide +kernel
theorem dX11_rimLevel_8 : decode cX11_rimLevel 8 = .ok (.getfield 20, 3) := by decide +kernel
theorem dX11_rimLevel_11 : decode cX11_rimLevel 11 = .ok (.bipush 48, 2) := by decide +kernel
theorem dX11_rimLevel_13 : decode cX11_rimLevel 13 = .ok (.iload_n 2, 1) := by decide +kernel
theorem dX11_rimLevel_14 : decode cX11_rimLevel 14 = .ok (.imul, 1) := by decide +kernel
theorem dX11_rimLevel_15 : decode cX11_rimLevel 15 = .ok (.aload_n 0, 1) := by decide +kernel
theorem dX11_rimLevel_16 : decode cX11_rimLevel 16 = .ok (.getfield 59, 3) := by decide +kernel
theorem dX11_rimLevel_19 : decode cX11_rimLevel 19 = .ok (.iload_n 1, 1) := by decide +kernel
theorem dX11_rimLevel_20 : decode cX11_rimLevel 20 = .ok (.iaload, 1) := by decide +kernel
theorem dX11_rimLevel_21 : decode cX11_rimLevel 21 = .ok (.aload_n 0, 1) := by decide +kernel
theorem dX11_rimLevel_22 : decode cX11_rimLevel 22 = .ok (.getfield 17, 3) := by decide +kernel
theorem dX11_rimLevel_25 : decode cX11_rimLevel 25 = .ok (.iload_n 2, 1) := by decide +kernel
theorem dX11_rimLevel_26 : decode cX11_rimLevel 26 = .ok (.iaload, 1) := by decide +kernel
theorem dX11_rimLevel_27 : decode cX11_rimLevel 27 = .ok (.irem, 1) := by decide +kernel
theorem dX11_rimLevel_28 : decode cX11_rimLevel 28 = .ok (.iadd, 1) := by decide +kernel
theorem dX11_rimLevel_29 : decode cX11_rimLevel 29 = .ok (.iaload, 1) := by decide +kernel
theorem dX11_rimLevel_30 : decode cX11_rimLevel 30 = .ok (.aload_n 0, 1) := by decide +kernel
theorem dX11_rimLevel_31 : decode cX11_rimLevel 31 = .ok (.getfield 71, 3) := by decide +kernel
theorem dX11_rimLevel_34 : decode cX11_rimLevel 34 = .ok (.iload_n 1, 1) := by decide +kernel
theorem dX11_rimLevel_35 : decode cX11_rimLevel 35 = .ok (.iaload, 1) := by decide +kernel
theorem dX11_rimLevel_36 : decode cX11_rimLevel 36 = .ok (.iadd, 1) := by decide +kernel
theorem dX11_rimLevel_37 : decode cX11_rimLevel 37 = .ok (.ireturn, 1) := by decide +kernel
noncomputable def f_X11_rimLevel (x1 : Int32) (u0 : qM) : Option (Int32 × qM) :=
  q_ck (q_in x1 8) (q_lt (u0.1 84 0 (Int32.toNatClampNeg x1)) (fun (x2 : Int32) => q_ck (q_in x1 8) (q_ck (q_in x2 6) (q_ck (q_nz (u0.1 66 0 (Int32.toNatClampNeg x2))) (q_ck (q_in ((48 * x2) + ((u0.1 81 0 (Int32.toNatClampNeg x1)) - (u0.1 81 0 (Int32.toNatClampNeg x1)) / (u0.1 66 0 (Int32.toNatClampNeg x2)) * (u0.1 66 0 (Int32.toNatClampNeg x2)))) 288) (q_ck (q_in x1 8) (some ((u0.1 67 0 (Int32.toNatClampNeg ((48 * x2) + ((u0.1 81 0 (Int32.toNatClampNeg x1)) - (u0.1 81 0 (Int32.toNatClampNeg x1)) / (u0.1 66 0 (Int32.toNatClampNeg x2)) * (u0.1 66 0 (Int32.toNatClampNeg x2)))))) + (u0.1 85 0 (Int32.toNatClampNeg x1)), u0))))))))
set_option maxRecDepth 100000 in
set_option maxHeartbeats 4000000 in
theorem k_X11_rimLevel (l : Launch) (G : qG) (x1 : Int32)  (u0 : qM) : qCt l G m_X11_rimLevel q_cI [.ref (q_ad G 11 0), .int x1] u0 (f_X11_rimLevel x1 u0) := by
  refine q_entry pk_X11_rimLevel (Nat.le_of_ble_eq_true rfl) ?_
  show qAW l G m_X11_rimLevel (q_mq G q_cI) 0 [(0, .ref (q_ad G 11 0)), (1, .int x1)] [] u0 (f_X11_rimLevel x1 u0)
  unfold f_X11_rimLevel
  refine aw_aload_n (i := 0) dX11_rimLevel_0 1 rfl rfl 0 rfl ?_
  refine gf_X11_24 dX11_rimLevel_1 4 rfl wd_263 (ok_11 (by decide)) ?_
  refine aw_iload_n (i := 1) dX11_rimLevel_4 5 rfl rfl 1 rfl ?_
  refine aw_iald dX11_rimLevel_5 6 rfl at_84 (al_84 _) (ok_84 (by decide)) (fun h1 => ?_)
  refine aw_lti (fun x2 => ?_)
  refine aw_istore_n dX11_rimLevel_6 7 rfl rfl [(2, .int x2), (0, .ref (q_ad G 11 0)), (1, .int x1)] (by decide) rfl ?_
  refine aw_aload_n (i := 0) dX11_rimLevel_7 8 rfl rfl 1 rfl ?_
  refine gf_X11_7 dX11_rimLevel_8 11 rfl wd_230 (ok_11 (by decide)) ?_
  refine aw_bipush (x := 48) dX11_rimLevel_11 13 rfl rfl ?_
  refine aw_iload_n (i := 2) dX11_rimLevel_13 14 rfl rfl 0 rfl ?_
  refine aw_imul dX11_rimLevel_14 15 rfl ?_
  refine aw_aload_n (i := 0) dX11_rimLevel_15 16 rfl rfl 1 rfl ?_
  refine gf_X11_21 dX11_rimLevel_16 19 rfl wd_260 (ok_11 (by decide)) ?_
  refine aw_iload_n (i := 1) dX11_rimLevel_19 20 rfl rfl 2 rfl ?_
  refine aw_iald dX11_rimLevel_20 21 rfl at_81 (al_81 _) (ok_81 (by decide)) (fun h2 => ?_)
  refine aw_aload_n (i := 0) dX11_rimLevel_21 22 rfl rfl 1 rfl ?_
  refine gf_X11_6 dX11_rimLevel_22 25 rfl wd_228 (ok_11 (by decide)) ?_
  refine aw_iload_n (i := 2) dX11_rimLevel_25 26 rfl rfl 0 rfl ?_
  refine aw_iald dX11_rimLevel_26 27 rfl at_66 (al_66 _) (ok_66 (by decide)) (fun h3 => ?_)
  refine aw_ck (fun h4 => ?_)
  refine aw_irem dX11_rimLevel_27 28 rfl (of_decide_eq_true h4) ?_
  refine aw_iadd dX11_rimLevel_28 29 rfl ?_
  refine aw_iald dX11_rimLevel_29 30 rfl at_67 (al_67 _) (ok_67 (by decide)) (fun h5 => ?_)
  refine aw_aload_n (i := 0) dX11_rimLevel_30 31 rfl rfl 1 rfl ?_
  refine gf_X11_25 dX11_rimLevel_31 34 rfl wd_264 (ok_11 (by decide)) ?_
  refine aw_iload_n (i := 1) dX11_rimLevel_34 35 rfl rfl 2 rfl ?_
  refine aw_iald dX11_rimLevel_35 36 rfl at_85 (al_85 _) (ok_85 (by decide)) (fun h6 => ?_)
  refine aw_iadd dX11_rimLevel_36 37 rfl ?_
  exact aw_iret dX11_rimLevel_37 rfl
theorem dX11_leadRim_0 : decode cX11_leadRim 0 = .ok (.aload_n 0, 1) := by decide +kernel
theorem dX11_leadRim_1 : decode cX11_leadRim 1 = .ok (.iload_n 1, 1) := by decide +kernel
theorem dX11_leadRim_2 : decode cX11_leadRim 2 = .ok (.invokevirtual 259, 3) := by decide +kernel
theorem dX11_leadRim_5 : decode cX11_leadRim 5 = .ok (.istore_n 2, 1) := by decide +kernel
theorem dX11_leadRim_6 : decode cX11_leadRim 6 = .ok (.iconst 0, 1) := by decide +kernel
theorem dX11_leadRim_7 : decode cX11_leadRim 7 = .ok (.istore_n 3, 1) := by decide +kernel
theorem dX11_leadRim_8 : decode cX11_leadRim 8 = .ok (.iload_n 3, 1) := by decide +kernel
theorem dX11_leadRim_9 : decode cX11_leadRim 9 = .ok (.aload_n 0, 1) := by decide +kernel
theorem dX11_leadRim_10 : decode cX11_leadRim 10 = .ok (.iload_n 1, 1) := by decide +kernel
theorem dX11_leadRim_11 : decode cX11_leadRim 11 = .ok (.invokevirtual 223, 3) := by decide +kernel
theorem dX11_leadRim_14 : decode cX11_leadRim 14 = .ok (.if_icmp .ge 91, 3) := by decide +kernel
theorem dX11_leadRim_17 : decode cX11_leadRim 17 = .ok (.iload_n 2, 1) := by decide +kernel
theorem dX11_leadRim_18 : decode cX11_leadRim 18 = .ok (.aload_n 0, 1) := by decide +kernel
theorem dX11_leadRim_19 : decode cX11_leadRim 19 = .ok (.getfield 89, 3) := by decide +kernel
theorem dX11_leadRim_22 : decode cX11_leadRim 22 = .ok (.bipush 48, 2) := by decide +kernel
theorem dX11_leadRim_24 : decode cX11_leadRim 24 = .ok (.iload_n 1, 1) := by decide +kernel
theorem dX11_leadRim_25 : decode cX11_leadRim 25 = .ok (.imul, 1) := by decide +kernel
theorem dX11_leadRim_26 : decode cX11_leadRim 26 = .ok (.iload_n 3, 1) := by decide +kernel
theorem dX11_leadRim_27 : decode cX11_leadRim 27 = .ok (.iadd, 1) := by decide +kernel
theorem dX11_leadRim_28 : decode cX11_leadRim 28 = .ok (.iaload, 1) := by decide +kernel
theorem dX11_leadRim_29 : decode cX11_leadRim 29 = .ok (.isub, 1) := by decide +kernel
theorem dX11_leadRim_30 : decode cX11_leadRim 30 = .ok (.istore 4, 2) := by decide +kernel
theorem dX11_leadRim_32 : decode cX11_leadRim 32 = .ok (.iload 4, 2) := by decide +kernel
theorem dX11_leadRim_34 : decode cX11_leadRim 34 = .ok (.ifCond .ge 7, 3) := by decide +kernel
theorem dX11_leadRim_37 : decode cX11_leadRim 37 = .ok (.iconst 0, 1) := by decide +kernel
theorem dX11_leadRim_38 : decode cX11_leadRim 38 = .ok (.goto 17, 3) := by decide +kernel
theorem dX11_leadRim_41 : decode cX11_leadRim 41 = .ok (.iload 4, 2) := by decide +kernel
theorem dX11_leadRim_43 : decode cX11_leadRim 43 = .ok (.ldc 195, 2) := by decide +kernel
theorem dX11_leadRim_45 : decode cX11_leadRim 45 = .ok (.if_icmp .le 8, 3) := by decide +kernel
theorem dX11_leadRim_48 : decode cX11_leadRim 48 = .ok (.ldc 195, 2) := by decide +kernel
theorem dX11_leadRim_50 : decode cX11_leadRim 50 = .ok (.goto 5, 3) := by decide +kernel
theorem dX11_leadRim_53 : decode cX11_leadRim 53 = .ok (.iload 4, 2) := by decide +kernel
theorem dX11_leadRim_55 : decode cX11_leadRim 55 = .ok (.istore 4, 2) := by decide +kernel
theorem dX11_leadRim_57 : decode cX11_leadRim 57 = .ok (.aload_n 0, 1) := by decide +kernel
theorem dX11_leadRim_58 : decode cX11_leadRim 58 = .ok (.getfield 65, 3) := by decide +kernel
theorem dX11_leadRim_61 : decode cX11_leadRim 61 = .ok (.iload_n 1, 1) := by decide +kernel
theorem dX11_leadRim_62 : decode cX11_leadRim 62 = .ok (.dup2, 1) := by decide +kernel
theorem dX11_leadRim_63 : decode cX11_leadRim 63 = .ok (.iaload, 1) := by decide +kernel
theorem dX11_leadRim_64 : decode cX11_leadRim 64 = .ok (.iload 4, 2) := by decide +kernel
theorem dX11_leadRim_66 : decode cX11_leadRim 66 = .ok (.aload_n 0, 1) := by decide +kernel
theorem dX11_leadRim_67 : decode cX11_leadRim 67 = .ok (.getfield 92, 3) := by decide +kernel
theorem dX11_leadRim_70 : decode cX11_leadRim 70 = .ok (.bipush 48, 2) := by decide +kernel
theorem dX11_leadRim_72 : decode cX11_leadRim 72 = .ok (.iload_n 1, 1) := by decide +kernel
theorem dX11_leadRim_73 : decode cX11_leadRim 73 = .ok (.imul, 1) := by decide +kernel
theorem dX11_leadRim_74 : decode cX11_leadRim 74 = .ok (.iload_n 3, 1) := by decide +kernel
theorem dX11_leadRim_75 : decode cX11_leadRim 75 = .ok (.iadd, 1) := by decide +kernel
theorem dX11_leadRim_76 : decode cX11_leadRim 76 = .ok (.iaload, 1) := by decide +kernel
theorem dX11_leadRim_77 : decode cX11_leadRim 77 = .ok (.isub, 1) := by decide +kernel
theorem dX11_leadRim_78 : decode cX11_leadRim 78 = .ok (.iadd, 1) := by decide +kernel
theorem dX11_leadRim_79 : decode cX11_leadRim 79 = .ok (.iastore, 1) := by decide +kernel
theorem dX11_leadRim_80 : decode cX11_leadRim 80 = .ok (.aload_n 0, 1) := by decide +kernel
theorem dX11_leadRim_81 : decode cX11_leadRim 81 = .ok (.getfield 92, 3) := by decide +kernel
theorem dX11_leadRim_84 : decode cX11_leadRim 84 = .ok (.bipush 48, 2) := by decide +kernel
theorem dX11_leadRim_86 : decode cX11_leadRim 86 = .ok (.iload_n 1, 1) := by decide +kernel
theorem dX11_leadRim_87 : decode cX11_leadRim 87 = .ok (.imul, 1) := by decide +kernel
theorem dX11_leadRim_88 : decode cX11_leadRim 88 = .ok (.iload_n 3, 1) := by decide +kernel
theorem dX11_leadRim_89 : decode cX11_leadRim 89 = .ok (.iadd, 1) := by decide +kernel
theorem dX11_leadRim_90 : decode cX11_leadRim 90 = .ok (.iload 4, 2) := by decide +kernel
theorem dX11_leadRim_92 : decode cX11_leadRim 92 = .ok (.iastore, 1) := by decide +kernel
theorem dX11_leadRim_93 : decode cX11_leadRim 93 = .ok (.iload_n 3, 1) := by decide +kernel
theorem dX11_leadRim_94 : decode cX11_leadRim 94 = .ok (.aload_n 0, 1) := by decide +kernel
theorem dX11_leadRim_95 : decode cX11_leadRim 95 = .ok (.getfield 41, 3) := by decide +kernel
theorem dX11_leadRim_98 : decode cX11_leadRim 98 = .ok (.iload_n 1, 1) := by decide +kernel
theorem dX11_leadRim_99 : decode cX11_leadRim 99 = .ok (.iaload, 1) := by decide +kernel
theorem dX11_leadRim_100 : decode cX11_leadRim 100 = .ok (.iadd, 1) := by decide +kernel
theorem dX11_leadRim_101 : decode cX11_leadRim 101 = .ok (.istore_n 3, 1) := by decide +kernel
theorem dX11_leadRim_102 : decode cX11_leadRim 102 = .ok (.goto (-94), 3) := by decide +kernel
theorem dX11_leadRim_105 : decode cX11_leadRim 105 = .ok (.return_, 1) := by decide +kernel
noncomputable def L_X11_leadRim_8 (x1 : Int32) (x2 : Int32) : Nat → Int32 → qM → (qM → Option (Unit × qM)) → Option (Unit × qM)
  | 0, _, _, _ => none
  | n + 1, x3, u2, e1 => q_bd (f_X11_cells x1 u2) (fun (x4 : Int32) (u3 : qM) => if x4 ≤ x3 then e1 u3 else q_ck (q_in ((48 * x1) + x3) 384) (q_lt (x2 - (u3.1 91 0 (Int32.toNatClampNeg ((48 * x1) + x3)))) (fun (x5 : Int32) => q_jn (fun (x6 : Int32) (u4 : qM) => q_ck (q_in x1 8) (q_ck (q_in ((48 * x1) + x3) 384) (q_ck (q_in x1 8) (q_lt (q_si u4 83 0 (Int32.toNatClampNeg x1) ((u4.1 83 0 (Int32.toNatClampNeg x1)) + (x6 - (u4.1 92 0 (Int32.toNatClampNeg ((48 * x1) + x3)))))) (fun (u5 : qM) => q_ck (q_in ((48 * x1) + x3) 384) (q_lt (q_si u5 92 0 (Int32.toNatClampNeg ((48 * x1) + x3)) x6) (fun (u6 : qM) => q_ck (q_in x1 8) (q_lt (x3 + (u6.1 75 0 (Int32.toNatClampNeg x1))) (fun (x7 : Int32) => L_X11_leadRim_8 x1 x2 n x7 u6 e1))))))))) (fun j1 => if (0 : Int32) ≤ x5 then if x5 ≤ 100000 then j1 x5 u3 else j1 100000 u3 else j1 0 u3))))
noncomputable def f_X11_leadRim (x1 : Int32) (u0 : qM) : Option (Unit × qM) :=
  q_bd (f_X11_rimLevel x1 u0) (fun (x2 : Int32) (u1 : qM) => L_X11_leadRim_8 x1 x2 q_fu 0 u1 (fun u7 => some ((), u7)))
set_option maxRecDepth 100000 in
set_option maxHeartbeats 4000000 in
theorem TL_X11_leadRim_8 (l : Launch) (G : qG) (x1 : Int32) (x2 : Int32)  (e1 : qM → Option (Unit × qM)) (he1 : ∀  (v : qM), qAW l G m_X11_leadRim (q_mq G q_cU) 105 [] [] v (e1 v)) : ∀ (n : Nat) (x3 : Int32) (u2 : qM), qAW l G m_X11_leadRim (q_mq G q_cU) 8 [(0, .ref (q_ad G 11 0)), (1, .int x1), (2, .int x2), (3, .int x3)] [] u2 (L_X11_leadRim_8 x1 x2 n x3 u2 e1) := by
  intro n
  induction n with
  | zero => intros; exact aw_none
  | succ n ih =>
    intro x3 u2
    unfold L_X11_leadRim_8
    refine aw_iload_n (i := 3) dX11_leadRim_8 9 rfl rfl 3 rfl ?_
    refine aw_aload_n (i := 0) dX11_leadRim_9 10 rfl rfl 0 rfl ?_
    refine aw_iload_n (i := 1) dX11_leadRim_10 11 rfl rfl 1 rfl ?_
    refine aw_callV (M2 := m_X11_cells) (cv := q_cI) dX11_leadRim_11 14 rfl (k_X11_cells l G x1  u2) wd_251 wv_X11_cells pk_X11_cells rfl rfl ⟨by decide, by decide⟩ ⟨Nat.zero_le _, Nat.zero_le _⟩ at_11 (ok_11 (by decide)) rfl rfl rfl (Nat.le_of_ble_eq_true rfl) (fun x4 u3 => ?_)
    show qAW l G m_X11_leadRim (q_mq G q_cU) 14 [(0, .ref (q_ad G 11 0)), (1, .int x1), (2, .int x2), (3, .int x3)] [.int x4, .int x3] u3 _
    refine aw_icmp_ge dX11_leadRim_14 17 rfl 105 rfl (fun h1 => ?_) (fun h1 => ?_)
    · exact aw_conv [] rfl (he1 u3)
    · refine aw_iload_n (i := 2) dX11_leadRim_17 18 rfl rfl 2 rfl ?_
      refine aw_aload_n (i := 0) dX11_leadRim_18 19 rfl rfl 0 rfl ?_
      refine gf_X11_31 dX11_leadRim_19 22 rfl wd_248 (ok_11 (by decide)) ?_
      refine aw_bipush (x := 48) dX11_leadRim_22 24 rfl rfl ?_
      refine aw_iload_n (i := 1) dX11_leadRim_24 25 rfl rfl 1 rfl ?_
      refine aw_imul dX11_leadRim_25 26 rfl ?_
      refine aw_iload_n (i := 3) dX11_leadRim_26 27 rfl rfl 3 rfl ?_
      refine aw_iadd dX11_leadRim_27 28 rfl ?_
      refine aw_iald dX11_leadRim_28 29 rfl at_91 (al_91 _) (ok_91 (by decide)) (fun h2 => ?_)
      refine aw_isub dX11_leadRim_29 30 rfl ?_
      refine aw_lti (fun x5 => ?_)
      refine aw_istore dX11_leadRim_30 32 rfl [(4, .int x5), (0, .ref (q_ad G 11 0)), (1, .int x1), (2, .int x2), (3, .int x3)] (by decide) rfl ?_
      refine aw_iload (i := 4) dX11_leadRim_32 34 rfl 0 rfl ?_
      refine aw_jn (fun k => ∀ (x6 : Int32) (u4 : qM), qAW l G m_X11_leadRim (q_mq G q_cU) 55 [(0, .ref (q_ad G 11 0)), (1, .int x1), (2, .int x2), (3, .int x3)] [.int x6] u4 (k x6 u4)) ?_ ?_
      · intro x6 u4
        refine aw_istore dX11_leadRim_55 57 rfl [(4, .int x6), (0, .ref (q_ad G 11 0)), (1, .int x1), (2, .int x2), (3, .int x3)] (by decide) rfl ?_
        refine aw_aload_n (i := 0) dX11_leadRim_57 58 rfl rfl 1 rfl ?_
        refine gf_X11_23 dX11_leadRim_58 61 rfl wd_262 (ok_11 (by decide)) ?_
        refine aw_iload_n (i := 1) dX11_leadRim_61 62 rfl rfl 2 rfl ?_
        refine aw_dup2 dX11_leadRim_62 63 rfl rfl rfl ?_
        refine aw_iald dX11_leadRim_63 64 rfl at_83 (al_83 _) (ok_83 (by decide)) (fun h4 => ?_)
        refine aw_iload (i := 4) dX11_leadRim_64 66 rfl 0 rfl ?_
        refine aw_aload_n (i := 0) dX11_leadRim_66 67 rfl rfl 1 rfl ?_
        refine gf_X11_32 dX11_leadRim_67 70 rfl wd_249 (ok_11 (by decide)) ?_
        refine aw_bipush (x := 48) dX11_leadRim_70 72 rfl rfl ?_
        refine aw_iload_n (i := 1) dX11_leadRim_72 73 rfl rfl 2 rfl ?_
        refine aw_imul dX11_leadRim_73 74 rfl ?_
        refine aw_iload_n (i := 3) dX11_leadRim_74 75 rfl rfl 4 rfl ?_
        refine aw_iadd dX11_leadRim_75 76 rfl ?_
        refine aw_iald dX11_leadRim_76 77 rfl at_92 (al_92 _) (ok_92 (by decide)) (fun h5 => ?_)
        refine aw_isub dX11_leadRim_77 78 rfl ?_
        refine aw_iadd dX11_leadRim_78 79 rfl ?_
        refine aw_iast dX11_leadRim_79 80 rfl at_83 (al_83 _) (ok_83 (by decide)) (fun h6 => ?_)
        refine aw_ltm (fun u5 => ?_)
        refine aw_aload_n (i := 0) dX11_leadRim_80 81 rfl rfl 1 rfl ?_
        refine gf_X11_32 dX11_leadRim_81 84 rfl wd_249 (ok_11 (by decide)) ?_
        refine aw_bipush (x := 48) dX11_leadRim_84 86 rfl rfl ?_
        refine aw_iload_n (i := 1) dX11_leadRim_86 87 rfl rfl 2 rfl ?_
        refine aw_imul dX11_leadRim_87 88 rfl ?_
        refine aw_iload_n (i := 3) dX11_leadRim_88 89 rfl rfl 4 rfl ?_
        refine aw_iadd dX11_leadRim_89 90 rfl ?_
        refine aw_iload (i := 4) dX11_leadRim_90 92 rfl 0 rfl ?_
        refine aw_iast dX11_leadRim_92 93 rfl at_92 (al_92 _) (ok_92 (by decide)) (fun h7 => ?_)
        refine aw_ltm (fun u6 => ?_)
        refine aw_iload_n (i := 3) dX11_leadRim_93 94 rfl rfl 4 rfl ?_
        refine aw_aload_n (i := 0) dX11_leadRim_94 95 rfl rfl 1 rfl ?_
        refine gf_X11_15 dX11_leadRim_95 98 rfl wd_246 (ok_11 (by decide)) ?_
        refine aw_iload_n (i := 1) dX11_leadRim_98 99 rfl rfl 2 rfl ?_
        refine aw_iald dX11_leadRim_99 100 rfl at_75 (al_75 _) (ok_75 (by decide)) (fun h8 => ?_)
        refine aw_iadd dX11_leadRim_100 101 rfl ?_
        refine aw_lti (fun x7 => ?_)
        refine aw_istore_n dX11_leadRim_101 102 rfl rfl [(3, .int x7), (4, .int x6), (0, .ref (q_ad G 11 0)), (1, .int x1), (2, .int x2)] (by decide) rfl ?_
        refine aw_goto dX11_leadRim_102 8 rfl ?_
        exact aw_conv [2, 3, 4, 0] rfl (ih x7 u6)
      · intro j1 hj1
        refine aw_if_ge dX11_leadRim_34 37 rfl 41 rfl (fun h3 => ?_) (fun h3 => ?_)
        · refine aw_iload (i := 4) dX11_leadRim_41 43 rfl 0 rfl ?_
          refine aw_ldc (x := 100000) dX11_leadRim_43 45 rfl wd_232 ?_
          refine aw_icmp_le dX11_leadRim_45 48 rfl 53 rfl (fun h9 => ?_) (fun h9 => ?_)
          · refine aw_iload (i := 4) dX11_leadRim_53 55 rfl 0 rfl ?_
            exact aw_conv [1, 2, 3, 4] rfl (hj1 x5 u3)
          · refine aw_ldc (x := 100000) dX11_leadRim_48 50 rfl wd_232 ?_
            refine aw_goto dX11_leadRim_50 55 rfl ?_
            exact aw_conv [1, 2, 3, 4] rfl (hj1 100000 u3)
        · refine aw_iconst (x := 0) dX11_leadRim_37 38 rfl rfl ?_
          refine aw_goto dX11_leadRim_38 55 rfl ?_
          exact aw_conv [1, 2, 3, 4] rfl (hj1 0 u3)
set_option maxRecDepth 100000 in
set_option maxHeartbeats 4000000 in
theorem k_X11_leadRim (l : Launch) (G : qG) (x1 : Int32)  (u0 : qM) : qCt l G m_X11_leadRim q_cU [.ref (q_ad G 11 0), .int x1] u0 (f_X11_leadRim x1 u0) := by
  refine q_entry pk_X11_leadRim (Nat.le_of_ble_eq_true rfl) ?_
  show qAW l G m_X11_leadRim (q_mq G q_cU) 0 [(0, .ref (q_ad G 11 0)), (1, .int x1)] [] u0 (f_X11_leadRim x1 u0)
  unfold f_X11_leadRim
  refine aw_aload_n (i := 0) dX11_leadRim_0 1 rfl rfl 0 rfl ?_
  refine aw_iload_n (i := 1) dX11_leadRim_1 2 rfl rfl 1 rfl ?_
  refine aw_callV (M2 := m_X11_rimLevel) (cv := q_cI) dX11_leadRim_2 5 rfl (k_X11_rimLevel l G x1  u0) wd_287 wv_X11_rimLevel pk_X11_rimLevel rfl rfl ⟨by decide, by decide⟩ ⟨Nat.zero_le _, Nat.zero_le _⟩ at_11 (ok_11 (by decide)) rfl rfl rfl (Nat.le_of_ble_eq_true rfl) (fun x2 u1 => ?_)
  show qAW l G m_X11_leadRim (q_mq G q_cU) 5 [(0, .ref (q_ad G 11 0)), (1, .int x1)] [.int x2] u1 _
  refine aw_istore_n dX11_leadRim_5 6 rfl rfl [(2, .int x2), (0, .ref (q_ad G 11 0)), (1, .int x1)] (by decide) rfl ?_
  refine aw_iconst (x := 0) dX11_leadRim_6 7 rfl rfl ?_
  refine aw_istore_n dX11_leadRim_7 8 rfl rfl [(3, .int 0), (2, .int x2), (0, .ref (q_ad G 11 0)), (1, .int x1)] (by decide) rfl ?_
  refine aw_conv [2, 3, 1, 0] rfl (TL_X11_leadRim_8 l G x1 x2  _ ?_ _ 0 u1)
  · intro u7
    exact aw_vret dX11_leadRim_105 rfl
theorem dX11_leading_0 : decode cX11_leading 0 = .ok (.iload_n 2, 1) := by decide +kernel
theorem dX11_leading_1 : decode cX11_leading 1 = .ok (.aload_n 0, 1) := by decide +kernel
theorem dX11_leading_2 : decode cX11_leading 2 = .ok (.getfield 41, 3) := by decide +kernel
theorem dX11_leading_5 : decode cX11_leading 5 = .ok (.iload_n 1, 1) := by decide +kernel
theorem dX11_leading_6 : decode cX11_leading 6 = .ok (.iaload, 1) := by decide +kernel
theorem dX11_leading_7 : decode cX11_leading 7 = .ok (.irem, 1) := by decide +kernel
theorem dX11_leading_8 : decode cX11_leading 8 = .ok (.istore 4, 2) := by decide +kernel
theorem dX11_leading_10 : decode cX11_leading 10 = .ok (.iload_n 3, 1) := by decide +kernel
theorem dX11_leading_11 : decode cX11_leading 11 = .ok (.iconst 2, 1) := by decide +kernel
theorem dX11_leading_12 : decode cX11_leading 12 = .ok (.if_icmp .ge 36, 3) := by decide +kernel
theorem dX11_leading_15 : decode cX11_leading 15 = .ok (.aload_n 0, 1) := by decide +kernel
theorem dX11_leading_16 : decode cX11_leading 16 = .ok (.iload_n 1, 1) := by decide +kernel
theorem dX11_leading_17 : decode cX11_leading 17 = .ok (.iconst 2, 1) := by decide +kernel
theorem dX11_leading_18 : decode cX11_leading 18 = .ok (.iload_n 2, 1) := by decide +kernel
theorem dX11_leading_19 : decode cX11_leading 19 = .ok (.imul, 1) := by decide +kernel
theorem dX11_leading_20 : decode cX11_leading 20 = .ok (.iload_n 3, 1) := by decide +kernel
theorem dX11_leading_21 : decode cX11_leading 21 = .ok (.iadd, 1) := by decide +kernel
theorem dX11_leading_22 : decode cX11_leading 22 = .ok (.invokevirtual 246, 3) := by decide +kernel
theorem dX11_leading_25 : decode cX11_leading 25 = .ok (.ifCond .ge 7, 3) := by decide +kernel
theorem dX11_leading_28 : decode cX11_leading 28 = .ok (.iconst 0, 1) := by decide +kernel
theorem dX11_leading_29 : decode cX11_leading 29 = .ok (.goto 18, 3) := by decide +kernel
theorem dX11_leading_32 : decode cX11_leading 32 = .ok (.aload_n 0, 1) := by decide +kernel
theorem dX11_leading_33 : decode cX11_leading 33 = .ok (.getfield 98, 3) := by decide +kernel
theorem dX11_leading_36 : decode cX11_leading 36 = .ok (.bipush 96, 2) := by decide +kernel
theorem dX11_leading_38 : decode cX11_leading 38 = .ok (.iload_n 1, 1) := by decide +kernel
theorem dX11_leading_39 : decode cX11_leading 39 = .ok (.imul, 1) := by decide +kernel
theorem dX11_leading_40 : decode cX11_leading 40 = .ok (.iconst 2, 1) := by decide +kernel
theorem dX11_leading_41 : decode cX11_leading 41 = .ok (.iload_n 2, 1) := by decide +kernel
theorem dX11_leading_42 : decode cX11_leading 42 = .ok (.imul, 1) := by decide +kernel
theorem dX11_leading_43 : decode cX11_leading 43 = .ok (.iadd, 1) := by decide +kernel
theorem dX11_leading_44 : decode cX11_leading 44 = .ok (.iload_n 3, 1) := by decide +kernel
theorem dX11_leading_45 : decode cX11_leading 45 = .ok (.iadd, 1) := by decide +kernel
theorem dX11_leading_46 : decode cX11_leading 46 = .ok (.iaload, 1) := by decide +kernel
theorem dX11_leading_47 : decode cX11_leading 47 = .ok (.ireturn, 1) := by decide +kernel
theorem dX11_leading_48 : decode cX11_leading 48 = .ok (.iload_n 3, 1) := by decide +kernel
theorem dX11_leading_49 : decode cX11_leading 49 = .ok (.iconst 2, 1) := by decide +kernel
theorem dX11_leading_50 : decode cX11_leading 50 = .ok (.if_icmp .ne 19, 3) := by decide +kernel
theorem dX11_leading_53 : decode cX11_leading 53 = .ok (.iload 4, 2) := by decide +kernel
theorem dX11_leading_55 : decode cX11_leading 55 = .ok (.ifCond .le 9, 3) := by decide +kernel
theorem dX11_leading_58 : decode cX11_leading 58 = .ok (.iload_n 2, 1) := by decide +kernel
theorem dX11_leading_59 : decode cX11_leading 59 = .ok (.iconst 1, 1) := by decide +kernel
theorem dX11_leading_60 : decode cX11_leading 60 = .ok (.isub, 1) := by decide +kernel
theorem dX11_leading_61 : decode cX11_leading 61 = .ok (.goto 16, 3) := by decide +kernel
theorem dX11_leading_64 : decode cX11_leading 64 = .ok (.bipush (-9), 2) := by decide +kernel
theorem dX11_leading_66 : decode cX11_leading 66 = .ok (.goto 11, 3) := by decide +kernel
theorem dX11_leading_69 : decode cX11_leading 69 = .ok (.iload_n 2, 1) := by decide +kernel
theorem dX11_leading_70 : decode cX11_leading 70 = .ok (.aload_n 0, 1) := by decide +kernel
theorem dX11_leading_71 : decode cX11_leading 71 = .ok (.getfield 41, 3) := by decide +kernel
theorem dX11_leading_74 : decode cX11_leading 74 = .ok (.iload_n 1, 1) := by decide +kernel
theorem dX11_leading_75 : decode cX11_leading 75 = .ok (.iaload, 1) := by decide +kernel
theorem dX11_leading_76 : decode cX11_leading 76 = .ok (.isub, 1) := by decide +kernel
theorem dX11_leading_77 : decode cX11_leading 77 = .ok (.istore 5, 2) := by decide +kernel
theorem dX11_leading_79 : decode cX11_leading 79 = .ok (.iload 5, 2) := by decide +kernel
theorem dX11_leading_81 : decode cX11_leading 81 = .ok (.ifCond .ge 7, 3) := by decide +kernel
theorem dX11_leading_84 : decode cX11_leading 84 = .ok (.iconst 0, 1) := by decide +kernel
theorem dX11_leading_85 : decode cX11_leading 85 = .ok (.goto 22, 3) := by decide +kernel
theorem dX11_leading_88 : decode cX11_leading 88 = .ok (.aload_n 0, 1) := by decide +kernel
theorem dX11_leading_89 : decode cX11_leading 89 = .ok (.getfield 98, 3) := by decide +kernel
theorem dX11_leading_92 : decode cX11_leading 92 = .ok (.bipush 96, 2) := by decide +kernel
theorem dX11_leading_94 : decode cX11_leading 94 = .ok (.iload_n 1, 1) := by decide +kernel
theorem dX11_leading_95 : decode cX11_leading 95 = .ok (.imul, 1) := by decide +kernel
theorem dX11_leading_96 : decode cX11_leading 96 = .ok (.iconst 2, 1) := by decide +kernel
theorem dX11_leading_97 : decode cX11_leading 97 = .ok (.iload 5, 2) := by decide +kernel
theorem dX11_leading_99 : decode cX11_leading 99 = .ok (.imul, 1) := by decide +kernel
theorem dX11_leading_100 : decode cX11_leading 100 = .ok (.iadd, 1) := by decide +kernel
theorem dX11_leading_101 : decode cX11_leading 101 = .ok (.iload_n 3, 1) := by decide +kernel
theorem dX11_leading_102 : decode cX11_leading 102 = .ok (.iadd, 1) := by decide +kernel
theorem dX11_leading_103 : decode cX11_leading 103 = .ok (.iconst 2, 1) := by decide +kernel
theorem dX11_leading_104 : decode cX11_leading 104 = .ok (.isub, 1) := by decide +kernel
theorem dX11_leading_105 : decode cX11_leading 105 = .ok (.iaload, 1) := by decide +kernel
theorem dX11_leading_106 : decode cX11_leading 106 = .ok (.ineg, 1) := by decide +kernel
theorem dX11_leading_107 : decode cX11_leading 107 = .ok (.ireturn, 1) := by decide +kernel
noncomputable def f_X11_leading (x1 : Int32) (x2 : Int32) (x3 : Int32) (u0 : qM) : Option (Int32 × qM) :=
  q_ck (q_in x1 8) (q_ck (q_nz (u0.1 75 0 (Int32.toNatClampNeg x1))) (q_lt (x2 - x2 / (u0.1 75 0 (Int32.toNatClampNeg x1)) * (u0.1 75 0 (Int32.toNatClampNeg x1))) (fun (x4 : Int32) => if 2 ≤ x3 then q_jn (fun (x5 : Int32) (u1 : qM) => q_jn (fun (x6 : Int32) (u2 : qM) => some (x6, u2)) (fun j2 => if (0 : Int32) ≤ x5 then q_ck (q_in ((((96 * x1) + (2 * x5)) + x3) - 2) 768) (j2 (-(u1.1 94 0 (Int32.toNatClampNeg ((((96 * x1) + (2 * x5)) + x3) - 2)))) u1) else j2 0 u1)) (fun j1 => if x3 = 2 then if x4 ≤ 0 then j1 (-9) u0 else j1 (x2 - 1) u0 else q_ck (q_in x1 8) (j1 (x2 - (u0.1 75 0 (Int32.toNatClampNeg x1))) u0)) else q_bd (f_X11_beyond x1 ((2 * x2) + x3) u0) (fun (x7 : Int32) (u3 : qM) => q_jn (fun (x8 : Int32) (u4 : qM) => some (x8, u4)) (fun j3 => if (0 : Int32) ≤ x7 then q_ck (q_in (((96 * x1) + (2 * x2)) + x3) 768) (j3 (u3.1 94 0 (Int32.toNatClampNeg (((96 * x1) + (2 * x2)) + x3))) u3) else j3 0 u3)))))
set_option maxRecDepth 100000 in
set_option maxHeartbeats 4000000 in
theorem k_X11_leading (l : Launch) (G : qG) (x1 : Int32) (x2 : Int32) (x3 : Int32)  (u0 : qM) : qCt l G m_X11_leading q_cI [.ref (q_ad G 11 0), .int x1, .int x2, .int x3] u0 (f_X11_leading x1 x2 x3 u0) := by
  refine q_entry pk_X11_leading (Nat.le_of_ble_eq_true rfl) ?_
  show qAW l G m_X11_leading (q_mq G q_cI) 0 [(0, .ref (q_ad G 11 0)), (1, .int x1), (2, .int x2), (3, .int x3)] [] u0 (f_X11_leading x1 x2 x3 u0)
  unfold f_X11_leading
  refine aw_iload_n (i := 2) dX11_leading_0 1 rfl rfl 2 rfl ?_
  refine aw_aload_n (i := 0) dX11_leading_1 2 rfl rfl 0 rfl ?_
  refine gf_X11_15 dX11_leading_2 5 rfl wd_246 (ok_11 (by decide)) ?_
  refine aw_iload_n (i := 1) dX11_leading_5 6 rfl rfl 1 rfl ?_
  refine aw_iald dX11_leading_6 7 rfl at_75 (al_75 _) (ok_75 (by decide)) (fun h1 => ?_)
  refine aw_ck (fun h2 => ?_)
  refine aw_irem dX11_leading_7 8 rfl (of_decide_eq_true h2) ?_
  refine aw_lti (fun x4 => ?_)
  refine aw_istore dX11_leading_8 10 rfl [(4, .int x4), (0, .ref (q_ad G 11 0)), (1, .int x1), (2, .int x2), (3, .int x3)] (by decide) rfl ?_
  refine aw_iload_n (i := 3) dX11_leading_10 11 rfl rfl 4 rfl ?_
  refine aw_iconst (x := 2) dX11_leading_11 12 rfl rfl ?_
  refine aw_icmp_ge dX11_leading_12 15 rfl 48 rfl (fun h3 => ?_) (fun h3 => ?_)
  · refine aw_iload_n (i := 3) dX11_leading_48 49 rfl rfl 4 rfl ?_
    refine aw_iconst (x := 2) dX11_leading_49 50 rfl rfl ?_
    refine aw_jn (fun k => ∀ (x5 : Int32) (u1 : qM), qAW l G m_X11_leading (q_mq G q_cI) 77 [(0, .ref (q_ad G 11 0)), (1, .int x1), (3, .int x3)] [.int x5] u1 (k x5 u1)) ?_ ?_
    · intro x5 u1
      refine aw_istore dX11_leading_77 79 rfl [(5, .int x5), (0, .ref (q_ad G 11 0)), (1, .int x1), (3, .int x3)] (by decide) rfl ?_
      refine aw_iload (i := 5) dX11_leading_79 81 rfl 0 rfl ?_
      refine aw_jn (fun k => ∀ (x6 : Int32) (u2 : qM), qAW l G m_X11_leading (q_mq G q_cI) 107 [] [.int x6] u2 (k x6 u2)) ?_ ?_
      · intro x6 u2
        exact aw_iret dX11_leading_107 rfl
      · intro j2 hj2
        refine aw_if_ge dX11_leading_81 84 rfl 88 rfl (fun h5 => ?_) (fun h5 => ?_)
        · refine aw_aload_n (i := 0) dX11_leading_88 89 rfl rfl 1 rfl ?_
          refine gf_X11_34 dX11_leading_89 92 rfl wd_270 (ok_11 (by decide)) ?_
          refine aw_bipush (x := 96) dX11_leading_92 94 rfl rfl ?_
          refine aw_iload_n (i := 1) dX11_leading_94 95 rfl rfl 2 rfl ?_
          refine aw_imul dX11_leading_95 96 rfl ?_
          refine aw_iconst (x := 2) dX11_leading_96 97 rfl rfl ?_
          refine aw_iload (i := 5) dX11_leading_97 99 rfl 0 rfl ?_
          refine aw_imul dX11_leading_99 100 rfl ?_
          refine aw_iadd dX11_leading_100 101 rfl ?_
          refine aw_iload_n (i := 3) dX11_leading_101 102 rfl rfl 3 rfl ?_
          refine aw_iadd dX11_leading_102 103 rfl ?_
          refine aw_iconst (x := 2) dX11_leading_103 104 rfl rfl ?_
          refine aw_isub dX11_leading_104 105 rfl ?_
          refine aw_iald dX11_leading_105 106 rfl at_94 (al_94 _) (ok_94 (by decide)) (fun h6 => ?_)
          refine aw_ineg dX11_leading_106 107 rfl ?_
          exact aw_conv [] rfl (hj2 (-(u1.1 94 0 (Int32.toNatClampNeg ((((96 * x1) + (2 * x5)) + x3) - 2)))) u1)
        · refine aw_iconst (x := 0) dX11_leading_84 85 rfl rfl ?_
          refine aw_goto dX11_leading_85 107 rfl ?_
          exact aw_conv [] rfl (hj2 0 u1)
    · intro j1 hj1
      refine aw_icmp_ne dX11_leading_50 53 rfl 69 rfl (fun h4 => ?_) (fun h4 => ?_)
      · refine aw_iload_n (i := 2) dX11_leading_69 70 rfl rfl 3 rfl ?_
        refine aw_aload_n (i := 0) dX11_leading_70 71 rfl rfl 1 rfl ?_
        refine gf_X11_15 dX11_leading_71 74 rfl wd_246 (ok_11 (by decide)) ?_
        refine aw_iload_n (i := 1) dX11_leading_74 75 rfl rfl 2 rfl ?_
        refine aw_iald dX11_leading_75 76 rfl at_75 (al_75 _) (ok_75 (by decide)) (fun h7 => ?_)
        refine aw_isub dX11_leading_76 77 rfl ?_
        exact aw_conv [1, 2, 4] rfl (hj1 (x2 - (u0.1 75 0 (Int32.toNatClampNeg x1))) u0)
      · refine aw_iload (i := 4) dX11_leading_53 55 rfl 0 rfl ?_
        refine aw_if_le dX11_leading_55 58 rfl 64 rfl (fun h8 => ?_) (fun h8 => ?_)
        · refine aw_bipush (x := (-9)) dX11_leading_64 66 rfl rfl ?_
          refine aw_goto dX11_leading_66 77 rfl ?_
          exact aw_conv [1, 2, 4] rfl (hj1 (-9) u0)
        · refine aw_iload_n (i := 2) dX11_leading_58 59 rfl rfl 3 rfl ?_
          refine aw_iconst (x := 1) dX11_leading_59 60 rfl rfl ?_
          refine aw_isub dX11_leading_60 61 rfl ?_
          refine aw_goto dX11_leading_61 77 rfl ?_
          exact aw_conv [1, 2, 4] rfl (hj1 (x2 - 1) u0)
  · refine aw_aload_n (i := 0) dX11_leading_15 16 rfl rfl 1 rfl ?_
    refine aw_iload_n (i := 1) dX11_leading_16 17 rfl rfl 2 rfl ?_
    refine aw_iconst (x := 2) dX11_leading_17 18 rfl rfl ?_
    refine aw_iload_n (i := 2) dX11_leading_18 19 rfl rfl 3 rfl ?_
    refine aw_imul dX11_leading_19 20 rfl ?_
    refine aw_iload_n (i := 3) dX11_leading_20 21 rfl rfl 4 rfl ?_
    refine aw_iadd dX11_leading_21 22 rfl ?_
    refine aw_callV (M2 := m_X11_beyond) (cv := q_cI) dX11_leading_22 25 rfl (k_X11_beyond l G x1 ((2 * x2) + x3)  u0) wd_277 wv_X11_beyond pk_X11_beyond rfl rfl ⟨by decide, by decide⟩ ⟨Nat.zero_le _, Nat.zero_le _⟩ at_11 (ok_11 (by decide)) rfl rfl rfl (Nat.le_of_ble_eq_true rfl) (fun x7 u3 => ?_)
    show qAW l G m_X11_leading (q_mq G q_cI) 25 [(4, .int x4), (0, .ref (q_ad G 11 0)), (1, .int x1), (2, .int x2), (3, .int x3)] [.int x7] u3 _
    refine aw_jn (fun k => ∀ (x8 : Int32) (u4 : qM), qAW l G m_X11_leading (q_mq G q_cI) 47 [] [.int x8] u4 (k x8 u4)) ?_ ?_
    · intro x8 u4
      exact aw_iret dX11_leading_47 rfl
    · intro j3 hj3
      refine aw_if_ge dX11_leading_25 28 rfl 32 rfl (fun h9 => ?_) (fun h9 => ?_)
      · refine aw_aload_n (i := 0) dX11_leading_32 33 rfl rfl 1 rfl ?_
        refine gf_X11_34 dX11_leading_33 36 rfl wd_270 (ok_11 (by decide)) ?_
        refine aw_bipush (x := 96) dX11_leading_36 38 rfl rfl ?_
        refine aw_iload_n (i := 1) dX11_leading_38 39 rfl rfl 2 rfl ?_
        refine aw_imul dX11_leading_39 40 rfl ?_
        refine aw_iconst (x := 2) dX11_leading_40 41 rfl rfl ?_
        refine aw_iload_n (i := 2) dX11_leading_41 42 rfl rfl 3 rfl ?_
        refine aw_imul dX11_leading_42 43 rfl ?_
        refine aw_iadd dX11_leading_43 44 rfl ?_
        refine aw_iload_n (i := 3) dX11_leading_44 45 rfl rfl 4 rfl ?_
        refine aw_iadd dX11_leading_45 46 rfl ?_
        refine aw_iald dX11_leading_46 47 rfl at_94 (al_94 _) (ok_94 (by decide)) (fun h10 => ?_)
        exact aw_conv [] rfl (hj3 (u3.1 94 0 (Int32.toNatClampNeg (((96 * x1) + (2 * x2)) + x3))) u3)
      · refine aw_iconst (x := 0) dX11_leading_28 29 rfl rfl ?_
        refine aw_goto dX11_leading_29 47 rfl ?_
        exact aw_conv [] rfl (hj3 0 u3)
theorem dX11_drifts_0 : decode cX11_drifts 0 = .ok (.bipush (-9), 2) := by decide +kernel
theorem dX11_drifts_2 : decode cX11_drifts 2 = .ok (.istore 4, 2) := by decide +kernel
theorem dX11_drifts_4 : decode cX11_drifts 4 = .ok (.iconst 0, 1) := by decide +kernel
theorem dX11_drifts_5 : decode cX11_drifts 5 = .ok (.istore 5, 2) := by decide +kernel
theorem dX11_drifts_7 : decode cX11_drifts 7 = .ok (.iconst 0, 1) := by decide +kernel
theorem dX11_drifts_8 : decode cX11_drifts 8 = .ok (.istore 6, 2) := by decide +kernel
theorem dX11_drifts_10 : decode cX11_drifts 10 = .ok (.iload 6, 2) := by decide +kernel
theorem dX11_drifts_12 : decode cX11_drifts 12 = .ok (.iconst 4, 1) := by decide +kernel
theorem dX11_drifts_13 : decode cX11_drifts 13 = .ok (.if_icmp .ge 51, 3) := by decide +kernel
theorem dX11_drifts_16 : decode cX11_drifts 16 = .ok (.aload_n 0, 1) := by decide +kernel
theorem dX11_drifts_17 : decode cX11_drifts 17 = .ok (.iload_n 1, 1) := by decide +kernel
theorem dX11_drifts_18 : decode cX11_drifts 18 = .ok (.iload_n 2, 1) := by decide +kernel
theorem dX11_drifts_19 : decode cX11_drifts 19 = .ok (.iload 6, 2) := by decide +kernel
theorem dX11_drifts_21 : decode cX11_drifts 21 = .ok (.invokevirtual 281, 3) := by decide +kernel
theorem dX11_drifts_24 : decode cX11_drifts 24 = .ok (.istore 7, 2) := by decide +kernel
theorem dX11_drifts_26 : decode cX11_drifts 26 = .ok (.iload 7, 2) := by decide +kernel
theorem dX11_drifts_28 : decode cX11_drifts 28 = .ok (.iload 5, 2) := by decide +kernel
theorem dX11_drifts_30 : decode cX11_drifts 30 = .ok (.if_icmp .le 8, 3) := by decide +kernel
theorem dX11_drifts_33 : decode cX11_drifts 33 = .ok (.iload 6, 2) := by decide +kernel
theorem dX11_drifts_35 : decode cX11_drifts 35 = .ok (.goto 5, 3) := by decide +kernel
theorem dX11_drifts_38 : decode cX11_drifts 38 = .ok (.iload 4, 2) := by decide +kernel
theorem dX11_drifts_40 : decode cX11_drifts 40 = .ok (.istore 4, 2) := by decide +kernel
theorem dX11_drifts_42 : decode cX11_drifts 42 = .ok (.iload 7, 2) := by decide +kernel
theorem dX11_drifts_44 : decode cX11_drifts 44 = .ok (.iload 5, 2) := by decide +kernel
theorem dX11_drifts_46 : decode cX11_drifts 46 = .ok (.if_icmp .le 8, 3) := by decide +kernel
theorem dX11_drifts_49 : decode cX11_drifts 49 = .ok (.iload 7, 2) := by decide +kernel
theorem dX11_drifts_51 : decode cX11_drifts 51 = .ok (.goto 5, 3) := by decide +kernel
theorem dX11_drifts_54 : decode cX11_drifts 54 = .ok (.iload 5, 2) := by decide +kernel
theorem dX11_drifts_56 : decode cX11_drifts 56 = .ok (.istore 5, 2) := by decide +kernel
theorem dX11_drifts_58 : decode cX11_drifts 58 = .ok (.iinc 6 1, 3) := by decide +kernel
theorem dX11_drifts_61 : decode cX11_drifts 61 = .ok (.goto (-51), 3) := by decide +kernel
theorem dX11_drifts_64 : decode cX11_drifts 64 = .ok (.iload 4, 2) := by decide +kernel
theorem dX11_drifts_66 : decode cX11_drifts 66 = .ok (.ifCond .lt 9, 3) := by decide +kernel
theorem dX11_drifts_69 : decode cX11_drifts 69 = .ok (.iload 5, 2) := by decide +kernel
theorem dX11_drifts_71 : decode cX11_drifts 71 = .ok (.iload_n 3, 1) := by decide +kernel
theorem dX11_drifts_72 : decode cX11_drifts 72 = .ok (.if_icmp .ge 5, 3) := by decide +kernel
theorem dX11_drifts_75 : decode cX11_drifts 75 = .ok (.iload_n 2, 1) := by decide +kernel
theorem dX11_drifts_76 : decode cX11_drifts 76 = .ok (.ireturn, 1) := by decide +kernel
theorem dX11_drifts_77 : decode cX11_drifts 77 = .ok (.iload 4, 2) := by decide +kernel
theorem dX11_drifts_79 : decode cX11_drifts 79 = .ok (.ifCond .ne 9, 3) := by decide +kernel
theorem dX11_drifts_82 : decode cX11_drifts 82 = .ok (.iload_n 2, 1) := by decide +kernel
theorem dX11_drifts_83 : decode cX11_drifts 83 = .ok (.iconst 1, 1) := by decide +kernel
theorem dX11_drifts_84 : decode cX11_drifts 84 = .ok (.iadd, 1) := by decide +kernel
theorem dX11_drifts_85 : decode cX11_drifts 85 = .ok (.goto 40, 3) := by decide +kernel
theorem dX11_drifts_88 : decode cX11_drifts 88 = .ok (.iload 4, 2) := by decide +kernel
theorem dX11_drifts_90 : decode cX11_drifts 90 = .ok (.iconst 1, 1) := by decide +kernel
theorem dX11_drifts_91 : decode cX11_drifts 91 = .ok (.if_icmp .ne 14, 3) := by decide +kernel
theorem dX11_drifts_94 : decode cX11_drifts 94 = .ok (.iload_n 2, 1) := by decide +kernel
theorem dX11_drifts_95 : decode cX11_drifts 95 = .ok (.aload_n 0, 1) := by decide +kernel
theorem dX11_drifts_96 : decode cX11_drifts 96 = .ok (.getfield 41, 3) := by decide +kernel
theorem dX11_drifts_99 : decode cX11_drifts 99 = .ok (.iload_n 1, 1) := by decide +kernel
theorem dX11_drifts_100 : decode cX11_drifts 100 = .ok (.iaload, 1) := by decide +kernel
theorem dX11_drifts_101 : decode cX11_drifts 101 = .ok (.iadd, 1) := by decide +kernel
theorem dX11_drifts_102 : decode cX11_drifts 102 = .ok (.goto 23, 3) := by decide +kernel
theorem dX11_drifts_105 : decode cX11_drifts 105 = .ok (.iload 4, 2) := by decide +kernel
theorem dX11_drifts_107 : decode cX11_drifts 107 = .ok (.iconst 2, 1) := by decide +kernel
theorem dX11_drifts_108 : decode cX11_drifts 108 = .ok (.if_icmp .ne 9, 3) := by decide +kernel
theorem dX11_drifts_111 : decode cX11_drifts 111 = .ok (.iload_n 2, 1) := by decide +kernel
theorem dX11_drifts_112 : decode cX11_drifts 112 = .ok (.iconst 1, 1) := by decide +kernel
theorem dX11_drifts_113 : decode cX11_drifts 113 = .ok (.isub, 1) := by decide +kernel
theorem dX11_drifts_114 : decode cX11_drifts 114 = .ok (.goto 11, 3) := by decide +kernel
theorem dX11_drifts_117 : decode cX11_drifts 117 = .ok (.iload_n 2, 1) := by decide +kernel
theorem dX11_drifts_118 : decode cX11_drifts 118 = .ok (.aload_n 0, 1) := by decide +kernel
theorem dX11_drifts_119 : decode cX11_drifts 119 = .ok (.getfield 41, 3) := by decide +kernel
theorem dX11_drifts_122 : decode cX11_drifts 122 = .ok (.iload_n 1, 1) := by decide +kernel
theorem dX11_drifts_123 : decode cX11_drifts 123 = .ok (.iaload, 1) := by decide +kernel
theorem dX11_drifts_124 : decode cX11_drifts 124 = .ok (.isub, 1) := by decide +kernel
theorem dX11_drifts_125 : decode cX11_drifts 125 = .ok (.ireturn, 1) := by decide +kernel
noncomputable def L_X11_drifts_10 (x1 : Int32) (x2 : Int32) (x3 : Int32) : Nat → Int32 → Int32 → Int32 → qM → (Int32 → Int32 → qM → Option (Int32 × qM)) → Option (Int32 × qM)
  | 0, _, _, _, _, _ => none
  | n + 1, x4, x5, x6, u1, e1 => if 4 ≤ x6 then e1 x4 x5 u1 else q_bd (f_X11_leading x1 x2 x6 u1) (fun (x7 : Int32) (u2 : qM) => q_jn (fun (x8 : Int32) (u3 : qM) => q_jn (fun (x9 : Int32) (u4 : qM) => q_lt (x6 + 1) (fun (x10 : Int32) => L_X11_drifts_10 x1 x2 x3 n x8 x9 x10 u4 e1)) (fun j2 => if x7 ≤ x5 then j2 x5 u3 else j2 x7 u3)) (fun j1 => if x7 ≤ x5 then j1 x4 u2 else j1 x6 u2))
noncomputable def f_X11_drifts (x1 : Int32) (x2 : Int32) (x3 : Int32) (u0 : qM) : Option (Int32 × qM) :=
  L_X11_drifts_10 x1 x2 x3 q_fu (-9) 0 0 u0 (fun x11 x12 u5 => q_jn (fun  (u6 : qM) => some (x2, u6)) (fun j3 => if x11 < 0 then j3 u5 else if x3 ≤ x12 then q_jn (fun (x13 : Int32) (u7 : qM) => some (x13, u7)) (fun j4 => if x11 = 0 then j4 (x2 + 1) u5 else if x11 = 1 then q_ck (q_in x1 8) (j4 (x2 + (u5.1 75 0 (Int32.toNatClampNeg x1))) u5) else if x11 = 2 then j4 (x2 - 1) u5 else q_ck (q_in x1 8) (j4 (x2 - (u5.1 75 0 (Int32.toNatClampNeg x1))) u5)) else j3 u5))
set_option maxRecDepth 100000 in
set_option maxHeartbeats 4000000 in
theorem TL_X11_drifts_10 (l : Launch) (G : qG) (x1 : Int32) (x2 : Int32) (x3 : Int32)  (e1 : Int32 → Int32 → qM → Option (Int32 × qM)) (he1 : ∀ (y1 : Int32) (y2 : Int32) (v : qM), qAW l G m_X11_drifts (q_mq G q_cI) 64 [(0, .ref (q_ad G 11 0)), (1, .int x1), (2, .int x2), (3, .int x3), (4, .int y1), (5, .int y2)] [] v (e1 y1 y2 v)) : ∀ (n : Nat) (x4 : Int32) (x5 : Int32) (x6 : Int32) (u1 : qM), qAW l G m_X11_drifts (q_mq G q_cI) 10 [(0, .ref (q_ad G 11 0)), (1, .int x1), (2, .int x2), (3, .int x3), (4, .int x4), (5, .int x5), (6, .int x6)] [] u1 (L_X11_drifts_10 x1 x2 x3 n x4 x5 x6 u1 e1) := by
  intro n
  induction n with
  | zero => intros; exact aw_none
  | succ n ih =>
    intro x4 x5 x6 u1
    unfold L_X11_drifts_10
    refine aw_iload (i := 6) dX11_drifts_10 12 rfl 6 rfl ?_
    refine aw_iconst (x := 4) dX11_drifts_12 13 rfl rfl ?_
    refine aw_icmp_ge dX11_drifts_13 16 rfl 64 rfl (fun h1 => ?_) (fun h1 => ?_)
    · exact aw_conv [0, 1, 2, 3, 4, 5] rfl (he1 x4 x5 u1)
    · refine aw_aload_n (i := 0) dX11_drifts_16 17 rfl rfl 0 rfl ?_
      refine aw_iload_n (i := 1) dX11_drifts_17 18 rfl rfl 1 rfl ?_
      refine aw_iload_n (i := 2) dX11_drifts_18 19 rfl rfl 2 rfl ?_
      refine aw_iload (i := 6) dX11_drifts_19 21 rfl 6 rfl ?_
      refine aw_callV (M2 := m_X11_leading) (cv := q_cI) dX11_drifts_21 24 rfl (k_X11_leading l G x1 x2 x6  u1) wd_288 wv_X11_leading pk_X11_leading rfl rfl ⟨by decide, by decide⟩ ⟨Nat.zero_le _, Nat.zero_le _⟩ at_11 (ok_11 (by decide)) rfl rfl rfl (Nat.le_of_ble_eq_true rfl) (fun x7 u2 => ?_)
      show qAW l G m_X11_drifts (q_mq G q_cI) 24 [(0, .ref (q_ad G 11 0)), (1, .int x1), (2, .int x2), (3, .int x3), (4, .int x4), (5, .int x5), (6, .int x6)] [.int x7] u2 _
      refine aw_istore dX11_drifts_24 26 rfl [(7, .int x7), (0, .ref (q_ad G 11 0)), (1, .int x1), (2, .int x2), (3, .int x3), (4, .int x4), (5, .int x5), (6, .int x6)] (by decide) rfl ?_
      refine aw_iload (i := 7) dX11_drifts_26 28 rfl 0 rfl ?_
      refine aw_iload (i := 5) dX11_drifts_28 30 rfl 6 rfl ?_
      refine aw_jn (fun k => ∀ (x8 : Int32) (u3 : qM), qAW l G m_X11_drifts (q_mq G q_cI) 40 [(0, .ref (q_ad G 11 0)), (1, .int x1), (2, .int x2), (3, .int x3), (5, .int x5), (6, .int x6), (7, .int x7)] [.int x8] u3 (k x8 u3)) ?_ ?_
      · intro x8 u3
        refine aw_istore dX11_drifts_40 42 rfl [(4, .int x8), (0, .ref (q_ad G 11 0)), (1, .int x1), (2, .int x2), (3, .int x3), (5, .int x5), (6, .int x6), (7, .int x7)] (by decide) rfl ?_
        refine aw_iload (i := 7) dX11_drifts_42 44 rfl 7 rfl ?_
        refine aw_iload (i := 5) dX11_drifts_44 46 rfl 5 rfl ?_
        refine aw_jn (fun k => ∀ (x9 : Int32) (u4 : qM), qAW l G m_X11_drifts (q_mq G q_cI) 56 [(0, .ref (q_ad G 11 0)), (1, .int x1), (2, .int x2), (3, .int x3), (4, .int x8), (6, .int x6)] [.int x9] u4 (k x9 u4)) ?_ ?_
        · intro x9 u4
          refine aw_istore dX11_drifts_56 58 rfl [(5, .int x9), (0, .ref (q_ad G 11 0)), (1, .int x1), (2, .int x2), (3, .int x3), (4, .int x8), (6, .int x6)] (by decide) rfl ?_
          refine aw_iincx (i := 6) dX11_drifts_58 61 rfl 6 rfl 1 rfl (fun x10 => [(6, .int x10), (5, .int x9), (0, .ref (q_ad G 11 0)), (1, .int x1), (2, .int x2), (3, .int x3), (4, .int x8)]) (by decide) (fun _ => rfl) (fun x10 => ?_)
          refine aw_goto dX11_drifts_61 10 rfl ?_
          exact aw_conv [2, 3, 4, 5, 6, 1, 0] rfl (ih x8 x9 x10 u4)
        · intro j2 hj2
          refine aw_icmp_le dX11_drifts_46 49 rfl 54 rfl (fun h3 => ?_) (fun h3 => ?_)
          · refine aw_iload (i := 5) dX11_drifts_54 56 rfl 5 rfl ?_
            exact aw_conv [1, 2, 3, 4, 0, 6] rfl (hj2 x5 u3)
          · refine aw_iload (i := 7) dX11_drifts_49 51 rfl 7 rfl ?_
            refine aw_goto dX11_drifts_51 56 rfl ?_
            exact aw_conv [1, 2, 3, 4, 0, 6] rfl (hj2 x7 u3)
      · intro j1 hj1
        refine aw_icmp_le dX11_drifts_30 33 rfl 38 rfl (fun h2 => ?_) (fun h2 => ?_)
        · refine aw_iload (i := 4) dX11_drifts_38 40 rfl 5 rfl ?_
          exact aw_conv [1, 2, 3, 4, 6, 7, 0] rfl (hj1 x4 u2)
        · refine aw_iload (i := 6) dX11_drifts_33 35 rfl 7 rfl ?_
          refine aw_goto dX11_drifts_35 40 rfl ?_
          exact aw_conv [1, 2, 3, 4, 6, 7, 0] rfl (hj1 x6 u2)
set_option maxRecDepth 100000 in
set_option maxHeartbeats 4000000 in
theorem k_X11_drifts (l : Launch) (G : qG) (x1 : Int32) (x2 : Int32) (x3 : Int32)  (u0 : qM) : qCt l G m_X11_drifts q_cI [.ref (q_ad G 11 0), .int x1, .int x2, .int x3] u0 (f_X11_drifts x1 x2 x3 u0) := by
  refine q_entry pk_X11_drifts (Nat.le_of_ble_eq_true rfl) ?_
  show qAW l G m_X11_drifts (q_mq G q_cI) 0 [(0, .ref (q_ad G 11 0)), (1, .int x1), (2, .int x2), (3, .int x3)] [] u0 (f_X11_drifts x1 x2 x3 u0)
  unfold f_X11_drifts
  refine aw_bipush (x := (-9)) dX11_drifts_0 2 rfl rfl ?_
  refine aw_istore dX11_drifts_2 4 rfl [(4, .int (-9)), (0, .ref (q_ad G 11 0)), (1, .int x1), (2, .int x2), (3, .int x3)] (by decide) rfl ?_
  refine aw_iconst (x := 0) dX11_drifts_4 5 rfl rfl ?_
  refine aw_istore dX11_drifts_5 7 rfl [(5, .int 0), (4, .int (-9)), (0, .ref (q_ad G 11 0)), (1, .int x1), (2, .int x2), (3, .int x3)] (by decide) rfl ?_
  refine aw_iconst (x := 0) dX11_drifts_7 8 rfl rfl ?_
  refine aw_istore dX11_drifts_8 10 rfl [(6, .int 0), (5, .int 0), (4, .int (-9)), (0, .ref (q_ad G 11 0)), (1, .int x1), (2, .int x2), (3, .int x3)] (by decide) rfl ?_
  refine aw_conv [3, 4, 5, 6, 2, 1, 0] rfl (TL_X11_drifts_10 l G x1 x2 x3  _ ?_ _ (-9) 0 0 u0)
  · intro x11 x12 u5
    refine aw_iload (i := 4) dX11_drifts_64 66 rfl 4 rfl ?_
    refine aw_jn (fun k => ∀  (u6 : qM), qAW l G m_X11_drifts (q_mq G q_cI) 75 [(2, .int x2)] [] u6 (k u6)) ?_ ?_
    · intro u6
      refine aw_iload_n (i := 2) dX11_drifts_75 76 rfl rfl 0 rfl ?_
      exact aw_iret dX11_drifts_76 rfl
    · intro j3 hj3
      refine aw_if_lt dX11_drifts_66 69 rfl 75 rfl (fun h4 => ?_) (fun h4 => ?_)
      · exact aw_conv [2] rfl (hj3 u5)
      · refine aw_iload (i := 5) dX11_drifts_69 71 rfl 5 rfl ?_
        refine aw_iload_n (i := 3) dX11_drifts_71 72 rfl rfl 3 rfl ?_
        refine aw_icmp_ge dX11_drifts_72 75 rfl 77 rfl (fun h5 => ?_) (fun h5 => ?_)
        · refine aw_iload (i := 4) dX11_drifts_77 79 rfl 4 rfl ?_
          refine aw_jn (fun k => ∀ (x13 : Int32) (u7 : qM), qAW l G m_X11_drifts (q_mq G q_cI) 125 [] [.int x13] u7 (k x13 u7)) ?_ ?_
          · intro x13 u7
            exact aw_iret dX11_drifts_125 rfl
          · intro j4 hj4
            refine aw_if_ne dX11_drifts_79 82 rfl 88 rfl (fun h6 => ?_) (fun h6 => ?_)
            · refine aw_iload (i := 4) dX11_drifts_88 90 rfl 4 rfl ?_
              refine aw_iconst (x := 1) dX11_drifts_90 91 rfl rfl ?_
              refine aw_icmp_ne dX11_drifts_91 94 rfl 105 rfl (fun h7 => ?_) (fun h7 => ?_)
              · refine aw_iload (i := 4) dX11_drifts_105 107 rfl 4 rfl ?_
                refine aw_iconst (x := 2) dX11_drifts_107 108 rfl rfl ?_
                refine aw_icmp_ne dX11_drifts_108 111 rfl 117 rfl (fun h8 => ?_) (fun h8 => ?_)
                · refine aw_iload_n (i := 2) dX11_drifts_117 118 rfl rfl 2 rfl ?_
                  refine aw_aload_n (i := 0) dX11_drifts_118 119 rfl rfl 0 rfl ?_
                  refine gf_X11_15 dX11_drifts_119 122 rfl wd_246 (ok_11 (by decide)) ?_
                  refine aw_iload_n (i := 1) dX11_drifts_122 123 rfl rfl 1 rfl ?_
                  refine aw_iald dX11_drifts_123 124 rfl at_75 (al_75 _) (ok_75 (by decide)) (fun h9 => ?_)
                  refine aw_isub dX11_drifts_124 125 rfl ?_
                  exact aw_conv [] rfl (hj4 (x2 - (u5.1 75 0 (Int32.toNatClampNeg x1))) u5)
                · refine aw_iload_n (i := 2) dX11_drifts_111 112 rfl rfl 2 rfl ?_
                  refine aw_iconst (x := 1) dX11_drifts_112 113 rfl rfl ?_
                  refine aw_isub dX11_drifts_113 114 rfl ?_
                  refine aw_goto dX11_drifts_114 125 rfl ?_
                  exact aw_conv [] rfl (hj4 (x2 - 1) u5)
              · refine aw_iload_n (i := 2) dX11_drifts_94 95 rfl rfl 2 rfl ?_
                refine aw_aload_n (i := 0) dX11_drifts_95 96 rfl rfl 0 rfl ?_
                refine gf_X11_15 dX11_drifts_96 99 rfl wd_246 (ok_11 (by decide)) ?_
                refine aw_iload_n (i := 1) dX11_drifts_99 100 rfl rfl 1 rfl ?_
                refine aw_iald dX11_drifts_100 101 rfl at_75 (al_75 _) (ok_75 (by decide)) (fun h10 => ?_)
                refine aw_iadd dX11_drifts_101 102 rfl ?_
                refine aw_goto dX11_drifts_102 125 rfl ?_
                exact aw_conv [] rfl (hj4 (x2 + (u5.1 75 0 (Int32.toNatClampNeg x1))) u5)
            · refine aw_iload_n (i := 2) dX11_drifts_82 83 rfl rfl 2 rfl ?_
              refine aw_iconst (x := 1) dX11_drifts_83 84 rfl rfl ?_
              refine aw_iadd dX11_drifts_84 85 rfl ?_
              refine aw_goto dX11_drifts_85 125 rfl ?_
              exact aw_conv [] rfl (hj4 (x2 + 1) u5)
        · exact aw_conv [2] rfl (hj3 u5)
theorem dX11_write_0 : decode cX11_write 0 = .ok (.aload_n 0, 1) := by decide +kernel
theorem dX11_write_1 : decode cX11_write 1 = .ok (.getfield 147, 3) := by decide +kernel
theorem dX11_write_4 : decode cX11_write 4 = .ok (.iload_n 1, 1) := by decide +kernel
theorem dX11_write_5 : decode cX11_write 5 = .ok (.iaload, 1) := by decide +kernel
theorem dX11_write_6 : decode cX11_write 6 = .ok (.bipush 48, 2) := by decide +kernel
theorem dX11_write_8 : decode cX11_write 8 = .ok (.if_icmp .ne 75, 3) := by decide +kernel
theorem dX11_write_11 : decode cX11_write 11 = .ok (.iconst 0, 1) := by decide +kernel
theorem dX11_write_12 : decode cX11_write 12 = .ok (.istore_n 3, 1) := by decide +kernel
theorem dX11_write_13 : decode cX11_write 13 = .ok (.iload_n 3, 1) := by decide +kernel
theorem dX11_write_14 : decode cX11_write 14 = .ok (.bipush 47, 2) := by decide +kernel
theorem dX11_write_16 : decode cX11_write 16 = .ok (.if_icmp .ge 57, 3) := by decide +kernel
theorem dX11_write_19 : decode cX11_write 19 = .ok (.aload_n 0, 1) := by decide +kernel
theorem dX11_write_20 : decode cX11_write 20 = .ok (.getfield 150, 3) := by decide +kernel
theorem dX11_write_23 : decode cX11_write 23 = .ok (.bipush 48, 2) := by decide +kernel
theorem dX11_write_25 : decode cX11_write 25 = .ok (.iload_n 1, 1) := by decide +kernel
theorem dX11_write_26 : decode cX11_write 26 = .ok (.imul, 1) := by decide +kernel
theorem dX11_write_27 : decode cX11_write 27 = .ok (.iload_n 3, 1) := by decide +kernel
theorem dX11_write_28 : decode cX11_write 28 = .ok (.iadd, 1) := by decide +kernel
theorem dX11_write_29 : decode cX11_write 29 = .ok (.aload_n 0, 1) := by decide +kernel
theorem dX11_write_30 : decode cX11_write 30 = .ok (.getfield 150, 3) := by decide +kernel
theorem dX11_write_33 : decode cX11_write 33 = .ok (.bipush 48, 2) := by decide +kernel
theorem dX11_write_35 : decode cX11_write 35 = .ok (.iload_n 1, 1) := by decide +kernel
theorem dX11_write_36 : decode cX11_write 36 = .ok (.imul, 1) := by decide +kernel
theorem dX11_write_37 : decode cX11_write 37 = .ok (.iload_n 3, 1) := by decide +kernel
theorem dX11_write_38 : decode cX11_write 38 = .ok (.iadd, 1) := by decide +kernel
theorem dX11_write_39 : decode cX11_write 39 = .ok (.iconst 1, 1) := by decide +kernel
theorem dX11_write_40 : decode cX11_write 40 = .ok (.iadd, 1) := by decide +kernel
theorem dX11_write_41 : decode cX11_write 41 = .ok (.iaload, 1) := by decide +kernel
theorem dX11_write_42 : decode cX11_write 42 = .ok (.iastore, 1) := by decide +kernel
theorem dX11_write_43 : decode cX11_write 43 = .ok (.aload_n 0, 1) := by decide +kernel
theorem dX11_write_44 : decode cX11_write 44 = .ok (.getfield 153, 3) := by decide +kernel
theorem dX11_write_47 : decode cX11_write 47 = .ok (.bipush 48, 2) := by decide +kernel
theorem dX11_write_49 : decode cX11_write 49 = .ok (.iload_n 1, 1) := by decide +kernel
theorem dX11_write_50 : decode cX11_write 50 = .ok (.imul, 1) := by decide +kernel
theorem dX11_write_51 : decode cX11_write 51 = .ok (.iload_n 3, 1) := by decide +kernel
theorem dX11_write_52 : decode cX11_write 52 = .ok (.iadd, 1) := by decide +kernel
theorem dX11_write_53 : decode cX11_write 53 = .ok (.aload_n 0, 1) := by decide +kernel
theorem dX11_write_54 : decode cX11_write 54 = .ok (.getfield 153, 3) := by decide +kernel
theorem dX11_write_57 : decode cX11_write 57 = .ok (.bipush 48, 2) := by decide +kernel
theorem dX11_write_59 : decode cX11_write 59 = .ok (.iload_n 1, 1) := by decide +kernel
theorem dX11_write_60 : decode cX11_write 60 = .ok (.imul, 1) := by decide +kernel
theorem dX11_write_61 : decode cX11_write 61 = .ok (.iload_n 3, 1) := by decide +kernel
theorem dX11_write_62 : decode cX11_write 62 = .ok (.iadd, 1) := by decide +kernel
theorem dX11_write_63 : decode cX11_write 63 = .ok (.iconst 1, 1) := by decide +kernel
theorem dX11_write_64 : decode cX11_write 64 = .ok (.iadd, 1) := by decide +kernel
theorem dX11_write_65 : decode cX11_write 65 = .ok (.baload, 1) := by decide +kernel
theorem dX11_write_66 : decode cX11_write 66 = .ok (.bastore, 1) := by decide +kernel
theorem dX11_write_67 : decode cX11_write 67 = .ok (.iinc 3 1, 3) := by decide +kernel
theorem dX11_write_70 : decode cX11_write 70 = .ok (.goto (-57), 3) := by decide +kernel
theorem dX11_write_73 : decode cX11_write 73 = .ok (.aload_n 0, 1) := by decide +kernel
theorem dX11_write_74 : decode cX11_write 74 = .ok (.getfield 147, 3) := by decide +kernel
theorem dX11_write_77 : decode cX11_write 77 = .ok (.iload_n 1, 1) := by decide +kernel
theorem dX11_write_78 : decode cX11_write 78 = .ok (.dup2, 1) := by decide +kernel
theorem dX11_write_79 : decode cX11_write 79 = .ok (.iaload, 1) := by decide +kernel
theorem dX11_write_80 : decode cX11_write 80 = .ok (.iconst 1, 1) := by decide +kernel
theorem dX11_write_81 : decode cX11_write 81 = .ok (.isub, 1) := by decide +kernel
theorem dX11_write_82 : decode cX11_write 82 = .ok (.iastore, 1) := by decide +kernel
theorem dX11_write_83 : decode cX11_write 83 = .ok (.aload_n 0, 1) := by decide +kernel
theorem dX11_write_84 : decode cX11_write 84 = .ok (.getfield 150, 3) := by decide +kernel
theorem dX11_write_87 : decode cX11_write 87 = .ok (.bipush 48, 2) := by decide +kernel
theorem dX11_write_89 : decode cX11_write 89 = .ok (.iload_n 1, 1) := by decide +kernel
theorem dX11_write_90 : decode cX11_write 90 = .ok (.imul, 1) := by decide +kernel
theorem dX11_write_91 : decode cX11_write 91 = .ok (.aload_n 0, 1) := by decide +kernel
theorem dX11_write_92 : decode cX11_write 92 = .ok (.getfield 147, 3) := by decide +kernel
theorem dX11_write_95 : decode cX11_write 95 = .ok (.iload_n 1, 1) := by decide +kernel
theorem dX11_write_96 : decode cX11_write 96 = .ok (.iaload, 1) := by decide +kernel
theorem dX11_write_97 : decode cX11_write 97 = .ok (.iadd, 1) := by decide +kernel
theorem dX11_write_98 : decode cX11_write 98 = .ok (.iload_n 2, 1) := by decide +kernel
theorem dX11_write_99 : decode cX11_write 99 = .ok (.iastore, 1) := by decide +kernel
theorem dX11_write_100 : decode cX11_write 100 = .ok (.aload_n 0, 1) := by decide +kernel
theorem dX11_write_101 : decode cX11_write 101 = .ok (.getfield 153, 3) := by decide +kernel
theorem dX11_write_104 : decode cX11_write 104 = .ok (.bipush 48, 2) := by decide +kernel
theorem dX11_write_106 : decode cX11_write 106 = .ok (.iload_n 1, 1) := by decide +kernel
theorem dX11_write_107 : decode cX11_write 107 = .ok (.imul, 1) := by decide +kernel
theorem dX11_write_108 : decode cX11_write 108 = .ok (.aload_n 0, 1) := by decide +kernel
theorem dX11_write_109 : decode cX11_write 109 = .ok (.getfield 147, 3) := by decide +kernel
theorem dX11_write_112 : decode cX11_write 112 = .ok (.iload_n 1, 1) := by decide +kernel
theorem dX11_write_113 : decode cX11_write 113 = .ok (.iaload, 1) := by decide +kernel
theorem dX11_write_114 : decode cX11_write 114 = .ok (.iadd, 1) := by decide +kernel
theorem dX11_write_115 : decode cX11_write 115 = .ok (.iconst 0, 1) := by decide +kernel
theorem dX11_write_116 : decode cX11_write 116 = .ok (.bastore, 1) := by decide +kernel
theorem dX11_write_117 : decode cX11_write 117 = .ok (.aload_n 0, 1) := by decide +kernel
theorem dX11_write_118 : decode cX11_write 118 = .ok (.getfield 147, 3) := by decide +kernel
theorem dX11_write_121 : decode cX11_write 121 = .ok (.iload_n 1, 1) := by decide +kernel
theorem dX11_write_122 : decode cX11_write 122 = .ok (.dup2, 1) := by decide +kernel
theorem dX11_write_123 : decode cX11_write 123 = .ok (.iaload, 1) := by decide +kernel
theorem dX11_write_124 : decode cX11_write 124 = .ok (.iconst 1, 1) := by decide +kernel
theorem dX11_write_125 : decode cX11_write 125 = .ok (.iadd, 1) := by decide +kernel
theorem dX11_write_126 : decode cX11_write 126 = .ok (.iastore, 1) := by decide +kernel
theorem dX11_write_127 : decode cX11_write 127 = .ok (.return_, 1) := by decide +kernel
noncomputable def L_X11_write_13 (x1 : Int32) (x2 : Int32) : Nat → Int32 → qM → (qM → Option (Unit × qM)) → Option (Unit × qM)
  | 0, _, _, _ => none
  | n + 1, x3, u5, e1 => if 47 ≤ x3 then e1 u5 else q_ck (q_in (((48 * x1) + x3) + 1) 384) (q_ck (q_in ((48 * x1) + x3) 384) (q_lt (q_si u5 111 0 (Int32.toNatClampNeg ((48 * x1) + x3)) (u5.1 111 0 (Int32.toNatClampNeg (((48 * x1) + x3) + 1)))) (fun (u6 : qM) => q_ck (q_in (((48 * x1) + x3) + 1) 384) (q_ck (q_in ((48 * x1) + x3) 384) (q_lt (q_si u6 112 0 (Int32.toNatClampNeg ((48 * x1) + x3)) (vp_nar .boolean (u6.1 112 0 (Int32.toNatClampNeg (((48 * x1) + x3) + 1))))) (fun (u7 : qM) => q_lt (x3 + 1) (fun (x4 : Int32) => L_X11_write_13 x1 x2 n x4 u7 e1)))))))
noncomputable def f_X11_write (x1 : Int32) (x2 : Int32) (u0 : qM) : Option (Unit × qM) :=
  q_ck (q_in x1 8) (q_jn (fun  (u1 : qM) => q_ck (q_in x1 8) (q_ck (q_in ((48 * x1) + (u1.1 110 0 (Int32.toNatClampNeg x1))) 384) (q_lt (q_si u1 111 0 (Int32.toNatClampNeg ((48 * x1) + (u1.1 110 0 (Int32.toNatClampNeg x1)))) x2) (fun (u2 : qM) => q_ck (q_in x1 8) (q_ck (q_in ((48 * x1) + (u2.1 110 0 (Int32.toNatClampNeg x1))) 384) (q_lt (q_si u2 112 0 (Int32.toNatClampNeg ((48 * x1) + (u2.1 110 0 (Int32.toNatClampNeg x1)))) (vp_nar .boolean 0)) (fun (u3 : qM) => q_ck (q_in x1 8) (q_ck (q_in x1 8) (q_lt (q_si u3 110 0 (Int32.toNatClampNeg x1) ((u3.1 110 0 (Int32.toNatClampNeg x1)) + 1)) (fun (u4 : qM) => some ((), u4))))))))))) (fun j1 => if (u0.1 110 0 (Int32.toNatClampNeg x1)) = 48 then L_X11_write_13 x1 x2 q_fu 0 u0 (fun u8 => q_ck (q_in x1 8) (q_ck (q_in x1 8) (q_lt (q_si u8 110 0 (Int32.toNatClampNeg x1) ((u8.1 110 0 (Int32.toNatClampNeg x1)) - 1)) (fun (u9 : qM) => j1 u9)))) else j1 u0))
set_option maxRecDepth 100000 in
set_option maxHeartbeats 4000000 in
theorem TL_X11_write_13 (l : Launch) (G : qG) (x1 : Int32) (x2 : Int32)  (e1 : qM → Option (Unit × qM)) (he1 : ∀  (v : qM), qAW l G m_X11_write (q_mq G q_cU) 73 [(0, .ref (q_ad G 11 0)), (1, .int x1), (2, .int x2)] [] v (e1 v)) : ∀ (n : Nat) (x3 : Int32) (u5 : qM), qAW l G m_X11_write (q_mq G q_cU) 13 [(0, .ref (q_ad G 11 0)), (1, .int x1), (2, .int x2), (3, .int x3)] [] u5 (L_X11_write_13 x1 x2 n x3 u5 e1) := by
  intro n
  induction n with
  | zero => intros; exact aw_none
  | succ n ih =>
    intro x3 u5
    unfold L_X11_write_13
    refine aw_iload_n (i := 3) dX11_write_13 14 rfl rfl 3 rfl ?_
    refine aw_bipush (x := 47) dX11_write_14 16 rfl rfl ?_
    refine aw_icmp_ge dX11_write_16 19 rfl 73 rfl (fun h9 => ?_) (fun h9 => ?_)
    · exact aw_conv [0, 1, 2] rfl (he1 u5)
    · refine aw_aload_n (i := 0) dX11_write_19 20 rfl rfl 0 rfl ?_
      refine gf_X11_51 dX11_write_20 23 rfl wd_290 (ok_11 (by decide)) ?_
      refine aw_bipush (x := 48) dX11_write_23 25 rfl rfl ?_
      refine aw_iload_n (i := 1) dX11_write_25 26 rfl rfl 1 rfl ?_
      refine aw_imul dX11_write_26 27 rfl ?_
      refine aw_iload_n (i := 3) dX11_write_27 28 rfl rfl 3 rfl ?_
      refine aw_iadd dX11_write_28 29 rfl ?_
      refine aw_aload_n (i := 0) dX11_write_29 30 rfl rfl 0 rfl ?_
      refine gf_X11_51 dX11_write_30 33 rfl wd_290 (ok_11 (by decide)) ?_
      refine aw_bipush (x := 48) dX11_write_33 35 rfl rfl ?_
      refine aw_iload_n (i := 1) dX11_write_35 36 rfl rfl 1 rfl ?_
      refine aw_imul dX11_write_36 37 rfl ?_
      refine aw_iload_n (i := 3) dX11_write_37 38 rfl rfl 3 rfl ?_
      refine aw_iadd dX11_write_38 39 rfl ?_
      refine aw_iconst (x := 1) dX11_write_39 40 rfl rfl ?_
      refine aw_iadd dX11_write_40 41 rfl ?_
      refine aw_iald dX11_write_41 42 rfl at_111 (al_111 _) (ok_111 (by decide)) (fun h10 => ?_)
      refine aw_iast dX11_write_42 43 rfl at_111 (al_111 _) (ok_111 (by decide)) (fun h11 => ?_)
      refine aw_ltm (fun u6 => ?_)
      refine aw_aload_n (i := 0) dX11_write_43 44 rfl rfl 0 rfl ?_
      refine gf_X11_52 dX11_write_44 47 rfl wd_291 (ok_11 (by decide)) ?_
      refine aw_bipush (x := 48) dX11_write_47 49 rfl rfl ?_
      refine aw_iload_n (i := 1) dX11_write_49 50 rfl rfl 1 rfl ?_
      refine aw_imul dX11_write_50 51 rfl ?_
      refine aw_iload_n (i := 3) dX11_write_51 52 rfl rfl 3 rfl ?_
      refine aw_iadd dX11_write_52 53 rfl ?_
      refine aw_aload_n (i := 0) dX11_write_53 54 rfl rfl 0 rfl ?_
      refine gf_X11_52 dX11_write_54 57 rfl wd_291 (ok_11 (by decide)) ?_
      refine aw_bipush (x := 48) dX11_write_57 59 rfl rfl ?_
      refine aw_iload_n (i := 1) dX11_write_59 60 rfl rfl 1 rfl ?_
      refine aw_imul dX11_write_60 61 rfl ?_
      refine aw_iload_n (i := 3) dX11_write_61 62 rfl rfl 3 rfl ?_
      refine aw_iadd dX11_write_62 63 rfl ?_
      refine aw_iconst (x := 1) dX11_write_63 64 rfl rfl ?_
      refine aw_iadd dX11_write_64 65 rfl ?_
      refine aw_zald dX11_write_65 66 rfl at_112 (al_112 _) (ok_112 (by decide)) (fun h12 => ?_)
      refine aw_zast dX11_write_66 67 rfl at_112 (al_112 _) (ok_112 (by decide)) (fun h13 => ?_)
      refine aw_ltm (fun u7 => ?_)
      refine aw_iincx (i := 3) dX11_write_67 70 rfl 3 rfl 1 rfl (fun x4 => [(3, .int x4), (0, .ref (q_ad G 11 0)), (1, .int x1), (2, .int x2)]) (by decide) (fun _ => rfl) (fun x4 => ?_)
      refine aw_goto dX11_write_70 13 rfl ?_
      exact aw_conv [1, 2, 3, 0] rfl (ih x4 u7)
set_option maxRecDepth 100000 in
set_option maxHeartbeats 4000000 in
theorem k_X11_write (l : Launch) (G : qG) (x1 : Int32) (x2 : Int32)  (u0 : qM) : qCt l G m_X11_write q_cU [.ref (q_ad G 11 0), .int x1, .int x2] u0 (f_X11_write x1 x2 u0) := by
  refine q_entry pk_X11_write (Nat.le_of_ble_eq_true rfl) ?_
  show qAW l G m_X11_write (q_mq G q_cU) 0 [(0, .ref (q_ad G 11 0)), (1, .int x1), (2, .int x2)] [] u0 (f_X11_write x1 x2 u0)
  unfold f_X11_write
  refine aw_aload_n (i := 0) dX11_write_0 1 rfl rfl 0 rfl ?_
  refine gf_X11_50 dX11_write_1 4 rfl wd_289 (ok_11 (by decide)) ?_
  refine aw_iload_n (i := 1) dX11_write_4 5 rfl rfl 1 rfl ?_
  refine aw_iald dX11_write_5 6 rfl at_110 (al_110 _) (ok_110 (by decide)) (fun h1 => ?_)
  refine aw_bipush (x := 48) dX11_write_6 8 rfl rfl ?_
  refine aw_jn (fun k => ∀  (u1 : qM), qAW l G m_X11_write (q_mq G q_cU) 83 [(0, .ref (q_ad G 11 0)), (1, .int x1), (2, .int x2)] [] u1 (k u1)) ?_ ?_
  · intro u1
    refine aw_aload_n (i := 0) dX11_write_83 84 rfl rfl 0 rfl ?_
    refine gf_X11_51 dX11_write_84 87 rfl wd_290 (ok_11 (by decide)) ?_
    refine aw_bipush (x := 48) dX11_write_87 89 rfl rfl ?_
    refine aw_iload_n (i := 1) dX11_write_89 90 rfl rfl 1 rfl ?_
    refine aw_imul dX11_write_90 91 rfl ?_
    refine aw_aload_n (i := 0) dX11_write_91 92 rfl rfl 0 rfl ?_
    refine gf_X11_50 dX11_write_92 95 rfl wd_289 (ok_11 (by decide)) ?_
    refine aw_iload_n (i := 1) dX11_write_95 96 rfl rfl 1 rfl ?_
    refine aw_iald dX11_write_96 97 rfl at_110 (al_110 _) (ok_110 (by decide)) (fun h3 => ?_)
    refine aw_iadd dX11_write_97 98 rfl ?_
    refine aw_iload_n (i := 2) dX11_write_98 99 rfl rfl 2 rfl ?_
    refine aw_iast dX11_write_99 100 rfl at_111 (al_111 _) (ok_111 (by decide)) (fun h4 => ?_)
    refine aw_ltm (fun u2 => ?_)
    refine aw_aload_n (i := 0) dX11_write_100 101 rfl rfl 0 rfl ?_
    refine gf_X11_52 dX11_write_101 104 rfl wd_291 (ok_11 (by decide)) ?_
    refine aw_bipush (x := 48) dX11_write_104 106 rfl rfl ?_
    refine aw_iload_n (i := 1) dX11_write_106 107 rfl rfl 1 rfl ?_
    refine aw_imul dX11_write_107 108 rfl ?_
    refine aw_aload_n (i := 0) dX11_write_108 109 rfl rfl 0 rfl ?_
    refine gf_X11_50 dX11_write_109 112 rfl wd_289 (ok_11 (by decide)) ?_
    refine aw_iload_n (i := 1) dX11_write_112 113 rfl rfl 1 rfl ?_
    refine aw_iald dX11_write_113 114 rfl at_110 (al_110 _) (ok_110 (by decide)) (fun h5 => ?_)
    refine aw_iadd dX11_write_114 115 rfl ?_
    refine aw_iconst (x := 0) dX11_write_115 116 rfl rfl ?_
    refine aw_zast dX11_write_116 117 rfl at_112 (al_112 _) (ok_112 (by decide)) (fun h6 => ?_)
    refine aw_ltm (fun u3 => ?_)
    refine aw_aload_n (i := 0) dX11_write_117 118 rfl rfl 0 rfl ?_
    refine gf_X11_50 dX11_write_118 121 rfl wd_289 (ok_11 (by decide)) ?_
    refine aw_iload_n (i := 1) dX11_write_121 122 rfl rfl 1 rfl ?_
    refine aw_dup2 dX11_write_122 123 rfl rfl rfl ?_
    refine aw_iald dX11_write_123 124 rfl at_110 (al_110 _) (ok_110 (by decide)) (fun h7 => ?_)
    refine aw_iconst (x := 1) dX11_write_124 125 rfl rfl ?_
    refine aw_iadd dX11_write_125 126 rfl ?_
    refine aw_iast dX11_write_126 127 rfl at_110 (al_110 _) (ok_110 (by decide)) (fun h8 => ?_)
    refine aw_ltm (fun u4 => ?_)
    exact aw_vret dX11_write_127 rfl
  · intro j1 hj1
    refine aw_icmp_ne dX11_write_8 11 rfl 83 rfl (fun h2 => ?_) (fun h2 => ?_)
    · exact hj1 u0
    · refine aw_iconst (x := 0) dX11_write_11 12 rfl rfl ?_
      refine aw_istore_n dX11_write_12 13 rfl rfl [(3, .int 0), (0, .ref (q_ad G 11 0)), (1, .int x1), (2, .int x2)] (by decide) rfl ?_
      refine aw_conv [1, 2, 3, 0] rfl (TL_X11_write_13 l G x1 x2  _ ?_ _ 0 u0)
      · intro u8
        refine aw_aload_n (i := 0) dX11_write_73 74 rfl rfl 0 rfl ?_
        refine gf_X11_50 dX11_write_74 77 rfl wd_289 (ok_11 (by decide)) ?_
        refine aw_iload_n (i := 1) dX11_write_77 78 rfl rfl 1 rfl ?_
        refine aw_dup2 dX11_write_78 79 rfl rfl rfl ?_
        refine aw_iald dX11_write_79 80 rfl at_110 (al_110 _) (ok_110 (by decide)) (fun h14 => ?_)
        refine aw_iconst (x := 1) dX11_write_80 81 rfl rfl ?_
        refine aw_isub dX11_write_81 82 rfl ?_
        refine aw_iast dX11_write_82 83 rfl at_110 (al_110 _) (ok_110 (by decide)) (fun h15 => ?_)
        refine aw_ltm (fun u9 => ?_)
        exact hj1 u9
theorem dX11_stepOnce_0 : decode cX11_stepOnce 0 = .ok (.aload_n 0, 1) := by decide +kernel
theorem dX11_stepOnce_1 : decode cX11_stepOnce 1 = .ok (.iload_n 1, 1) := by decide +kernel
theorem dX11_stepOnce_2 : decode cX11_stepOnce 2 = .ok (.invokevirtual 262, 3) := by decide +kernel
theorem dX11_stepOnce_5 : decode cX11_stepOnce 5 = .ok (.aload_n 0, 1) := by decide +kernel
theorem dX11_stepOnce_6 : decode cX11_stepOnce 6 = .ok (.iload_n 1, 1) := by decide +kernel
theorem dX11_stepOnce_7 : decode cX11_stepOnce 7 = .ok (.invokevirtual 265, 3) := by decide +kernel
theorem dX11_stepOnce_10 : decode cX11_stepOnce 10 = .ok (.iconst 0, 1) := by decide +kernel
theorem dX11_stepOnce_11 : decode cX11_stepOnce 11 = .ok (.istore_n 2, 1) := by decide +kernel
theorem dX11_stepOnce_12 : decode cX11_stepOnce 12 = .ok (.iconst 0, 1) := by decide +kernel
theorem dX11_stepOnce_13 : decode cX11_stepOnce 13 = .ok (.istore_n 3, 1) := by decide +kernel
theorem dX11_stepOnce_14 : decode cX11_stepOnce 14 = .ok (.iload_n 3, 1) := by decide +kernel
theorem dX11_stepOnce_15 : decode cX11_stepOnce 15 = .ok (.aload_n 0, 1) := by decide +kernel
theorem dX11_stepOnce_16 : decode cX11_stepOnce 16 = .ok (.getfield 74, 3) := by decide +kernel
theorem dX11_stepOnce_19 : decode cX11_stepOnce 19 = .ok (.iload_n 1, 1) := by decide +kernel
theorem dX11_stepOnce_20 : decode cX11_stepOnce 20 = .ok (.iaload, 1) := by decide +kernel
theorem dX11_stepOnce_21 : decode cX11_stepOnce 21 = .ok (.if_icmp .ge 50, 3) := by decide +kernel
theorem dX11_stepOnce_24 : decode cX11_stepOnce 24 = .ok (.aload_n 0, 1) := by decide +kernel
theorem dX11_stepOnce_25 : decode cX11_stepOnce 25 = .ok (.getfield 126, 3) := by decide +kernel
theorem dX11_stepOnce_28 : decode cX11_stepOnce 28 = .ok (.aload_n 0, 1) := by decide +kernel
theorem dX11_stepOnce_29 : decode cX11_stepOnce 29 = .ok (.getfield 77, 3) := by decide +kernel
theorem dX11_stepOnce_32 : decode cX11_stepOnce 32 = .ok (.iconst 4, 1) := by decide +kernel
theorem dX11_stepOnce_33 : decode cX11_stepOnce 33 = .ok (.iload_n 1, 1) := by decide +kernel
theorem dX11_stepOnce_34 : decode cX11_stepOnce 34 = .ok (.imul, 1) := by decide +kernel
theorem dX11_stepOnce_35 : decode cX11_stepOnce 35 = .ok (.iload_n 3, 1) := by decide +kernel
theorem dX11_stepOnce_36 : decode cX11_stepOnce 36 = .ok (.iadd, 1) := by decide +kernel
theorem dX11_stepOnce_37 : decode cX11_stepOnce 37 = .ok (.iaload, 1) := by decide +kernel
theorem dX11_stepOnce_38 : decode cX11_stepOnce 38 = .ok (.dup2, 1) := by decide +kernel
theorem dX11_stepOnce_39 : decode cX11_stepOnce 39 = .ok (.iaload, 1) := by decide +kernel
theorem dX11_stepOnce_40 : decode cX11_stepOnce 40 = .ok (.aload_n 0, 1) := by decide +kernel
theorem dX11_stepOnce_41 : decode cX11_stepOnce 41 = .ok (.getfield 80, 3) := by decide +kernel
theorem dX11_stepOnce_44 : decode cX11_stepOnce 44 = .ok (.iconst 4, 1) := by decide +kernel
theorem dX11_stepOnce_45 : decode cX11_stepOnce 45 = .ok (.iload_n 1, 1) := by decide +kernel
theorem dX11_stepOnce_46 : decode cX11_stepOnce 46 = .ok (.imul, 1) := by decide +kernel
theorem dX11_stepOnce_47 : decode cX11_stepOnce 47 = .ok (.iload_n 3, 1) := by decide +kernel
theorem dX11_stepOnce_48 : decode cX11_stepOnce 48 = .ok (.iadd, 1) := by decide +kernel
theorem dX11_stepOnce_49 : decode cX11_stepOnce 49 = .ok (.iaload, 1) := by decide +kernel
theorem dX11_stepOnce_50 : decode cX11_stepOnce 50 = .ok (.iadd, 1) := by decide +kernel
theorem dX11_stepOnce_51 : decode cX11_stepOnce 51 = .ok (.iastore, 1) := by decide +kernel
theorem dX11_stepOnce_52 : decode cX11_stepOnce 52 = .ok (.iload_n 2, 1) := by decide +kernel
theorem dX11_stepOnce_53 : decode cX11_stepOnce 53 = .ok (.aload_n 0, 1) := by decide +kernel
theorem dX11_stepOnce_54 : decode cX11_stepOnce 54 = .ok (.getfield 80, 3) := by decide +kernel
theorem dX11_stepOnce_57 : decode cX11_stepOnce 57 = .ok (.iconst 4, 1) := by decide +kernel
theorem dX11_stepOnce_58 : decode cX11_stepOnce 58 = .ok (.iload_n 1, 1) := by decide +kernel
theorem dX11_stepOnce_59 : decode cX11_stepOnce 59 = .ok (.imul, 1) := by decide +kernel
theorem dX11_stepOnce_60 : decode cX11_stepOnce 60 = .ok (.iload_n 3, 1) := by decide +kernel
theorem dX11_stepOnce_61 : decode cX11_stepOnce 61 = .ok (.iadd, 1) := by decide +kernel
theorem dX11_stepOnce_62 : decode cX11_stepOnce 62 = .ok (.iaload, 1) := by decide +kernel
theorem dX11_stepOnce_63 : decode cX11_stepOnce 63 = .ok (.iadd, 1) := by decide +kernel
theorem dX11_stepOnce_64 : decode cX11_stepOnce 64 = .ok (.istore_n 2, 1) := by decide +kernel
theorem dX11_stepOnce_65 : decode cX11_stepOnce 65 = .ok (.iinc 3 1, 3) := by decide +kernel
theorem dX11_stepOnce_68 : decode cX11_stepOnce 68 = .ok (.goto (-54), 3) := by decide +kernel
theorem dX11_stepOnce_71 : decode cX11_stepOnce 71 = .ok (.iconst 0, 1) := by decide +kernel
theorem dX11_stepOnce_72 : decode cX11_stepOnce 72 = .ok (.istore_n 3, 1) := by decide +kernel
theorem dX11_stepOnce_73 : decode cX11_stepOnce 73 = .ok (.iload_n 3, 1) := by decide +kernel
theorem dX11_stepOnce_74 : decode cX11_stepOnce 74 = .ok (.aload_n 0, 1) := by decide +kernel
theorem dX11_stepOnce_75 : decode cX11_stepOnce 75 = .ok (.iload_n 1, 1) := by decide +kernel
theorem dX11_stepOnce_76 : decode cX11_stepOnce 76 = .ok (.invokevirtual 223, 3) := by decide +kernel
theorem dX11_stepOnce_79 : decode cX11_stepOnce 79 = .ok (.if_icmp .ge 22, 3) := by decide +kernel
theorem dX11_stepOnce_82 : decode cX11_stepOnce 82 = .ok (.aload_n 0, 1) := by decide +kernel
theorem dX11_stepOnce_83 : decode cX11_stepOnce 83 = .ok (.getfield 126, 3) := by decide +kernel
theorem dX11_stepOnce_86 : decode cX11_stepOnce 86 = .ok (.iload_n 3, 1) := by decide +kernel
theorem dX11_stepOnce_87 : decode cX11_stepOnce 87 = .ok (.iaload, 1) := by decide +kernel
theorem dX11_stepOnce_88 : decode cX11_stepOnce 88 = .ok (.ldc 195, 2) := by decide +kernel
theorem dX11_stepOnce_90 : decode cX11_stepOnce 90 = .ok (.if_icmp .le 5, 3) := by decide +kernel
theorem dX11_stepOnce_93 : decode cX11_stepOnce 93 = .ok (.iconst 0, 1) := by decide +kernel
theorem dX11_stepOnce_94 : decode cX11_stepOnce 94 = .ok (.ireturn, 1) := by decide +kernel
theorem dX11_stepOnce_95 : decode cX11_stepOnce 95 = .ok (.iinc 3 1, 3) := by decide +kernel
theorem dX11_stepOnce_98 : decode cX11_stepOnce 98 = .ok (.goto (-25), 3) := by decide +kernel
theorem dX11_stepOnce_101 : decode cX11_stepOnce 101 = .ok (.aload_n 0, 1) := by decide +kernel
theorem dX11_stepOnce_102 : decode cX11_stepOnce 102 = .ok (.getfield 62, 3) := by decide +kernel
theorem dX11_stepOnce_105 : decode cX11_stepOnce 105 = .ok (.iload_n 1, 1) := by decide +kernel
theorem dX11_stepOnce_106 : decode cX11_stepOnce 106 = .ok (.dup2, 1) := by decide +kernel
theorem dX11_stepOnce_107 : decode cX11_stepOnce 107 = .ok (.iaload, 1) := by decide +kernel
theorem dX11_stepOnce_108 : decode cX11_stepOnce 108 = .ok (.iload_n 2, 1) := by decide +kernel
theorem dX11_stepOnce_109 : decode cX11_stepOnce 109 = .ok (.iadd, 1) := by decide +kernel
theorem dX11_stepOnce_110 : decode cX11_stepOnce 110 = .ok (.iastore, 1) := by decide +kernel
theorem dX11_stepOnce_111 : decode cX11_stepOnce 111 = .ok (.iconst 0, 1) := by decide +kernel
theorem dX11_stepOnce_112 : decode cX11_stepOnce 112 = .ok (.istore_n 3, 1) := by decide +kernel
theorem dX11_stepOnce_113 : decode cX11_stepOnce 113 = .ok (.iload_n 3, 1) := by decide +kernel
theorem dX11_stepOnce_114 : decode cX11_stepOnce 114 = .ok (.iconst 2, 1) := by decide +kernel
theorem dX11_stepOnce_115 : decode cX11_stepOnce 115 = .ok (.aload_n 0, 1) := by decide +kernel
theorem dX11_stepOnce_116 : decode cX11_stepOnce 116 = .ok (.iload_n 1, 1) := by decide +kernel
theorem dX11_stepOnce_117 : decode cX11_stepOnce 117 = .ok (.invokevirtual 223, 3) := by decide +kernel
theorem dX11_stepOnce_120 : decode cX11_stepOnce 120 = .ok (.imul, 1) := by decide +kernel
theorem dX11_stepOnce_121 : decode cX11_stepOnce 121 = .ok (.if_icmp .ge 26, 3) := by decide +kernel
theorem dX11_stepOnce_124 : decode cX11_stepOnce 124 = .ok (.aload_n 0, 1) := by decide +kernel
theorem dX11_stepOnce_125 : decode cX11_stepOnce 125 = .ok (.getfield 98, 3) := by decide +kernel
theorem dX11_stepOnce_128 : decode cX11_stepOnce 128 = .ok (.bipush 96, 2) := by decide +kernel
theorem dX11_stepOnce_130 : decode cX11_stepOnce 130 = .ok (.iload_n 1, 1) := by decide +kernel
theorem dX11_stepOnce_131 : decode cX11_stepOnce 131 = .ok (.imul, 1) := by decide +kernel
theorem dX11_stepOnce_132 : decode cX11_stepOnce 132 = .ok (.iload_n 3, 1) := by decide +kernel
theorem dX11_stepOnce_133 : decode cX11_stepOnce 133 = .ok (.iadd, 1) := by decide +kernel
theorem dX11_stepOnce_134 : decode cX11_stepOnce 134 = .ok (.aload_n 0, 1) := by decide +kernel
theorem dX11_stepOnce_135 : decode cX11_stepOnce 135 = .ok (.getfield 120, 3) := by decide +kernel
theorem dX11_stepOnce_138 : decode cX11_stepOnce 138 = .ok (.iload_n 3, 1) := by decide +kernel
theorem dX11_stepOnce_139 : decode cX11_stepOnce 139 = .ok (.iaload, 1) := by decide +kernel
theorem dX11_stepOnce_140 : decode cX11_stepOnce 140 = .ok (.iastore, 1) := by decide +kernel
theorem dX11_stepOnce_141 : decode cX11_stepOnce 141 = .ok (.iinc 3 1, 3) := by decide +kernel
theorem dX11_stepOnce_144 : decode cX11_stepOnce 144 = .ok (.goto (-31), 3) := by decide +kernel
theorem dX11_stepOnce_147 : decode cX11_stepOnce 147 = .ok (.iconst 0, 1) := by decide +kernel
theorem dX11_stepOnce_148 : decode cX11_stepOnce 148 = .ok (.istore_n 3, 1) := by decide +kernel
theorem dX11_stepOnce_149 : decode cX11_stepOnce 149 = .ok (.iload_n 3, 1) := by decide +kernel
theorem dX11_stepOnce_150 : decode cX11_stepOnce 150 = .ok (.aload_n 0, 1) := by decide +kernel
theorem dX11_stepOnce_151 : decode cX11_stepOnce 151 = .ok (.iload_n 1, 1) := by decide +kernel
theorem dX11_stepOnce_152 : decode cX11_stepOnce 152 = .ok (.invokevirtual 223, 3) := by decide +kernel
theorem dX11_stepOnce_155 : decode cX11_stepOnce 155 = .ok (.if_icmp .ge 71, 3) := by decide +kernel
theorem dX11_stepOnce_158 : decode cX11_stepOnce 158 = .ok (.aload_n 0, 1) := by decide +kernel
theorem dX11_stepOnce_159 : decode cX11_stepOnce 159 = .ok (.getfield 92, 3) := by decide +kernel
theorem dX11_stepOnce_162 : decode cX11_stepOnce 162 = .ok (.bipush 48, 2) := by decide +kernel
theorem dX11_stepOnce_164 : decode cX11_stepOnce 164 = .ok (.iload_n 1, 1) := by decide +kernel
theorem dX11_stepOnce_165 : decode cX11_stepOnce 165 = .ok (.imul, 1) := by decide +kernel
theorem dX11_stepOnce_166 : decode cX11_stepOnce 166 = .ok (.iload_n 3, 1) := by decide +kernel
theorem dX11_stepOnce_167 : decode cX11_stepOnce 167 = .ok (.iadd, 1) := by decide +kernel
theorem dX11_stepOnce_168 : decode cX11_stepOnce 168 = .ok (.aload_n 0, 1) := by decide +kernel
theorem dX11_stepOnce_169 : decode cX11_stepOnce 169 = .ok (.getfield 126, 3) := by decide +kernel
theorem dX11_stepOnce_172 : decode cX11_stepOnce 172 = .ok (.iload_n 3, 1) := by decide +kernel
theorem dX11_stepOnce_173 : decode cX11_stepOnce 173 = .ok (.iaload, 1) := by decide +kernel
theorem dX11_stepOnce_174 : decode cX11_stepOnce 174 = .ok (.iastore, 1) := by decide +kernel
theorem dX11_stepOnce_175 : decode cX11_stepOnce 175 = .ok (.iconst 0, 1) := by decide +kernel
theorem dX11_stepOnce_176 : decode cX11_stepOnce 176 = .ok (.istore 4, 2) := by decide +kernel
theorem dX11_stepOnce_178 : decode cX11_stepOnce 178 = .ok (.iload 4, 2) := by decide +kernel
theorem dX11_stepOnce_180 : decode cX11_stepOnce 180 = .ok (.iconst 3, 1) := by decide +kernel
theorem dX11_stepOnce_181 : decode cX11_stepOnce 181 = .ok (.if_icmp .ge 39, 3) := by decide +kernel
theorem dX11_stepOnce_184 : decode cX11_stepOnce 184 = .ok (.aload_n 0, 1) := by decide +kernel
theorem dX11_stepOnce_185 : decode cX11_stepOnce 185 = .ok (.getfield 95, 3) := by decide +kernel
theorem dX11_stepOnce_188 : decode cX11_stepOnce 188 = .ok (.sipush 144, 3) := by decide +kernel
theorem dX11_stepOnce_191 : decode cX11_stepOnce 191 = .ok (.iload_n 1, 1) := by decide +kernel
theorem dX11_stepOnce_192 : decode cX11_stepOnce 192 = .ok (.imul, 1) := by decide +kernel
theorem dX11_stepOnce_193 : decode cX11_stepOnce 193 = .ok (.bipush 48, 2) := by decide +kernel
theorem dX11_stepOnce_195 : decode cX11_stepOnce 195 = .ok (.iload 4, 2) := by decide +kernel
theorem dX11_stepOnce_197 : decode cX11_stepOnce 197 = .ok (.imul, 1) := by decide +kernel
theorem dX11_stepOnce_198 : decode cX11_stepOnce 198 = .ok (.iadd, 1) := by decide +kernel
theorem dX11_stepOnce_199 : decode cX11_stepOnce 199 = .ok (.iload_n 3, 1) := by decide +kernel
theorem dX11_stepOnce_200 : decode cX11_stepOnce 200 = .ok (.iadd, 1) := by decide +kernel
theorem dX11_stepOnce_201 : decode cX11_stepOnce 201 = .ok (.aload_n 0, 1) := by decide +kernel
theorem dX11_stepOnce_202 : decode cX11_stepOnce 202 = .ok (.getfield 129, 3) := by decide +kernel
theorem dX11_stepOnce_205 : decode cX11_stepOnce 205 = .ok (.bipush 48, 2) := by decide +kernel
theorem dX11_stepOnce_207 : decode cX11_stepOnce 207 = .ok (.iload 4, 2) := by decide +kernel
theorem dX11_stepOnce_209 : decode cX11_stepOnce 209 = .ok (.imul, 1) := by decide +kernel
theorem dX11_stepOnce_210 : decode cX11_stepOnce 210 = .ok (.iload_n 3, 1) := by decide +kernel
theorem dX11_stepOnce_211 : decode cX11_stepOnce 211 = .ok (.iadd, 1) := by decide +kernel
theorem dX11_stepOnce_212 : decode cX11_stepOnce 212 = .ok (.iaload, 1) := by decide +kernel
theorem dX11_stepOnce_213 : decode cX11_stepOnce 213 = .ok (.iastore, 1) := by decide +kernel
theorem dX11_stepOnce_214 : decode cX11_stepOnce 214 = .ok (.iinc 4 1, 3) := by decide +kernel
theorem dX11_stepOnce_217 : decode cX11_stepOnce 217 = .ok (.goto (-39), 3) := by decide +kernel
theorem dX11_stepOnce_220 : decode cX11_stepOnce 220 = .ok (.iinc 3 1, 3) := by decide +kernel
theorem dX11_stepOnce_223 : decode cX11_stepOnce 223 = .ok (.goto (-74), 3) := by decide +kernel
theorem dX11_stepOnce_226 : decode cX11_stepOnce 226 = .ok (.aload_n 0, 1) := by decide +kernel
theorem dX11_stepOnce_227 : decode cX11_stepOnce 227 = .ok (.iload_n 1, 1) := by decide +kernel
theorem dX11_stepOnce_228 : decode cX11_stepOnce 228 = .ok (.invokevirtual 268, 3) := by decide +kernel
theorem dX11_stepOnce_231 : decode cX11_stepOnce 231 = .ok (.ifCond .eq 8, 3) := by decide +kernel
theorem dX11_stepOnce_234 : decode cX11_stepOnce 234 = .ok (.aload_n 0, 1) := by decide +kernel
theorem dX11_stepOnce_235 : decode cX11_stepOnce 235 = .ok (.iload_n 1, 1) := by decide +kernel
theorem dX11_stepOnce_236 : decode cX11_stepOnce 236 = .ok (.invokevirtual 271, 3) := by decide +kernel
theorem dX11_stepOnce_239 : decode cX11_stepOnce 239 = .ok (.iconst 0, 1) := by decide +kernel
theorem dX11_stepOnce_240 : decode cX11_stepOnce 240 = .ok (.istore_n 3, 1) := by decide +kernel
theorem dX11_stepOnce_241 : decode cX11_stepOnce 241 = .ok (.iload_n 3, 1) := by decide +kernel
theorem dX11_stepOnce_242 : decode cX11_stepOnce 242 = .ok (.bipush 8, 2) := by decide +kernel
theorem dX11_stepOnce_244 : decode cX11_stepOnce 244 = .ok (.if_icmp .ge 42, 3) := by decide +kernel
theorem dX11_stepOnce_247 : decode cX11_stepOnce 247 = .ok (.aload_n 0, 1) := by decide +kernel
theorem dX11_stepOnce_248 : decode cX11_stepOnce 248 = .ok (.getfield 132, 3) := by decide +kernel
theorem dX11_stepOnce_251 : decode cX11_stepOnce 251 = .ok (.iload_n 3, 1) := by decide +kernel
theorem dX11_stepOnce_252 : decode cX11_stepOnce 252 = .ok (.iaload, 1) := by decide +kernel
theorem dX11_stepOnce_253 : decode cX11_stepOnce 253 = .ok (.iload_n 1, 1) := by decide +kernel
theorem dX11_stepOnce_254 : decode cX11_stepOnce 254 = .ok (.if_icmp .ne 26, 3) := by decide +kernel
theorem dX11_stepOnce_257 : decode cX11_stepOnce 257 = .ok (.aload_n 0, 1) := by decide +kernel
theorem dX11_stepOnce_258 : decode cX11_stepOnce 258 = .ok (.getfield 135, 3) := by decide +kernel
theorem dX11_stepOnce_261 : decode cX11_stepOnce 261 = .ok (.iload_n 3, 1) := by decide +kernel
theorem dX11_stepOnce_262 : decode cX11_stepOnce 262 = .ok (.aload_n 0, 1) := by decide +kernel
theorem dX11_stepOnce_263 : decode cX11_stepOnce 263 = .ok (.iload_n 1, 1) := by decide +kernel
theorem dX11_stepOnce_264 : decode cX11_stepOnce 264 = .ok (.aload_n 0, 1) := by decide +kernel
theorem dX11_stepOnce_265 : decode cX11_stepOnce 265 = .ok (.getfield 135, 3) := by decide +kernel
theorem dX11_stepOnce_268 : decode cX11_stepOnce 268 = .ok (.iload_n 3, 1) := by decide +kernel
theorem dX11_stepOnce_269 : decode cX11_stepOnce 269 = .ok (.iaload, 1) := by decide +kernel
theorem dX11_stepOnce_270 : decode cX11_stepOnce 270 = .ok (.aload_n 0, 1) := by decide +kernel
theorem dX11_stepOnce_271 : decode cX11_stepOnce 271 = .ok (.getfield 138, 3) := by decide +kernel
theorem dX11_stepOnce_274 : decode cX11_stepOnce 274 = .ok (.iload_n 3, 1) := by decide +kernel
theorem dX11_stepOnce_275 : decode cX11_stepOnce 275 = .ok (.iaload, 1) := by decide +kernel
theorem dX11_stepOnce_276 : decode cX11_stepOnce 276 = .ok (.invokevirtual 274, 3) := by decide +kernel
theorem dX11_stepOnce_279 : decode cX11_stepOnce 279 = .ok (.iastore, 1) := by decide +kernel
theorem dX11_stepOnce_280 : decode cX11_stepOnce 280 = .ok (.iinc 3 1, 3) := by decide +kernel
theorem dX11_stepOnce_283 : decode cX11_stepOnce 283 = .ok (.goto (-42), 3) := by decide +kernel
theorem dX11_stepOnce_286 : decode cX11_stepOnce 286 = .ok (.aload_n 0, 1) := by decide +kernel
theorem dX11_stepOnce_287 : decode cX11_stepOnce 287 = .ok (.getfield 59, 3) := by decide +kernel
theorem dX11_stepOnce_290 : decode cX11_stepOnce 290 = .ok (.iload_n 1, 1) := by decide +kernel
theorem dX11_stepOnce_291 : decode cX11_stepOnce 291 = .ok (.dup2, 1) := by decide +kernel
theorem dX11_stepOnce_292 : decode cX11_stepOnce 292 = .ok (.iaload, 1) := by decide +kernel
theorem dX11_stepOnce_293 : decode cX11_stepOnce 293 = .ok (.iconst 1, 1) := by decide +kernel
theorem dX11_stepOnce_294 : decode cX11_stepOnce 294 = .ok (.iadd, 1) := by decide +kernel
theorem dX11_stepOnce_295 : decode cX11_stepOnce 295 = .ok (.iastore, 1) := by decide +kernel
theorem dX11_stepOnce_296 : decode cX11_stepOnce 296 = .ok (.iconst 0, 1) := by decide +kernel
theorem dX11_stepOnce_297 : decode cX11_stepOnce 297 = .ok (.istore_n 3, 1) := by decide +kernel
theorem dX11_stepOnce_298 : decode cX11_stepOnce 298 = .ok (.iload_n 3, 1) := by decide +kernel
theorem dX11_stepOnce_299 : decode cX11_stepOnce 299 = .ok (.bipush 8, 2) := by decide +kernel
theorem dX11_stepOnce_301 : decode cX11_stepOnce 301 = .ok (.if_icmp .ge 35, 3) := by decide +kernel
theorem dX11_stepOnce_304 : decode cX11_stepOnce 304 = .ok (.aload_n 0, 1) := by decide +kernel
theorem dX11_stepOnce_305 : decode cX11_stepOnce 305 = .ok (.getfield 141, 3) := by decide +kernel
theorem dX11_stepOnce_308 : decode cX11_stepOnce 308 = .ok (.iload_n 3, 1) := by decide +kernel
theorem dX11_stepOnce_309 : decode cX11_stepOnce 309 = .ok (.iaload, 1) := by decide +kernel
theorem dX11_stepOnce_310 : decode cX11_stepOnce 310 = .ok (.iload_n 1, 1) := by decide +kernel
theorem dX11_stepOnce_311 : decode cX11_stepOnce 311 = .ok (.if_icmp .ne 19, 3) := by decide +kernel
theorem dX11_stepOnce_314 : decode cX11_stepOnce 314 = .ok (.aload_n 0, 1) := by decide +kernel
theorem dX11_stepOnce_315 : decode cX11_stepOnce 315 = .ok (.iload_n 3, 1) := by decide +kernel
theorem dX11_stepOnce_316 : decode cX11_stepOnce 316 = .ok (.aload_n 0, 1) := by decide +kernel
theorem dX11_stepOnce_317 : decode cX11_stepOnce 317 = .ok (.iload_n 1, 1) := by decide +kernel
theorem dX11_stepOnce_318 : decode cX11_stepOnce 318 = .ok (.aload_n 0, 1) := by decide +kernel
theorem dX11_stepOnce_319 : decode cX11_stepOnce 319 = .ok (.getfield 144, 3) := by decide +kernel
theorem dX11_stepOnce_322 : decode cX11_stepOnce 322 = .ok (.iload_n 3, 1) := by decide +kernel
theorem dX11_stepOnce_323 : decode cX11_stepOnce 323 = .ok (.iaload, 1) := by decide +kernel
theorem dX11_stepOnce_324 : decode cX11_stepOnce 324 = .ok (.invokevirtual 243, 3) := by decide +kernel
theorem dX11_stepOnce_327 : decode cX11_stepOnce 327 = .ok (.invokevirtual 277, 3) := by decide +kernel
theorem dX11_stepOnce_330 : decode cX11_stepOnce 330 = .ok (.iinc 3 1, 3) := by decide +kernel
theorem dX11_stepOnce_333 : decode cX11_stepOnce 333 = .ok (.goto (-35), 3) := by decide +kernel
theorem dX11_stepOnce_336 : decode cX11_stepOnce 336 = .ok (.iconst 1, 1) := by decide +kernel
theorem dX11_stepOnce_337 : decode cX11_stepOnce 337 = .ok (.ireturn, 1) := by decide +kernel
noncomputable def L_X11_stepOnce_14 (x1 : Int32) : Nat → Int32 → Int32 → qM → (Int32 → qM → Option (Int32 × qM)) → Option (Int32 × qM)
  | 0, _, _, _, _ => none
  | n + 1, x2, x3, u3, e1 => q_ck (q_in x1 8) (if (u3.1 86 0 (Int32.toNatClampNeg x1)) ≤ x3 then e1 x2 u3 else q_ck (q_in ((4 * x1) + x3) 32) (q_lt (u3.1 87 0 (Int32.toNatClampNeg ((4 * x1) + x3))) (fun (x4 : Int32) => q_ck (q_in x4 48) (q_ck (q_in ((4 * x1) + x3) 32) (q_ck (q_in x4 48) (q_lt (q_si u3 103 0 (Int32.toNatClampNeg x4) ((u3.1 103 0 (Int32.toNatClampNeg x4)) + (u3.1 88 0 (Int32.toNatClampNeg ((4 * x1) + x3))))) (fun (u4 : qM) => q_ck (q_in ((4 * x1) + x3) 32) (q_lt (x2 + (u4.1 88 0 (Int32.toNatClampNeg ((4 * x1) + x3)))) (fun (x5 : Int32) => q_lt (x3 + 1) (fun (x6 : Int32) => L_X11_stepOnce_14 x1 n x5 x6 u4 e1))))))))))
noncomputable def L_X11_stepOnce_73 (x1 : Int32) (x7 : Int32) : Nat → Int32 → qM → (qM → Option (Int32 × qM)) → (qM → Option (Int32 × qM)) → Option (Int32 × qM)
  | 0, _, _, _, _ => none
  | n + 1, x8, u6, e1, e2 => q_bd (f_X11_cells x1 u6) (fun (x9 : Int32) (u7 : qM) => if x9 ≤ x8 then e1 u7 else q_ck (q_in x8 48) (if (u7.1 103 0 (Int32.toNatClampNeg x8)) ≤ 100000 then q_lt (x8 + 1) (fun (x10 : Int32) => L_X11_stepOnce_73 x1 x7 n x10 u7 e1 e2) else e2 u7))
noncomputable def L_X11_stepOnce_113 (x1 : Int32) : Nat → Int32 → qM → (qM → Option (Int32 × qM)) → Option (Int32 × qM)
  | 0, _, _, _ => none
  | n + 1, x11, u10, e1 => q_bd (f_X11_cells x1 u10) (fun (x12 : Int32) (u11 : qM) => if (2 * x12) ≤ x11 then e1 u11 else q_ck (q_in x11 96) (q_ck (q_in ((96 * x1) + x11) 768) (q_lt (q_si u11 94 0 (Int32.toNatClampNeg ((96 * x1) + x11)) (u11.1 101 0 (Int32.toNatClampNeg x11))) (fun (u12 : qM) => q_lt (x11 + 1) (fun (x13 : Int32) => L_X11_stepOnce_113 x1 n x13 u12 e1)))))
noncomputable def L_X11_stepOnce_178 (x1 : Int32) (x14 : Int32) : Nat → Int32 → qM → (qM → Option (Int32 × qM)) → Option (Int32 × qM)
  | 0, _, _, _ => none
  | n + 1, x16, u17, e1 => if 3 ≤ x16 then e1 u17 else q_ck (q_in ((48 * x16) + x14) 144) (q_ck (q_in (((144 * x1) + (48 * x16)) + x14) 1152) (q_lt (q_si u17 93 0 (Int32.toNatClampNeg (((144 * x1) + (48 * x16)) + x14)) (u17.1 104 0 (Int32.toNatClampNeg ((48 * x16) + x14)))) (fun (u18 : qM) => q_lt (x16 + 1) (fun (x17 : Int32) => L_X11_stepOnce_178 x1 x14 n x17 u18 e1))))
noncomputable def L_X11_stepOnce_149 (x1 : Int32) : Nat → Int32 → qM → (qM → Option (Int32 × qM)) → Option (Int32 × qM)
  | 0, _, _, _ => none
  | n + 1, x14, u14, e1 => q_bd (f_X11_cells x1 u14) (fun (x15 : Int32) (u15 : qM) => if x15 ≤ x14 then e1 u15 else q_ck (q_in x14 48) (q_ck (q_in ((48 * x1) + x14) 384) (q_lt (q_si u15 92 0 (Int32.toNatClampNeg ((48 * x1) + x14)) (u15.1 103 0 (Int32.toNatClampNeg x14))) (fun (u16 : qM) => L_X11_stepOnce_178 x1 x14 q_fu 0 u16 (fun u19 => q_lt (x14 + 1) (fun (x18 : Int32) => L_X11_stepOnce_149 x1 n x18 u19 e1))))))
noncomputable def L_X11_stepOnce_241 (x1 : Int32) : Nat → Int32 → qM → (qM → Option (Int32 × qM)) → Option (Int32 × qM)
  | 0, _, _, _ => none
  | n + 1, x20, u23, e1 => if 8 ≤ x20 then e1 u23 else q_ck (q_in x20 8) (q_jn (fun  (u24 : qM) => q_lt (x20 + 1) (fun (x21 : Int32) => L_X11_stepOnce_241 x1 n x21 u24 e1)) (fun j2 => if (u23.1 105 0 (Int32.toNatClampNeg x20)) = x1 then q_ck (q_in x20 8) (q_ck (q_in x20 8) (q_bd (f_X11_drifts x1 (u23.1 106 0 (Int32.toNatClampNeg x20)) (u23.1 107 0 (Int32.toNatClampNeg x20)) u23) (fun (x22 : Int32) (u25 : qM) => q_ck (q_in x20 8) (q_lt (q_si u25 106 0 (Int32.toNatClampNeg x20) x22) (fun (u26 : qM) => j2 u26))))) else j2 u23))
noncomputable def L_X11_stepOnce_298 (x1 : Int32) : Nat → Int32 → qM → (qM → Option (Int32 × qM)) → Option (Int32 × qM)
  | 0, _, _, _ => none
  | n + 1, x23, u29, e1 => if 8 ≤ x23 then e1 u29 else q_ck (q_in x23 8) (q_jn (fun  (u30 : qM) => q_lt (x23 + 1) (fun (x24 : Int32) => L_X11_stepOnce_298 x1 n x24 u30 e1)) (fun j3 => if (u29.1 108 0 (Int32.toNatClampNeg x23)) = x1 then q_ck (q_in x23 8) (q_bd (f_X11_level x1 (u29.1 109 0 (Int32.toNatClampNeg x23)) u29) (fun (x25 : Int32) (u31 : qM) => q_bd (f_X11_write x23 x25 u31) (fun (_z : Unit) (u32 : qM) => j3 u32))) else j3 u29))
noncomputable def f_X11_stepOnce (x1 : Int32) (u0 : qM) : Option (Int32 × qM) :=
  q_bd (f_X11_pushAll x1 u0) (fun (_z : Unit) (u1 : qM) => q_bd (f_X11_carryAll x1 u1) (fun (_z : Unit) (u2 : qM) => L_X11_stepOnce_14 x1 q_fu 0 0 u2 (fun x7 u5 => L_X11_stepOnce_73 x1 x7 q_fu 0 u5 (fun u8 => q_ck (q_in x1 8) (q_ck (q_in x1 8) (q_lt (q_si u8 82 0 (Int32.toNatClampNeg x1) ((u8.1 82 0 (Int32.toNatClampNeg x1)) + x7)) (fun (u9 : qM) => L_X11_stepOnce_113 x1 q_fu 0 u9 (fun u13 => L_X11_stepOnce_149 x1 q_fu 0 u13 (fun u20 => q_bd (f_X11_hasTide x1 u20) (fun (x19 : Int32) (u21 : qM) => q_jn (fun  (u22 : qM) => L_X11_stepOnce_241 x1 q_fu 0 u22 (fun u27 => q_ck (q_in x1 8) (q_ck (q_in x1 8) (q_lt (q_si u27 81 0 (Int32.toNatClampNeg x1) ((u27.1 81 0 (Int32.toNatClampNeg x1)) + 1)) (fun (u28 : qM) => L_X11_stepOnce_298 x1 q_fu 0 u28 (fun u33 => some (1, u33))))))) (fun j1 => if x19 = 0 then j1 u21 else q_bd (f_X11_leadRim x1 u21) (fun (_z : Unit) (u34 : qM) => j1 u34))))))))) (fun u35 => some (0, u35)))))
set_option maxRecDepth 100000 in
set_option maxHeartbeats 4000000 in
theorem TL_X11_stepOnce_14 (l : Launch) (G : qG) (x1 : Int32)  (e1 : Int32 → qM → Option (Int32 × qM)) (he1 : ∀ (y1 : Int32) (v : qM), qAW l G m_X11_stepOnce (q_mq G q_cI) 71 [(0, .ref (q_ad G 11 0)), (1, .int x1), (2, .int y1)] [] v (e1 y1 v)) : ∀ (n : Nat) (x2 : Int32) (x3 : Int32) (u3 : qM), qAW l G m_X11_stepOnce (q_mq G q_cI) 14 [(0, .ref (q_ad G 11 0)), (1, .int x1), (2, .int x2), (3, .int x3)] [] u3 (L_X11_stepOnce_14 x1 n x2 x3 u3 e1) := by
  intro n
  induction n with
  | zero => intros; exact aw_none
  | succ n ih =>
    intro x2 x3 u3
    unfold L_X11_stepOnce_14
    refine aw_iload_n (i := 3) dX11_stepOnce_14 15 rfl rfl 3 rfl ?_
    refine aw_aload_n (i := 0) dX11_stepOnce_15 16 rfl rfl 0 rfl ?_
    refine gf_X11_26 dX11_stepOnce_16 19 rfl wd_265 (ok_11 (by decide)) ?_
    refine aw_iload_n (i := 1) dX11_stepOnce_19 20 rfl rfl 1 rfl ?_
    refine aw_iald dX11_stepOnce_20 21 rfl at_86 (al_86 _) (ok_86 (by decide)) (fun h1 => ?_)
    refine aw_icmp_ge dX11_stepOnce_21 24 rfl 71 rfl (fun h2 => ?_) (fun h2 => ?_)
    · exact aw_conv [0, 1, 2] rfl (he1 x2 u3)
    · refine aw_aload_n (i := 0) dX11_stepOnce_24 25 rfl rfl 0 rfl ?_
      refine gf_X11_43 dX11_stepOnce_25 28 rfl wd_285 (ok_11 (by decide)) ?_
      refine aw_aload_n (i := 0) dX11_stepOnce_28 29 rfl rfl 0 rfl ?_
      refine gf_X11_27 dX11_stepOnce_29 32 rfl wd_279 (ok_11 (by decide)) ?_
      refine aw_iconst (x := 4) dX11_stepOnce_32 33 rfl rfl ?_
      refine aw_iload_n (i := 1) dX11_stepOnce_33 34 rfl rfl 1 rfl ?_
      refine aw_imul dX11_stepOnce_34 35 rfl ?_
      refine aw_iload_n (i := 3) dX11_stepOnce_35 36 rfl rfl 3 rfl ?_
      refine aw_iadd dX11_stepOnce_36 37 rfl ?_
      refine aw_iald dX11_stepOnce_37 38 rfl at_87 (al_87 _) (ok_87 (by decide)) (fun h3 => ?_)
      refine aw_lti (fun x4 => ?_)
      refine aw_dup2 dX11_stepOnce_38 39 rfl rfl rfl ?_
      refine aw_iald dX11_stepOnce_39 40 rfl at_103 (al_103 _) (ok_103 (by decide)) (fun h4 => ?_)
      refine aw_aload_n (i := 0) dX11_stepOnce_40 41 rfl rfl 0 rfl ?_
      refine gf_X11_28 dX11_stepOnce_41 44 rfl wd_280 (ok_11 (by decide)) ?_
      refine aw_iconst (x := 4) dX11_stepOnce_44 45 rfl rfl ?_
      refine aw_iload_n (i := 1) dX11_stepOnce_45 46 rfl rfl 1 rfl ?_
      refine aw_imul dX11_stepOnce_46 47 rfl ?_
      refine aw_iload_n (i := 3) dX11_stepOnce_47 48 rfl rfl 3 rfl ?_
      refine aw_iadd dX11_stepOnce_48 49 rfl ?_
      refine aw_iald dX11_stepOnce_49 50 rfl at_88 (al_88 _) (ok_88 (by decide)) (fun h5 => ?_)
      refine aw_iadd dX11_stepOnce_50 51 rfl ?_
      refine aw_iast dX11_stepOnce_51 52 rfl at_103 (al_103 _) (ok_103 (by decide)) (fun h6 => ?_)
      refine aw_ltm (fun u4 => ?_)
      refine aw_iload_n (i := 2) dX11_stepOnce_52 53 rfl rfl 2 rfl ?_
      refine aw_aload_n (i := 0) dX11_stepOnce_53 54 rfl rfl 0 rfl ?_
      refine gf_X11_28 dX11_stepOnce_54 57 rfl wd_280 (ok_11 (by decide)) ?_
      refine aw_iconst (x := 4) dX11_stepOnce_57 58 rfl rfl ?_
      refine aw_iload_n (i := 1) dX11_stepOnce_58 59 rfl rfl 1 rfl ?_
      refine aw_imul dX11_stepOnce_59 60 rfl ?_
      refine aw_iload_n (i := 3) dX11_stepOnce_60 61 rfl rfl 3 rfl ?_
      refine aw_iadd dX11_stepOnce_61 62 rfl ?_
      refine aw_iald dX11_stepOnce_62 63 rfl at_88 (al_88 _) (ok_88 (by decide)) (fun h7 => ?_)
      refine aw_iadd dX11_stepOnce_63 64 rfl ?_
      refine aw_lti (fun x5 => ?_)
      refine aw_istore_n dX11_stepOnce_64 65 rfl rfl [(2, .int x5), (0, .ref (q_ad G 11 0)), (1, .int x1), (3, .int x3)] (by decide) rfl ?_
      refine aw_iincx (i := 3) dX11_stepOnce_65 68 rfl 3 rfl 1 rfl (fun x6 => [(3, .int x6), (2, .int x5), (0, .ref (q_ad G 11 0)), (1, .int x1)]) (by decide) (fun _ => rfl) (fun x6 => ?_)
      refine aw_goto dX11_stepOnce_68 14 rfl ?_
      exact aw_conv [2, 3, 1, 0] rfl (ih x5 x6 u4)
set_option maxRecDepth 100000 in
set_option maxHeartbeats 4000000 in
theorem TL_X11_stepOnce_73 (l : Launch) (G : qG) (x1 : Int32) (x7 : Int32)  (e1 : qM → Option (Int32 × qM)) (e2 : qM → Option (Int32 × qM)) (he1 : ∀  (v : qM), qAW l G m_X11_stepOnce (q_mq G q_cI) 101 [(0, .ref (q_ad G 11 0)), (1, .int x1), (2, .int x7)] [] v (e1 v)) (he2 : ∀  (v : qM), qAW l G m_X11_stepOnce (q_mq G q_cI) 93 [] [] v (e2 v)) : ∀ (n : Nat) (x8 : Int32) (u6 : qM), qAW l G m_X11_stepOnce (q_mq G q_cI) 73 [(0, .ref (q_ad G 11 0)), (1, .int x1), (2, .int x7), (3, .int x8)] [] u6 (L_X11_stepOnce_73 x1 x7 n x8 u6 e1 e2) := by
  intro n
  induction n with
  | zero => intros; exact aw_none
  | succ n ih =>
    intro x8 u6
    unfold L_X11_stepOnce_73
    refine aw_iload_n (i := 3) dX11_stepOnce_73 74 rfl rfl 3 rfl ?_
    refine aw_aload_n (i := 0) dX11_stepOnce_74 75 rfl rfl 0 rfl ?_
    refine aw_iload_n (i := 1) dX11_stepOnce_75 76 rfl rfl 1 rfl ?_
    refine aw_callV (M2 := m_X11_cells) (cv := q_cI) dX11_stepOnce_76 79 rfl (k_X11_cells l G x1  u6) wd_251 wv_X11_cells pk_X11_cells rfl rfl ⟨by decide, by decide⟩ ⟨Nat.zero_le _, Nat.zero_le _⟩ at_11 (ok_11 (by decide)) rfl rfl rfl (Nat.le_of_ble_eq_true rfl) (fun x9 u7 => ?_)
    show qAW l G m_X11_stepOnce (q_mq G q_cI) 79 [(0, .ref (q_ad G 11 0)), (1, .int x1), (2, .int x7), (3, .int x8)] [.int x9, .int x8] u7 _
    refine aw_icmp_ge dX11_stepOnce_79 82 rfl 101 rfl (fun h8 => ?_) (fun h8 => ?_)
    · exact aw_conv [0, 1, 2] rfl (he1 u7)
    · refine aw_aload_n (i := 0) dX11_stepOnce_82 83 rfl rfl 0 rfl ?_
      refine gf_X11_43 dX11_stepOnce_83 86 rfl wd_285 (ok_11 (by decide)) ?_
      refine aw_iload_n (i := 3) dX11_stepOnce_86 87 rfl rfl 3 rfl ?_
      refine aw_iald dX11_stepOnce_87 88 rfl at_103 (al_103 _) (ok_103 (by decide)) (fun h9 => ?_)
      refine aw_ldc (x := 100000) dX11_stepOnce_88 90 rfl wd_232 ?_
      refine aw_icmp_le dX11_stepOnce_90 93 rfl 95 rfl (fun h10 => ?_) (fun h10 => ?_)
      · refine aw_iincx (i := 3) dX11_stepOnce_95 98 rfl 3 rfl 1 rfl (fun x10 => [(3, .int x10), (0, .ref (q_ad G 11 0)), (1, .int x1), (2, .int x7)]) (by decide) (fun _ => rfl) (fun x10 => ?_)
        refine aw_goto dX11_stepOnce_98 73 rfl ?_
        exact aw_conv [1, 2, 3, 0] rfl (ih x10 u7)
      · exact aw_conv [] rfl (he2 u7)
set_option maxRecDepth 100000 in
set_option maxHeartbeats 4000000 in
theorem TL_X11_stepOnce_113 (l : Launch) (G : qG) (x1 : Int32)  (e1 : qM → Option (Int32 × qM)) (he1 : ∀  (v : qM), qAW l G m_X11_stepOnce (q_mq G q_cI) 147 [(0, .ref (q_ad G 11 0)), (1, .int x1)] [] v (e1 v)) : ∀ (n : Nat) (x11 : Int32) (u10 : qM), qAW l G m_X11_stepOnce (q_mq G q_cI) 113 [(0, .ref (q_ad G 11 0)), (1, .int x1), (3, .int x11)] [] u10 (L_X11_stepOnce_113 x1 n x11 u10 e1) := by
  intro n
  induction n with
  | zero => intros; exact aw_none
  | succ n ih =>
    intro x11 u10
    unfold L_X11_stepOnce_113
    refine aw_iload_n (i := 3) dX11_stepOnce_113 114 rfl rfl 2 rfl ?_
    refine aw_iconst (x := 2) dX11_stepOnce_114 115 rfl rfl ?_
    refine aw_aload_n (i := 0) dX11_stepOnce_115 116 rfl rfl 0 rfl ?_
    refine aw_iload_n (i := 1) dX11_stepOnce_116 117 rfl rfl 1 rfl ?_
    refine aw_callV (M2 := m_X11_cells) (cv := q_cI) dX11_stepOnce_117 120 rfl (k_X11_cells l G x1  u10) wd_251 wv_X11_cells pk_X11_cells rfl rfl ⟨by decide, by decide⟩ ⟨Nat.zero_le _, Nat.zero_le _⟩ at_11 (ok_11 (by decide)) rfl rfl rfl (Nat.le_of_ble_eq_true rfl) (fun x12 u11 => ?_)
    show qAW l G m_X11_stepOnce (q_mq G q_cI) 120 [(0, .ref (q_ad G 11 0)), (1, .int x1), (3, .int x11)] [.int x12, .int 2, .int x11] u11 _
    refine aw_imul dX11_stepOnce_120 121 rfl ?_
    refine aw_icmp_ge dX11_stepOnce_121 124 rfl 147 rfl (fun h13 => ?_) (fun h13 => ?_)
    · exact aw_conv [0, 1] rfl (he1 u11)
    · refine aw_aload_n (i := 0) dX11_stepOnce_124 125 rfl rfl 0 rfl ?_
      refine gf_X11_34 dX11_stepOnce_125 128 rfl wd_270 (ok_11 (by decide)) ?_
      refine aw_bipush (x := 96) dX11_stepOnce_128 130 rfl rfl ?_
      refine aw_iload_n (i := 1) dX11_stepOnce_130 131 rfl rfl 1 rfl ?_
      refine aw_imul dX11_stepOnce_131 132 rfl ?_
      refine aw_iload_n (i := 3) dX11_stepOnce_132 133 rfl rfl 2 rfl ?_
      refine aw_iadd dX11_stepOnce_133 134 rfl ?_
      refine aw_aload_n (i := 0) dX11_stepOnce_134 135 rfl rfl 0 rfl ?_
      refine gf_X11_41 dX11_stepOnce_135 138 rfl wd_283 (ok_11 (by decide)) ?_
      refine aw_iload_n (i := 3) dX11_stepOnce_138 139 rfl rfl 2 rfl ?_
      refine aw_iald dX11_stepOnce_139 140 rfl at_101 (al_101 _) (ok_101 (by decide)) (fun h14 => ?_)
      refine aw_iast dX11_stepOnce_140 141 rfl at_94 (al_94 _) (ok_94 (by decide)) (fun h15 => ?_)
      refine aw_ltm (fun u12 => ?_)
      refine aw_iincx (i := 3) dX11_stepOnce_141 144 rfl 2 rfl 1 rfl (fun x13 => [(3, .int x13), (0, .ref (q_ad G 11 0)), (1, .int x1)]) (by decide) (fun _ => rfl) (fun x13 => ?_)
      refine aw_goto dX11_stepOnce_144 113 rfl ?_
      exact aw_conv [1, 2, 0] rfl (ih x13 u12)
set_option maxRecDepth 100000 in
set_option maxHeartbeats 4000000 in
theorem TL_X11_stepOnce_178 (l : Launch) (G : qG) (x1 : Int32) (x14 : Int32)  (e1 : qM → Option (Int32 × qM)) (he1 : ∀  (v : qM), qAW l G m_X11_stepOnce (q_mq G q_cI) 220 [(0, .ref (q_ad G 11 0)), (1, .int x1), (3, .int x14)] [] v (e1 v)) : ∀ (n : Nat) (x16 : Int32) (u17 : qM), qAW l G m_X11_stepOnce (q_mq G q_cI) 178 [(0, .ref (q_ad G 11 0)), (1, .int x1), (3, .int x14), (4, .int x16)] [] u17 (L_X11_stepOnce_178 x1 x14 n x16 u17 e1) := by
  intro n
  induction n with
  | zero => intros; exact aw_none
  | succ n ih =>
    intro x16 u17
    unfold L_X11_stepOnce_178
    refine aw_iload (i := 4) dX11_stepOnce_178 180 rfl 3 rfl ?_
    refine aw_iconst (x := 3) dX11_stepOnce_180 181 rfl rfl ?_
    refine aw_icmp_ge dX11_stepOnce_181 184 rfl 220 rfl (fun h19 => ?_) (fun h19 => ?_)
    · exact aw_conv [0, 1, 2] rfl (he1 u17)
    · refine aw_aload_n (i := 0) dX11_stepOnce_184 185 rfl rfl 0 rfl ?_
      refine gf_X11_33 dX11_stepOnce_185 188 rfl wd_269 (ok_11 (by decide)) ?_
      refine aw_sipush (x := 144) dX11_stepOnce_188 191 rfl rfl ?_
      refine aw_iload_n (i := 1) dX11_stepOnce_191 192 rfl rfl 1 rfl ?_
      refine aw_imul dX11_stepOnce_192 193 rfl ?_
      refine aw_bipush (x := 48) dX11_stepOnce_193 195 rfl rfl ?_
      refine aw_iload (i := 4) dX11_stepOnce_195 197 rfl 3 rfl ?_
      refine aw_imul dX11_stepOnce_197 198 rfl ?_
      refine aw_iadd dX11_stepOnce_198 199 rfl ?_
      refine aw_iload_n (i := 3) dX11_stepOnce_199 200 rfl rfl 2 rfl ?_
      refine aw_iadd dX11_stepOnce_200 201 rfl ?_
      refine aw_aload_n (i := 0) dX11_stepOnce_201 202 rfl rfl 0 rfl ?_
      refine gf_X11_44 dX11_stepOnce_202 205 rfl wd_286 (ok_11 (by decide)) ?_
      refine aw_bipush (x := 48) dX11_stepOnce_205 207 rfl rfl ?_
      refine aw_iload (i := 4) dX11_stepOnce_207 209 rfl 3 rfl ?_
      refine aw_imul dX11_stepOnce_209 210 rfl ?_
      refine aw_iload_n (i := 3) dX11_stepOnce_210 211 rfl rfl 2 rfl ?_
      refine aw_iadd dX11_stepOnce_211 212 rfl ?_
      refine aw_iald dX11_stepOnce_212 213 rfl at_104 (al_104 _) (ok_104 (by decide)) (fun h20 => ?_)
      refine aw_iast dX11_stepOnce_213 214 rfl at_93 (al_93 _) (ok_93 (by decide)) (fun h21 => ?_)
      refine aw_ltm (fun u18 => ?_)
      refine aw_iincx (i := 4) dX11_stepOnce_214 217 rfl 3 rfl 1 rfl (fun x17 => [(4, .int x17), (0, .ref (q_ad G 11 0)), (1, .int x1), (3, .int x14)]) (by decide) (fun _ => rfl) (fun x17 => ?_)
      refine aw_goto dX11_stepOnce_217 178 rfl ?_
      exact aw_conv [1, 2, 3, 0] rfl (ih x17 u18)
set_option maxRecDepth 100000 in
set_option maxHeartbeats 4000000 in
theorem TL_X11_stepOnce_149 (l : Launch) (G : qG) (x1 : Int32)  (e1 : qM → Option (Int32 × qM)) (he1 : ∀  (v : qM), qAW l G m_X11_stepOnce (q_mq G q_cI) 226 [(0, .ref (q_ad G 11 0)), (1, .int x1)] [] v (e1 v)) : ∀ (n : Nat) (x14 : Int32) (u14 : qM), qAW l G m_X11_stepOnce (q_mq G q_cI) 149 [(0, .ref (q_ad G 11 0)), (1, .int x1), (3, .int x14)] [] u14 (L_X11_stepOnce_149 x1 n x14 u14 e1) := by
  intro n
  induction n with
  | zero => intros; exact aw_none
  | succ n ih =>
    intro x14 u14
    unfold L_X11_stepOnce_149
    refine aw_iload_n (i := 3) dX11_stepOnce_149 150 rfl rfl 2 rfl ?_
    refine aw_aload_n (i := 0) dX11_stepOnce_150 151 rfl rfl 0 rfl ?_
    refine aw_iload_n (i := 1) dX11_stepOnce_151 152 rfl rfl 1 rfl ?_
    refine aw_callV (M2 := m_X11_cells) (cv := q_cI) dX11_stepOnce_152 155 rfl (k_X11_cells l G x1  u14) wd_251 wv_X11_cells pk_X11_cells rfl rfl ⟨by decide, by decide⟩ ⟨Nat.zero_le _, Nat.zero_le _⟩ at_11 (ok_11 (by decide)) rfl rfl rfl (Nat.le_of_ble_eq_true rfl) (fun x15 u15 => ?_)
    show qAW l G m_X11_stepOnce (q_mq G q_cI) 155 [(0, .ref (q_ad G 11 0)), (1, .int x1), (3, .int x14)] [.int x15, .int x14] u15 _
    refine aw_icmp_ge dX11_stepOnce_155 158 rfl 226 rfl (fun h16 => ?_) (fun h16 => ?_)
    · exact aw_conv [0, 1] rfl (he1 u15)
    · refine aw_aload_n (i := 0) dX11_stepOnce_158 159 rfl rfl 0 rfl ?_
      refine gf_X11_32 dX11_stepOnce_159 162 rfl wd_249 (ok_11 (by decide)) ?_
      refine aw_bipush (x := 48) dX11_stepOnce_162 164 rfl rfl ?_
      refine aw_iload_n (i := 1) dX11_stepOnce_164 165 rfl rfl 1 rfl ?_
      refine aw_imul dX11_stepOnce_165 166 rfl ?_
      refine aw_iload_n (i := 3) dX11_stepOnce_166 167 rfl rfl 2 rfl ?_
      refine aw_iadd dX11_stepOnce_167 168 rfl ?_
      refine aw_aload_n (i := 0) dX11_stepOnce_168 169 rfl rfl 0 rfl ?_
      refine gf_X11_43 dX11_stepOnce_169 172 rfl wd_285 (ok_11 (by decide)) ?_
      refine aw_iload_n (i := 3) dX11_stepOnce_172 173 rfl rfl 2 rfl ?_
      refine aw_iald dX11_stepOnce_173 174 rfl at_103 (al_103 _) (ok_103 (by decide)) (fun h17 => ?_)
      refine aw_iast dX11_stepOnce_174 175 rfl at_92 (al_92 _) (ok_92 (by decide)) (fun h18 => ?_)
      refine aw_ltm (fun u16 => ?_)
      refine aw_iconst (x := 0) dX11_stepOnce_175 176 rfl rfl ?_
      refine aw_istore dX11_stepOnce_176 178 rfl [(4, .int 0), (0, .ref (q_ad G 11 0)), (1, .int x1), (3, .int x14)] (by decide) rfl ?_
      refine aw_conv [1, 2, 3, 0] rfl (TL_X11_stepOnce_178 l G x1 x14  _ ?_ _ 0 u16)
      · intro u19
        refine aw_iincx (i := 3) dX11_stepOnce_220 223 rfl 2 rfl 1 rfl (fun x18 => [(3, .int x18), (0, .ref (q_ad G 11 0)), (1, .int x1)]) (by decide) (fun _ => rfl) (fun x18 => ?_)
        refine aw_goto dX11_stepOnce_223 149 rfl ?_
        exact aw_conv [1, 2, 0] rfl (ih x18 u19)
set_option maxRecDepth 100000 in
set_option maxHeartbeats 4000000 in
theorem TL_X11_stepOnce_241 (l : Launch) (G : qG) (x1 : Int32)  (e1 : qM → Option (Int32 × qM)) (he1 : ∀  (v : qM), qAW l G m_X11_stepOnce (q_mq G q_cI) 286 [(0, .ref (q_ad G 11 0)), (1, .int x1)] [] v (e1 v)) : ∀ (n : Nat) (x20 : Int32) (u23 : qM), qAW l G m_X11_stepOnce (q_mq G q_cI) 241 [(0, .ref (q_ad G 11 0)), (1, .int x1), (3, .int x20)] [] u23 (L_X11_stepOnce_241 x1 n x20 u23 e1) := by
  intro n
  induction n with
  | zero => intros; exact aw_none
  | succ n ih =>
    intro x20 u23
    unfold L_X11_stepOnce_241
    refine aw_iload_n (i := 3) dX11_stepOnce_241 242 rfl rfl 2 rfl ?_
    refine aw_bipush (x := 8) dX11_stepOnce_242 244 rfl rfl ?_
    refine aw_icmp_ge dX11_stepOnce_244 247 rfl 286 rfl (fun h23 => ?_) (fun h23 => ?_)
    · exact aw_conv [0, 1] rfl (he1 u23)
    · refine aw_aload_n (i := 0) dX11_stepOnce_247 248 rfl rfl 0 rfl ?_
      refine gf_X11_45 dX11_stepOnce_248 251 rfl wd_254 (ok_11 (by decide)) ?_
      refine aw_iload_n (i := 3) dX11_stepOnce_251 252 rfl rfl 2 rfl ?_
      refine aw_iald dX11_stepOnce_252 253 rfl at_105 (al_105 _) (ok_105 (by decide)) (fun h24 => ?_)
      refine aw_iload_n (i := 1) dX11_stepOnce_253 254 rfl rfl 1 rfl ?_
      refine aw_jn (fun k => ∀  (u24 : qM), qAW l G m_X11_stepOnce (q_mq G q_cI) 280 [(0, .ref (q_ad G 11 0)), (1, .int x1), (3, .int x20)] [] u24 (k u24)) ?_ ?_
      · intro u24
        refine aw_iincx (i := 3) dX11_stepOnce_280 283 rfl 2 rfl 1 rfl (fun x21 => [(3, .int x21), (0, .ref (q_ad G 11 0)), (1, .int x1)]) (by decide) (fun _ => rfl) (fun x21 => ?_)
        refine aw_goto dX11_stepOnce_283 241 rfl ?_
        exact aw_conv [1, 2, 0] rfl (ih x21 u24)
      · intro j2 hj2
        refine aw_icmp_ne dX11_stepOnce_254 257 rfl 280 rfl (fun h25 => ?_) (fun h25 => ?_)
        · exact hj2 u23
        · refine aw_aload_n (i := 0) dX11_stepOnce_257 258 rfl rfl 0 rfl ?_
          refine gf_X11_46 dX11_stepOnce_258 261 rfl wd_295 (ok_11 (by decide)) ?_
          refine aw_iload_n (i := 3) dX11_stepOnce_261 262 rfl rfl 2 rfl ?_
          refine aw_aload_n (i := 0) dX11_stepOnce_262 263 rfl rfl 0 rfl ?_
          refine aw_iload_n (i := 1) dX11_stepOnce_263 264 rfl rfl 1 rfl ?_
          refine aw_aload_n (i := 0) dX11_stepOnce_264 265 rfl rfl 0 rfl ?_
          refine gf_X11_46 dX11_stepOnce_265 268 rfl wd_295 (ok_11 (by decide)) ?_
          refine aw_iload_n (i := 3) dX11_stepOnce_268 269 rfl rfl 2 rfl ?_
          refine aw_iald dX11_stepOnce_269 270 rfl at_106 (al_106 _) (ok_106 (by decide)) (fun h26 => ?_)
          refine aw_aload_n (i := 0) dX11_stepOnce_270 271 rfl rfl 0 rfl ?_
          refine gf_X11_47 dX11_stepOnce_271 274 rfl wd_296 (ok_11 (by decide)) ?_
          refine aw_iload_n (i := 3) dX11_stepOnce_274 275 rfl rfl 2 rfl ?_
          refine aw_iald dX11_stepOnce_275 276 rfl at_107 (al_107 _) (ok_107 (by decide)) (fun h27 => ?_)
          refine aw_callV (M2 := m_X11_drifts) (cv := q_cI) dX11_stepOnce_276 279 rfl (k_X11_drifts l G x1 (u23.1 106 0 (Int32.toNatClampNeg x20)) (u23.1 107 0 (Int32.toNatClampNeg x20))  u23) wd_297 wv_X11_drifts pk_X11_drifts rfl rfl ⟨by decide, by decide⟩ ⟨Nat.zero_le _, Nat.zero_le _⟩ at_11 (ok_11 (by decide)) rfl rfl rfl (Nat.le_of_ble_eq_true rfl) (fun x22 u25 => ?_)
          show qAW l G m_X11_stepOnce (q_mq G q_cI) 279 [(0, .ref (q_ad G 11 0)), (1, .int x1), (3, .int x20)] [.int x22, .int x20, .ref (q_ad G 106 0)] u25 _
          refine aw_iast dX11_stepOnce_279 280 rfl at_106 (al_106 _) (ok_106 (by decide)) (fun h28 => ?_)
          refine aw_ltm (fun u26 => ?_)
          exact hj2 u26
set_option maxRecDepth 100000 in
set_option maxHeartbeats 4000000 in
theorem TL_X11_stepOnce_298 (l : Launch) (G : qG) (x1 : Int32)  (e1 : qM → Option (Int32 × qM)) (he1 : ∀  (v : qM), qAW l G m_X11_stepOnce (q_mq G q_cI) 336 [] [] v (e1 v)) : ∀ (n : Nat) (x23 : Int32) (u29 : qM), qAW l G m_X11_stepOnce (q_mq G q_cI) 298 [(0, .ref (q_ad G 11 0)), (1, .int x1), (3, .int x23)] [] u29 (L_X11_stepOnce_298 x1 n x23 u29 e1) := by
  intro n
  induction n with
  | zero => intros; exact aw_none
  | succ n ih =>
    intro x23 u29
    unfold L_X11_stepOnce_298
    refine aw_iload_n (i := 3) dX11_stepOnce_298 299 rfl rfl 2 rfl ?_
    refine aw_bipush (x := 8) dX11_stepOnce_299 301 rfl rfl ?_
    refine aw_icmp_ge dX11_stepOnce_301 304 rfl 336 rfl (fun h31 => ?_) (fun h31 => ?_)
    · exact aw_conv [] rfl (he1 u29)
    · refine aw_aload_n (i := 0) dX11_stepOnce_304 305 rfl rfl 0 rfl ?_
      refine gf_X11_48 dX11_stepOnce_305 308 rfl wd_255 (ok_11 (by decide)) ?_
      refine aw_iload_n (i := 3) dX11_stepOnce_308 309 rfl rfl 2 rfl ?_
      refine aw_iald dX11_stepOnce_309 310 rfl at_108 (al_108 _) (ok_108 (by decide)) (fun h32 => ?_)
      refine aw_iload_n (i := 1) dX11_stepOnce_310 311 rfl rfl 1 rfl ?_
      refine aw_jn (fun k => ∀  (u30 : qM), qAW l G m_X11_stepOnce (q_mq G q_cI) 330 [(0, .ref (q_ad G 11 0)), (1, .int x1), (3, .int x23)] [] u30 (k u30)) ?_ ?_
      · intro u30
        refine aw_iincx (i := 3) dX11_stepOnce_330 333 rfl 2 rfl 1 rfl (fun x24 => [(3, .int x24), (0, .ref (q_ad G 11 0)), (1, .int x1)]) (by decide) (fun _ => rfl) (fun x24 => ?_)
        refine aw_goto dX11_stepOnce_333 298 rfl ?_
        exact aw_conv [1, 2, 0] rfl (ih x24 u30)
      · intro j3 hj3
        refine aw_icmp_ne dX11_stepOnce_311 314 rfl 330 rfl (fun h33 => ?_) (fun h33 => ?_)
        · exact hj3 u29
        · refine aw_aload_n (i := 0) dX11_stepOnce_314 315 rfl rfl 0 rfl ?_
          refine aw_iload_n (i := 3) dX11_stepOnce_315 316 rfl rfl 2 rfl ?_
          refine aw_aload_n (i := 0) dX11_stepOnce_316 317 rfl rfl 0 rfl ?_
          refine aw_iload_n (i := 1) dX11_stepOnce_317 318 rfl rfl 1 rfl ?_
          refine aw_aload_n (i := 0) dX11_stepOnce_318 319 rfl rfl 0 rfl ?_
          refine gf_X11_49 dX11_stepOnce_319 322 rfl wd_298 (ok_11 (by decide)) ?_
          refine aw_iload_n (i := 3) dX11_stepOnce_322 323 rfl rfl 2 rfl ?_
          refine aw_iald dX11_stepOnce_323 324 rfl at_109 (al_109 _) (ok_109 (by decide)) (fun h34 => ?_)
          refine aw_callV (M2 := m_X11_level) (cv := q_cI) dX11_stepOnce_324 327 rfl (k_X11_level l G x1 (u29.1 109 0 (Int32.toNatClampNeg x23))  u29) wd_276 wv_X11_level pk_X11_level rfl rfl ⟨by decide, by decide⟩ ⟨Nat.zero_le _, Nat.zero_le _⟩ at_11 (ok_11 (by decide)) rfl rfl rfl (Nat.le_of_ble_eq_true rfl) (fun x25 u31 => ?_)
          show qAW l G m_X11_stepOnce (q_mq G q_cI) 327 [(0, .ref (q_ad G 11 0)), (1, .int x1), (3, .int x23)] [.int x25, .int x23, .ref (q_ad G 11 0)] u31 _
          refine aw_callV (M2 := m_X11_write) (cv := q_cU) dX11_stepOnce_327 330 rfl (k_X11_write l G x23 x25  u31) wd_299 wv_X11_write pk_X11_write rfl rfl ⟨by decide, by decide⟩ ⟨Nat.zero_le _, Nat.zero_le _⟩ at_11 (ok_11 (by decide)) rfl rfl rfl (Nat.le_of_ble_eq_true rfl) (fun _z u32 => ?_)
          show qAW l G m_X11_stepOnce (q_mq G q_cI) 330 [(0, .ref (q_ad G 11 0)), (1, .int x1), (3, .int x23)] [] u32 _
          exact hj3 u32
set_option maxRecDepth 100000 in
set_option maxHeartbeats 4000000 in
theorem k_X11_stepOnce (l : Launch) (G : qG) (x1 : Int32)  (u0 : qM) : qCt l G m_X11_stepOnce q_cI [.ref (q_ad G 11 0), .int x1] u0 (f_X11_stepOnce x1 u0) := by
  refine q_entry pk_X11_stepOnce (Nat.le_of_ble_eq_true rfl) ?_
  show qAW l G m_X11_stepOnce (q_mq G q_cI) 0 [(0, .ref (q_ad G 11 0)), (1, .int x1)] [] u0 (f_X11_stepOnce x1 u0)
  unfold f_X11_stepOnce
  refine aw_aload_n (i := 0) dX11_stepOnce_0 1 rfl rfl 0 rfl ?_
  refine aw_iload_n (i := 1) dX11_stepOnce_1 2 rfl rfl 1 rfl ?_
  refine aw_callV (M2 := m_X11_pushAll) (cv := q_cU) dX11_stepOnce_2 5 rfl (k_X11_pushAll l G x1  u0) wd_292 wv_X11_pushAll pk_X11_pushAll rfl rfl ⟨by decide, by decide⟩ ⟨Nat.zero_le _, Nat.zero_le _⟩ at_11 (ok_11 (by decide)) rfl rfl rfl (Nat.le_of_ble_eq_true rfl) (fun _z u1 => ?_)
  show qAW l G m_X11_stepOnce (q_mq G q_cI) 5 [(0, .ref (q_ad G 11 0)), (1, .int x1)] [] u1 _
  refine aw_aload_n (i := 0) dX11_stepOnce_5 6 rfl rfl 0 rfl ?_
  refine aw_iload_n (i := 1) dX11_stepOnce_6 7 rfl rfl 1 rfl ?_
  refine aw_callV (M2 := m_X11_carryAll) (cv := q_cU) dX11_stepOnce_7 10 rfl (k_X11_carryAll l G x1  u1) wd_293 wv_X11_carryAll pk_X11_carryAll rfl rfl ⟨by decide, by decide⟩ ⟨Nat.zero_le _, Nat.zero_le _⟩ at_11 (ok_11 (by decide)) rfl rfl rfl (Nat.le_of_ble_eq_true rfl) (fun _z u2 => ?_)
  show qAW l G m_X11_stepOnce (q_mq G q_cI) 10 [(0, .ref (q_ad G 11 0)), (1, .int x1)] [] u2 _
  refine aw_iconst (x := 0) dX11_stepOnce_10 11 rfl rfl ?_
  refine aw_istore_n dX11_stepOnce_11 12 rfl rfl [(2, .int 0), (0, .ref (q_ad G 11 0)), (1, .int x1)] (by decide) rfl ?_
  refine aw_iconst (x := 0) dX11_stepOnce_12 13 rfl rfl ?_
  refine aw_istore_n dX11_stepOnce_13 14 rfl rfl [(3, .int 0), (2, .int 0), (0, .ref (q_ad G 11 0)), (1, .int x1)] (by decide) rfl ?_
  refine aw_conv [2, 3, 1, 0] rfl (TL_X11_stepOnce_14 l G x1  _ ?_ _ 0 0 u2)
  · intro x7 u5
    refine aw_iconst (x := 0) dX11_stepOnce_71 72 rfl rfl ?_
    refine aw_istore_n dX11_stepOnce_72 73 rfl rfl [(3, .int 0), (0, .ref (q_ad G 11 0)), (1, .int x1), (2, .int x7)] (by decide) rfl ?_
    refine aw_conv [1, 2, 3, 0] rfl (TL_X11_stepOnce_73 l G x1 x7  _ _ ?_ ?_ _ 0 u5)
    · intro u8
      refine aw_aload_n (i := 0) dX11_stepOnce_101 102 rfl rfl 0 rfl ?_
      refine gf_X11_22 dX11_stepOnce_102 105 rfl wd_261 (ok_11 (by decide)) ?_
      refine aw_iload_n (i := 1) dX11_stepOnce_105 106 rfl rfl 1 rfl ?_
      refine aw_dup2 dX11_stepOnce_106 107 rfl rfl rfl ?_
      refine aw_iald dX11_stepOnce_107 108 rfl at_82 (al_82 _) (ok_82 (by decide)) (fun h11 => ?_)
      refine aw_iload_n (i := 2) dX11_stepOnce_108 109 rfl rfl 2 rfl ?_
      refine aw_iadd dX11_stepOnce_109 110 rfl ?_
      refine aw_iast dX11_stepOnce_110 111 rfl at_82 (al_82 _) (ok_82 (by decide)) (fun h12 => ?_)
      refine aw_ltm (fun u9 => ?_)
      refine aw_iconst (x := 0) dX11_stepOnce_111 112 rfl rfl ?_
      refine aw_istore_n dX11_stepOnce_112 113 rfl rfl [(3, .int 0), (0, .ref (q_ad G 11 0)), (1, .int x1), (2, .int x7)] (by decide) rfl ?_
      refine aw_conv [1, 2, 0] rfl (TL_X11_stepOnce_113 l G x1  _ ?_ _ 0 u9)
      · intro u13
        refine aw_iconst (x := 0) dX11_stepOnce_147 148 rfl rfl ?_
        refine aw_istore_n dX11_stepOnce_148 149 rfl rfl [(3, .int 0), (0, .ref (q_ad G 11 0)), (1, .int x1)] (by decide) rfl ?_
        refine aw_conv [1, 2, 0] rfl (TL_X11_stepOnce_149 l G x1  _ ?_ _ 0 u13)
        · intro u20
          refine aw_aload_n (i := 0) dX11_stepOnce_226 227 rfl rfl 0 rfl ?_
          refine aw_iload_n (i := 1) dX11_stepOnce_227 228 rfl rfl 1 rfl ?_
          refine aw_callV (M2 := m_X11_hasTide) (cv := q_cI) dX11_stepOnce_228 231 rfl (k_X11_hasTide l G x1  u20) wd_294 wv_X11_hasTide pk_X11_hasTide rfl rfl ⟨by decide, by decide⟩ ⟨Nat.zero_le _, Nat.zero_le _⟩ at_11 (ok_11 (by decide)) rfl rfl rfl (Nat.le_of_ble_eq_true rfl) (fun x19 u21 => ?_)
          show qAW l G m_X11_stepOnce (q_mq G q_cI) 231 [(0, .ref (q_ad G 11 0)), (1, .int x1)] [.int x19] u21 _
          refine aw_jn (fun k => ∀  (u22 : qM), qAW l G m_X11_stepOnce (q_mq G q_cI) 239 [(0, .ref (q_ad G 11 0)), (1, .int x1)] [] u22 (k u22)) ?_ ?_
          · intro u22
            refine aw_iconst (x := 0) dX11_stepOnce_239 240 rfl rfl ?_
            refine aw_istore_n dX11_stepOnce_240 241 rfl rfl [(3, .int 0), (0, .ref (q_ad G 11 0)), (1, .int x1)] (by decide) rfl ?_
            refine aw_conv [1, 2, 0] rfl (TL_X11_stepOnce_241 l G x1  _ ?_ _ 0 u22)
            · intro u27
              refine aw_aload_n (i := 0) dX11_stepOnce_286 287 rfl rfl 0 rfl ?_
              refine gf_X11_21 dX11_stepOnce_287 290 rfl wd_260 (ok_11 (by decide)) ?_
              refine aw_iload_n (i := 1) dX11_stepOnce_290 291 rfl rfl 1 rfl ?_
              refine aw_dup2 dX11_stepOnce_291 292 rfl rfl rfl ?_
              refine aw_iald dX11_stepOnce_292 293 rfl at_81 (al_81 _) (ok_81 (by decide)) (fun h29 => ?_)
              refine aw_iconst (x := 1) dX11_stepOnce_293 294 rfl rfl ?_
              refine aw_iadd dX11_stepOnce_294 295 rfl ?_
              refine aw_iast dX11_stepOnce_295 296 rfl at_81 (al_81 _) (ok_81 (by decide)) (fun h30 => ?_)
              refine aw_ltm (fun u28 => ?_)
              refine aw_iconst (x := 0) dX11_stepOnce_296 297 rfl rfl ?_
              refine aw_istore_n dX11_stepOnce_297 298 rfl rfl [(3, .int 0), (0, .ref (q_ad G 11 0)), (1, .int x1)] (by decide) rfl ?_
              refine aw_conv [1, 2, 0] rfl (TL_X11_stepOnce_298 l G x1  _ ?_ _ 0 u28)
              · intro u33
                refine aw_iconst (x := 1) dX11_stepOnce_336 337 rfl rfl ?_
                exact aw_zret dX11_stepOnce_337 rfl (by decide)
          · intro j1 hj1
            refine aw_if_eq dX11_stepOnce_231 234 rfl 239 rfl (fun h22 => ?_) (fun h22 => ?_)
            · exact hj1 u21
            · refine aw_aload_n (i := 0) dX11_stepOnce_234 235 rfl rfl 0 rfl ?_
              refine aw_iload_n (i := 1) dX11_stepOnce_235 236 rfl rfl 1 rfl ?_
              refine aw_callV (M2 := m_X11_leadRim) (cv := q_cU) dX11_stepOnce_236 239 rfl (k_X11_leadRim l G x1  u21) wd_300 wv_X11_leadRim pk_X11_leadRim rfl rfl ⟨by decide, by decide⟩ ⟨Nat.zero_le _, Nat.zero_le _⟩ at_11 (ok_11 (by decide)) rfl rfl rfl (Nat.le_of_ble_eq_true rfl) (fun _z u34 => ?_)
              show qAW l G m_X11_stepOnce (q_mq G q_cI) 239 [(0, .ref (q_ad G 11 0)), (1, .int x1)] [] u34 _
              exact hj1 u34
    · intro u35
      refine aw_iconst (x := 0) dX11_stepOnce_93 94 rfl rfl ?_
      exact aw_zret dX11_stepOnce_94 rfl (by decide)
