theorem dX11_step_0 : decode cX11_step 0 = .ok (.iload_n 2, 1) := by decide +kernel
theorem dX11_step_1 : decode cX11_step 1 = .ok (.iconst 0, 1) := by decide +kernel
theorem dX11_step_2 : decode cX11_step 2 = .ok (.sipush 200, 3) := by decide +kernel
theorem dX11_step_5 : decode cX11_step 5 = .ok (.invokestatic 182, 3) := by decide +kernel
theorem dX11_step_8 : decode cX11_step 8 = .ok (.ifCond .ne 5, 3) := by decide +kernel
theorem dX11_step_11 : decode cX11_step 11 = .ok (.iconst (-1), 1) := by decide +kernel
theorem dX11_step_12 : decode cX11_step 12 = .ok (.ireturn, 1) := by decide +kernel
theorem dX11_step_13 : decode cX11_step 13 = .ok (.aload_n 0, 1) := by decide +kernel
theorem dX11_step_14 : decode cX11_step 14 = .ok (.iload_n 1, 1) := by decide +kernel
theorem dX11_step_15 : decode cX11_step 15 = .ok (.invokevirtual 237, 3) := by decide +kernel
theorem dX11_step_18 : decode cX11_step 18 = .ok (.istore_n 3, 1) := by decide +kernel
theorem dX11_step_19 : decode cX11_step 19 = .ok (.iload_n 3, 1) := by decide +kernel
theorem dX11_step_20 : decode cX11_step 20 = .ok (.ifCond .ge 5, 3) := by decide +kernel
theorem dX11_step_23 : decode cX11_step 23 = .ok (.iload_n 3, 1) := by decide +kernel
theorem dX11_step_24 : decode cX11_step 24 = .ok (.ireturn, 1) := by decide +kernel
theorem dX11_step_25 : decode cX11_step 25 = .ok (.iconst 0, 1) := by decide +kernel
theorem dX11_step_26 : decode cX11_step 26 = .ok (.istore 4, 2) := by decide +kernel
theorem dX11_step_28 : decode cX11_step 28 = .ok (.iload 4, 2) := by decide +kernel
theorem dX11_step_30 : decode cX11_step 30 = .ok (.iload_n 2, 1) := by decide +kernel
theorem dX11_step_31 : decode cX11_step 31 = .ok (.if_icmp .ge 17, 3) := by decide +kernel
theorem dX11_step_34 : decode cX11_step 34 = .ok (.aload_n 0, 1) := by decide +kernel
theorem dX11_step_35 : decode cX11_step 35 = .ok (.iload_n 1, 1) := by decide +kernel
theorem dX11_step_36 : decode cX11_step 36 = .ok (.invokevirtual 284, 3) := by decide +kernel
theorem dX11_step_39 : decode cX11_step 39 = .ok (.ifCond .eq 9, 3) := by decide +kernel
theorem dX11_step_42 : decode cX11_step 42 = .ok (.iinc 4 1, 3) := by decide +kernel
theorem dX11_step_45 : decode cX11_step 45 = .ok (.goto (-17), 3) := by decide +kernel
theorem dX11_step_48 : decode cX11_step 48 = .ok (.iload 4, 2) := by decide +kernel
theorem dX11_step_50 : decode cX11_step 50 = .ok (.ireturn, 1) := by decide +kernel
noncomputable def L_X11_step_28 (x1 : Int32) (x2 : Int32) : Nat → Int32 → qM → (Int32 → qM → Option (Int32 × qM)) → Option (Int32 × qM)
  | 0, _, _, _ => none
  | n + 1, x5, u3, e1 => if x2 ≤ x5 then e1 x5 u3 else q_bd (f_X11_stepOnce x1 u3) (fun (x6 : Int32) (u4 : qM) => if x6 = 0 then e1 x5 u4 else q_lt (x5 + 1) (fun (x7 : Int32) => L_X11_step_28 x1 x2 n x7 u4 e1))
noncomputable def f_X11_step (x1 : Int32) (x2 : Int32) (u0 : qM) : Option (Int32 × qM) :=
  q_bd (f_X11_in x2 0 200 u0) (fun (x3 : Int32) (u1 : qM) => if x3 = 0 then some ((-1), u1) else q_bd (f_X11_askedFor x1 u1) (fun (x4 : Int32) (u2 : qM) => if (0 : Int32) ≤ x4 then L_X11_step_28 x1 x2 q_fu 0 u2 (fun x8 u5 => some (x8, u5)) else some (x4, u2)))
set_option maxRecDepth 100000 in
set_option maxHeartbeats 4000000 in
theorem TL_X11_step_28 (l : Launch) (G : qG) (x1 : Int32) (x2 : Int32)  (e1 : Int32 → qM → Option (Int32 × qM)) (he1 : ∀ (y1 : Int32) (v : qM), qAW l G m_X11_step (q_mq G q_cI) 48 [(4, .int y1)] [] v (e1 y1 v)) : ∀ (n : Nat) (x5 : Int32) (u3 : qM), qAW l G m_X11_step (q_mq G q_cI) 28 [(0, .ref (q_ad G 11 0)), (1, .int x1), (2, .int x2), (4, .int x5)] [] u3 (L_X11_step_28 x1 x2 n x5 u3 e1) := by
  intro n
  induction n with
  | zero => intros; exact aw_none
  | succ n ih =>
    intro x5 u3
    unfold L_X11_step_28
    refine aw_iload (i := 4) dX11_step_28 30 rfl 3 rfl ?_
    refine aw_iload_n (i := 2) dX11_step_30 31 rfl rfl 2 rfl ?_
    refine aw_icmp_ge dX11_step_31 34 rfl 48 rfl (fun h3 => ?_) (fun h3 => ?_)
    · exact aw_conv [3] rfl (he1 x5 u3)
    · refine aw_aload_n (i := 0) dX11_step_34 35 rfl rfl 0 rfl ?_
      refine aw_iload_n (i := 1) dX11_step_35 36 rfl rfl 1 rfl ?_
      refine aw_callV (M2 := m_X11_stepOnce) (cv := q_cI) dX11_step_36 39 rfl (k_X11_stepOnce l G x1  u3) wd_301 wv_X11_stepOnce pk_X11_stepOnce rfl rfl ⟨by decide, by decide⟩ ⟨Nat.zero_le _, Nat.zero_le _⟩ at_11 (ok_11 (by decide)) rfl rfl rfl (Nat.le_of_ble_eq_true rfl) (fun x6 u4 => ?_)
      show qAW l G m_X11_step (q_mq G q_cI) 39 [(0, .ref (q_ad G 11 0)), (1, .int x1), (2, .int x2), (4, .int x5)] [.int x6] u4 _
      refine aw_if_eq dX11_step_39 42 rfl 48 rfl (fun h4 => ?_) (fun h4 => ?_)
      · exact aw_conv [3] rfl (he1 x5 u4)
      · refine aw_iincx (i := 4) dX11_step_42 45 rfl 3 rfl 1 rfl (fun x7 => [(4, .int x7), (0, .ref (q_ad G 11 0)), (1, .int x1), (2, .int x2)]) (by decide) (fun _ => rfl) (fun x7 => ?_)
        refine aw_goto dX11_step_45 28 rfl ?_
        exact aw_conv [1, 2, 3, 0] rfl (ih x7 u4)
set_option maxRecDepth 100000 in
set_option maxHeartbeats 4000000 in
theorem k_X11_step (l : Launch) (G : qG) (x1 : Int32) (x2 : Int32)  (u0 : qM) : qCt l G m_X11_step q_cI [.ref (q_ad G 11 0), .int x1, .int x2] u0 (f_X11_step x1 x2 u0) := by
  refine q_entry pk_X11_step (Nat.le_of_ble_eq_true rfl) ?_
  show qAW l G m_X11_step (q_mq G q_cI) 0 [(0, .ref (q_ad G 11 0)), (1, .int x1), (2, .int x2)] [] u0 (f_X11_step x1 x2 u0)
  unfold f_X11_step
  refine aw_iload_n (i := 2) dX11_step_0 1 rfl rfl 2 rfl ?_
  refine aw_iconst (x := 0) dX11_step_1 2 rfl rfl ?_
  refine aw_sipush (x := 200) dX11_step_2 5 rfl rfl ?_
  refine aw_callS (M2 := m_X11_in) (cv := q_cI) dX11_step_5 8 rfl (k_X11_in l G x2 0 200  u0) wd_226 wv_X11_in pk_X11_in rfl ⟨by decide, by decide⟩ ⟨Nat.zero_le _, Nat.zero_le _⟩ rfl (Nat.le_of_ble_eq_true rfl) (fun x3 u1 => ?_)
  show qAW l G m_X11_step (q_mq G q_cI) 8 [(0, .ref (q_ad G 11 0)), (1, .int x1), (2, .int x2)] [.int x3] u1 _
  refine aw_if_ne dX11_step_8 11 rfl 13 rfl (fun h1 => ?_) (fun h1 => ?_)
  · refine aw_aload_n (i := 0) dX11_step_13 14 rfl rfl 0 rfl ?_
    refine aw_iload_n (i := 1) dX11_step_14 15 rfl rfl 1 rfl ?_
    refine aw_callV (M2 := m_X11_askedFor) (cv := q_cI) dX11_step_15 18 rfl (k_X11_askedFor l G x1  u1) wd_274 wv_X11_askedFor pk_X11_askedFor rfl rfl ⟨by decide, by decide⟩ ⟨Nat.zero_le _, Nat.zero_le _⟩ at_11 (ok_11 (by decide)) rfl rfl rfl (Nat.le_of_ble_eq_true rfl) (fun x4 u2 => ?_)
    show qAW l G m_X11_step (q_mq G q_cI) 18 [(0, .ref (q_ad G 11 0)), (1, .int x1), (2, .int x2)] [.int x4] u2 _
    refine aw_istore_n dX11_step_18 19 rfl rfl [(3, .int x4), (0, .ref (q_ad G 11 0)), (1, .int x1), (2, .int x2)] (by decide) rfl ?_
    refine aw_iload_n (i := 3) dX11_step_19 20 rfl rfl 0 rfl ?_
    refine aw_if_ge dX11_step_20 23 rfl 25 rfl (fun h2 => ?_) (fun h2 => ?_)
    · refine aw_iconst (x := 0) dX11_step_25 26 rfl rfl ?_
      refine aw_istore dX11_step_26 28 rfl [(4, .int 0), (3, .int x4), (0, .ref (q_ad G 11 0)), (1, .int x1), (2, .int x2)] (by decide) rfl ?_
      refine aw_conv [2, 3, 4, 0] rfl (TL_X11_step_28 l G x1 x2  _ ?_ _ 0 u2)
      · intro x8 u5
        refine aw_iload (i := 4) dX11_step_48 50 rfl 0 rfl ?_
        exact aw_iret dX11_step_50 rfl
    · refine aw_iload_n (i := 3) dX11_step_23 24 rfl rfl 0 rfl ?_
      exact aw_iret dX11_step_24 rfl
  · refine aw_iconst (x := (-1)) dX11_step_11 12 rfl rfl ?_
    exact aw_iret dX11_step_12 rfl
theorem dX11_sumOf_0 : decode cX11_sumOf 0 = .ok (.iconst 0, 1) := by decide +kernel
theorem dX11_sumOf_1 : decode cX11_sumOf 1 = .ok (.istore 4, 2) := by decide +kernel
theorem dX11_sumOf_3 : decode cX11_sumOf 3 = .ok (.iconst 0, 1) := by decide +kernel
theorem dX11_sumOf_4 : decode cX11_sumOf 4 = .ok (.istore 5, 2) := by decide +kernel
theorem dX11_sumOf_6 : decode cX11_sumOf 6 = .ok (.iload 5, 2) := by decide +kernel
theorem dX11_sumOf_8 : decode cX11_sumOf 8 = .ok (.iload_n 3, 1) := by decide +kernel
theorem dX11_sumOf_9 : decode cX11_sumOf 9 = .ok (.if_icmp .ge 20, 3) := by decide +kernel
theorem dX11_sumOf_12 : decode cX11_sumOf 12 = .ok (.iload 4, 2) := by decide +kernel
theorem dX11_sumOf_14 : decode cX11_sumOf 14 = .ok (.aload_n 1, 1) := by decide +kernel
theorem dX11_sumOf_15 : decode cX11_sumOf 15 = .ok (.iload_n 2, 1) := by decide +kernel
theorem dX11_sumOf_16 : decode cX11_sumOf 16 = .ok (.iload 5, 2) := by decide +kernel
theorem dX11_sumOf_18 : decode cX11_sumOf 18 = .ok (.iadd, 1) := by decide +kernel
theorem dX11_sumOf_19 : decode cX11_sumOf 19 = .ok (.iaload, 1) := by decide +kernel
theorem dX11_sumOf_20 : decode cX11_sumOf 20 = .ok (.iadd, 1) := by decide +kernel
theorem dX11_sumOf_21 : decode cX11_sumOf 21 = .ok (.istore 4, 2) := by decide +kernel
theorem dX11_sumOf_23 : decode cX11_sumOf 23 = .ok (.iinc 5 1, 3) := by decide +kernel
theorem dX11_sumOf_26 : decode cX11_sumOf 26 = .ok (.goto (-20), 3) := by decide +kernel
theorem dX11_sumOf_29 : decode cX11_sumOf 29 = .ok (.iload 4, 2) := by decide +kernel
theorem dX11_sumOf_31 : decode cX11_sumOf 31 = .ok (.ireturn, 1) := by decide +kernel
noncomputable def L_X11_sumOf_6 (k1 : Nat) (i1 : Nat) (x1 : Int32) (x2 : Int32) : Nat → Int32 → Int32 → qM → (Int32 → qM → Option (Int32 × qM)) → Option (Int32 × qM)
  | 0, _, _, _, _ => none
  | n + 1, x3, x4, u1, e1 => if x2 ≤ x4 then e1 x3 u1 else q_ck (q_in (x1 + x4) (q_al k1 i1)) (q_lt (x3 + (u1.1 k1 i1 (Int32.toNatClampNeg (x1 + x4)))) (fun (x5 : Int32) => q_lt (x4 + 1) (fun (x6 : Int32) => L_X11_sumOf_6 k1 i1 x1 x2 n x5 x6 u1 e1)))
noncomputable def f_X11_sumOf (k1 i1 : Nat) (x1 : Int32) (x2 : Int32) (u0 : qM) : Option (Int32 × qM) :=
  L_X11_sumOf_6 k1 i1 x1 x2 q_fu 0 0 u0 (fun x7 u2 => some (x7, u2))
set_option maxRecDepth 100000 in
set_option maxHeartbeats 4000000 in
theorem TL_X11_sumOf_6 (l : Launch) (G : qG) (k1 : Nat) (i1 : Nat) (x1 : Int32) (x2 : Int32) (q1 : q_at k1 = 0) (q2 : q_ok k1 i1 = true) (e1 : Int32 → qM → Option (Int32 × qM)) (he1 : ∀ (y1 : Int32) (v : qM), qAW l G m_X11_sumOf (q_mq G q_cI) 29 [(4, .int y1)] [] v (e1 y1 v)) : ∀ (n : Nat) (x3 : Int32) (x4 : Int32) (u1 : qM), qAW l G m_X11_sumOf (q_mq G q_cI) 6 [(1, .ref (q_ad G k1 i1)), (2, .int x1), (3, .int x2), (4, .int x3), (5, .int x4)] [] u1 (L_X11_sumOf_6 k1 i1 x1 x2 n x3 x4 u1 e1) := by
  intro n
  induction n with
  | zero => intros; exact aw_none
  | succ n ih =>
    intro x3 x4 u1
    unfold L_X11_sumOf_6
    refine aw_iload (i := 5) dX11_sumOf_6 8 rfl 4 rfl ?_
    refine aw_iload_n (i := 3) dX11_sumOf_8 9 rfl rfl 2 rfl ?_
    refine aw_icmp_ge dX11_sumOf_9 12 rfl 29 rfl (fun h1 => ?_) (fun h1 => ?_)
    · exact aw_conv [3] rfl (he1 x3 u1)
    · refine aw_iload (i := 4) dX11_sumOf_12 14 rfl 3 rfl ?_
      refine aw_aload_n (i := 1) dX11_sumOf_14 15 rfl rfl 0 rfl ?_
      refine aw_iload_n (i := 2) dX11_sumOf_15 16 rfl rfl 1 rfl ?_
      refine aw_iload (i := 5) dX11_sumOf_16 18 rfl 4 rfl ?_
      refine aw_iadd dX11_sumOf_18 19 rfl ?_
      refine aw_iald dX11_sumOf_19 20 rfl q1 rfl q2 (fun h2 => ?_)
      refine aw_iadd dX11_sumOf_20 21 rfl ?_
      refine aw_lti (fun x5 => ?_)
      refine aw_istore dX11_sumOf_21 23 rfl [(4, .int x5), (1, .ref (q_ad G k1 i1)), (2, .int x1), (3, .int x2), (5, .int x4)] (by decide) rfl ?_
      refine aw_iincx (i := 5) dX11_sumOf_23 26 rfl 4 rfl 1 rfl (fun x6 => [(5, .int x6), (4, .int x5), (1, .ref (q_ad G k1 i1)), (2, .int x1), (3, .int x2)]) (by decide) (fun _ => rfl) (fun x6 => ?_)
      refine aw_goto dX11_sumOf_26 6 rfl ?_
      exact aw_conv [2, 3, 4, 1, 0] rfl (ih x5 x6 u1)
set_option maxRecDepth 100000 in
set_option maxHeartbeats 4000000 in
theorem k_X11_sumOf (l : Launch) (G : qG) (k1 i1 : Nat) (x1 : Int32) (x2 : Int32) (ak1 : q_at k1 = 0) (ok1 : q_ok k1 i1 = true) (u0 : qM) : qCt l G m_X11_sumOf q_cI [.ref (q_ad G 11 0), .ref (q_ad G k1 i1), .int x1, .int x2] u0 (f_X11_sumOf k1 i1 x1 x2 u0) := by
  refine q_entry pk_X11_sumOf (Nat.le_of_ble_eq_true rfl) ?_
  show qAW l G m_X11_sumOf (q_mq G q_cI) 0 [(0, .ref (q_ad G 11 0)), (1, .ref (q_ad G k1 i1)), (2, .int x1), (3, .int x2)] [] u0 (f_X11_sumOf k1 i1 x1 x2 u0)
  unfold f_X11_sumOf
  refine aw_iconst (x := 0) dX11_sumOf_0 1 rfl rfl ?_
  refine aw_istore dX11_sumOf_1 3 rfl [(4, .int 0), (0, .ref (q_ad G 11 0)), (1, .ref (q_ad G k1 i1)), (2, .int x1), (3, .int x2)] (by decide) rfl ?_
  refine aw_iconst (x := 0) dX11_sumOf_3 4 rfl rfl ?_
  refine aw_istore dX11_sumOf_4 6 rfl [(5, .int 0), (4, .int 0), (0, .ref (q_ad G 11 0)), (1, .ref (q_ad G k1 i1)), (2, .int x1), (3, .int x2)] (by decide) rfl ?_
  refine aw_conv [3, 4, 5, 1, 0] rfl (TL_X11_sumOf_6 l G k1 i1 x1 x2 ak1 ok1 _ ?_ _ 0 0 u0)
  · intro x7 u2
    refine aw_iload (i := 4) dX11_sumOf_29 31 rfl 0 rfl ?_
    exact aw_iret dX11_sumOf_31 rfl
theorem dX11_dry_0 : decode cX11_dry 0 = .ok (.iconst 0, 1) := by decide +kernel
theorem dX11_dry_1 : decode cX11_dry 1 = .ok (.istore_n 2, 1) := by decide +kernel
theorem dX11_dry_2 : decode cX11_dry 2 = .ok (.iconst 0, 1) := by decide +kernel
theorem dX11_dry_3 : decode cX11_dry 3 = .ok (.istore_n 3, 1) := by decide +kernel
theorem dX11_dry_4 : decode cX11_dry 4 = .ok (.iload_n 3, 1) := by decide +kernel
theorem dX11_dry_5 : decode cX11_dry 5 = .ok (.aload_n 0, 1) := by decide +kernel
theorem dX11_dry_6 : decode cX11_dry 6 = .ok (.iload_n 1, 1) := by decide +kernel
theorem dX11_dry_7 : decode cX11_dry 7 = .ok (.invokevirtual 223, 3) := by decide +kernel
theorem dX11_dry_10 : decode cX11_dry 10 = .ok (.if_icmp .ge 31, 3) := by decide +kernel
theorem dX11_dry_13 : decode cX11_dry 13 = .ok (.iload_n 2, 1) := by decide +kernel
theorem dX11_dry_14 : decode cX11_dry 14 = .ok (.aload_n 0, 1) := by decide +kernel
theorem dX11_dry_15 : decode cX11_dry 15 = .ok (.getfield 92, 3) := by decide +kernel
theorem dX11_dry_18 : decode cX11_dry 18 = .ok (.bipush 48, 2) := by decide +kernel
theorem dX11_dry_20 : decode cX11_dry 20 = .ok (.iload_n 1, 1) := by decide +kernel
theorem dX11_dry_21 : decode cX11_dry 21 = .ok (.imul, 1) := by decide +kernel
theorem dX11_dry_22 : decode cX11_dry 22 = .ok (.iload_n 3, 1) := by decide +kernel
theorem dX11_dry_23 : decode cX11_dry 23 = .ok (.iadd, 1) := by decide +kernel
theorem dX11_dry_24 : decode cX11_dry 24 = .ok (.iaload, 1) := by decide +kernel
theorem dX11_dry_25 : decode cX11_dry 25 = .ok (.ifCond .ne 7, 3) := by decide +kernel
theorem dX11_dry_28 : decode cX11_dry 28 = .ok (.iconst 1, 1) := by decide +kernel
theorem dX11_dry_29 : decode cX11_dry 29 = .ok (.goto 4, 3) := by decide +kernel
theorem dX11_dry_32 : decode cX11_dry 32 = .ok (.iconst 0, 1) := by decide +kernel
theorem dX11_dry_33 : decode cX11_dry 33 = .ok (.iadd, 1) := by decide +kernel
theorem dX11_dry_34 : decode cX11_dry 34 = .ok (.istore_n 2, 1) := by decide +kernel
theorem dX11_dry_35 : decode cX11_dry 35 = .ok (.iinc 3 1, 3) := by decide +kernel
theorem dX11_dry_38 : decode cX11_dry 38 = .ok (.goto (-34), 3) := by decide +kernel
theorem dX11_dry_41 : decode cX11_dry 41 = .ok (.iload_n 2, 1) := by decide +kernel
theorem dX11_dry_42 : decode cX11_dry 42 = .ok (.ireturn, 1) := by decide +kernel
noncomputable def L_X11_dry_4 (x1 : Int32) : Nat → Int32 → Int32 → qM → (Int32 → qM → Option (Int32 × qM)) → Option (Int32 × qM)
  | 0, _, _, _, _ => none
  | n + 1, x2, x3, u1, e1 => q_bd (f_X11_cells x1 u1) (fun (x4 : Int32) (u2 : qM) => if x4 ≤ x3 then e1 x2 u2 else q_ck (q_in ((48 * x1) + x3) 384) (q_jn (fun (x5 : Int32) (u3 : qM) => q_lt (x2 + x5) (fun (x6 : Int32) => q_lt (x3 + 1) (fun (x7 : Int32) => L_X11_dry_4 x1 n x6 x7 u3 e1))) (fun j1 => if (u2.1 92 0 (Int32.toNatClampNeg ((48 * x1) + x3))) = 0 then j1 1 u2 else j1 0 u2)))
noncomputable def f_X11_dry (x1 : Int32) (u0 : qM) : Option (Int32 × qM) :=
  L_X11_dry_4 x1 q_fu 0 0 u0 (fun x8 u4 => some (x8, u4))
set_option maxRecDepth 100000 in
set_option maxHeartbeats 4000000 in
theorem TL_X11_dry_4 (l : Launch) (G : qG) (x1 : Int32)  (e1 : Int32 → qM → Option (Int32 × qM)) (he1 : ∀ (y1 : Int32) (v : qM), qAW l G m_X11_dry (q_mq G q_cI) 41 [(2, .int y1)] [] v (e1 y1 v)) : ∀ (n : Nat) (x2 : Int32) (x3 : Int32) (u1 : qM), qAW l G m_X11_dry (q_mq G q_cI) 4 [(0, .ref (q_ad G 11 0)), (1, .int x1), (2, .int x2), (3, .int x3)] [] u1 (L_X11_dry_4 x1 n x2 x3 u1 e1) := by
  intro n
  induction n with
  | zero => intros; exact aw_none
  | succ n ih =>
    intro x2 x3 u1
    unfold L_X11_dry_4
    refine aw_iload_n (i := 3) dX11_dry_4 5 rfl rfl 3 rfl ?_
    refine aw_aload_n (i := 0) dX11_dry_5 6 rfl rfl 0 rfl ?_
    refine aw_iload_n (i := 1) dX11_dry_6 7 rfl rfl 1 rfl ?_
    refine aw_callV (M2 := m_X11_cells) (cv := q_cI) dX11_dry_7 10 rfl (k_X11_cells l G x1  u1) wd_251 wv_X11_cells pk_X11_cells rfl rfl ⟨by decide, by decide⟩ ⟨Nat.zero_le _, Nat.zero_le _⟩ at_11 (ok_11 (by decide)) rfl rfl rfl (Nat.le_of_ble_eq_true rfl) (fun x4 u2 => ?_)
    show qAW l G m_X11_dry (q_mq G q_cI) 10 [(0, .ref (q_ad G 11 0)), (1, .int x1), (2, .int x2), (3, .int x3)] [.int x4, .int x3] u2 _
    refine aw_icmp_ge dX11_dry_10 13 rfl 41 rfl (fun h1 => ?_) (fun h1 => ?_)
    · exact aw_conv [2] rfl (he1 x2 u2)
    · refine aw_iload_n (i := 2) dX11_dry_13 14 rfl rfl 2 rfl ?_
      refine aw_aload_n (i := 0) dX11_dry_14 15 rfl rfl 0 rfl ?_
      refine gf_X11_32 dX11_dry_15 18 rfl wd_249 (ok_11 (by decide)) ?_
      refine aw_bipush (x := 48) dX11_dry_18 20 rfl rfl ?_
      refine aw_iload_n (i := 1) dX11_dry_20 21 rfl rfl 1 rfl ?_
      refine aw_imul dX11_dry_21 22 rfl ?_
      refine aw_iload_n (i := 3) dX11_dry_22 23 rfl rfl 3 rfl ?_
      refine aw_iadd dX11_dry_23 24 rfl ?_
      refine aw_iald dX11_dry_24 25 rfl at_92 (al_92 _) (ok_92 (by decide)) (fun h2 => ?_)
      refine aw_jn (fun k => ∀ (x5 : Int32) (u3 : qM), qAW l G m_X11_dry (q_mq G q_cI) 33 [(0, .ref (q_ad G 11 0)), (1, .int x1), (3, .int x3)] [.int x5, .int x2] u3 (k x5 u3)) ?_ ?_
      · intro x5 u3
        refine aw_iadd dX11_dry_33 34 rfl ?_
        refine aw_lti (fun x6 => ?_)
        refine aw_istore_n dX11_dry_34 35 rfl rfl [(2, .int x6), (0, .ref (q_ad G 11 0)), (1, .int x1), (3, .int x3)] (by decide) rfl ?_
        refine aw_iincx (i := 3) dX11_dry_35 38 rfl 3 rfl 1 rfl (fun x7 => [(3, .int x7), (2, .int x6), (0, .ref (q_ad G 11 0)), (1, .int x1)]) (by decide) (fun _ => rfl) (fun x7 => ?_)
        refine aw_goto dX11_dry_38 4 rfl ?_
        exact aw_conv [2, 3, 1, 0] rfl (ih x6 x7 u3)
      · intro j1 hj1
        refine aw_if_ne dX11_dry_25 28 rfl 32 rfl (fun h3 => ?_) (fun h3 => ?_)
        · refine aw_iconst (x := 0) dX11_dry_32 33 rfl rfl ?_
          exact aw_conv [0, 1, 3] rfl (hj1 0 u2)
        · refine aw_iconst (x := 1) dX11_dry_28 29 rfl rfl ?_
          refine aw_goto dX11_dry_29 33 rfl ?_
          exact aw_conv [0, 1, 3] rfl (hj1 1 u2)
set_option maxRecDepth 100000 in
set_option maxHeartbeats 4000000 in
theorem k_X11_dry (l : Launch) (G : qG) (x1 : Int32)  (u0 : qM) : qCt l G m_X11_dry q_cI [.ref (q_ad G 11 0), .int x1] u0 (f_X11_dry x1 u0) := by
  refine q_entry pk_X11_dry (Nat.le_of_ble_eq_true rfl) ?_
  show qAW l G m_X11_dry (q_mq G q_cI) 0 [(0, .ref (q_ad G 11 0)), (1, .int x1)] [] u0 (f_X11_dry x1 u0)
  unfold f_X11_dry
  refine aw_iconst (x := 0) dX11_dry_0 1 rfl rfl ?_
  refine aw_istore_n dX11_dry_1 2 rfl rfl [(2, .int 0), (0, .ref (q_ad G 11 0)), (1, .int x1)] (by decide) rfl ?_
  refine aw_iconst (x := 0) dX11_dry_2 3 rfl rfl ?_
  refine aw_istore_n dX11_dry_3 4 rfl rfl [(3, .int 0), (2, .int 0), (0, .ref (q_ad G 11 0)), (1, .int x1)] (by decide) rfl ?_
  refine aw_conv [2, 3, 1, 0] rfl (TL_X11_dry_4 l G x1  _ ?_ _ 0 0 u0)
  · intro x8 u4
    refine aw_iload_n (i := 2) dX11_dry_41 42 rfl rfl 0 rfl ?_
    exact aw_iret dX11_dry_42 rfl
theorem dX11_tells_0 : decode cX11_tells 0 = .ok (.iload_n 2, 1) := by decide +kernel
theorem dX11_tells_1 : decode cX11_tells 1 = .ok (.tableswitch 125 0 10 #[59, 66, 73, 80, 87, 105, 112, 125, 125, 125, 119], 59) := by decide +kernel
theorem dX11_tells_60 : decode cX11_tells 60 = .ok (.aload_n 0, 1) := by decide +kernel
theorem dX11_tells_61 : decode cX11_tells 61 = .ok (.getfield 38, 3) := by decide +kernel
theorem dX11_tells_64 : decode cX11_tells 64 = .ok (.iload_n 1, 1) := by decide +kernel
theorem dX11_tells_65 : decode cX11_tells 65 = .ok (.iaload, 1) := by decide +kernel
theorem dX11_tells_66 : decode cX11_tells 66 = .ok (.ireturn, 1) := by decide +kernel
theorem dX11_tells_67 : decode cX11_tells 67 = .ok (.aload_n 0, 1) := by decide +kernel
theorem dX11_tells_68 : decode cX11_tells 68 = .ok (.getfield 41, 3) := by decide +kernel
theorem dX11_tells_71 : decode cX11_tells 71 = .ok (.iload_n 1, 1) := by decide +kernel
theorem dX11_tells_72 : decode cX11_tells 72 = .ok (.iaload, 1) := by decide +kernel
theorem dX11_tells_73 : decode cX11_tells 73 = .ok (.ireturn, 1) := by decide +kernel
theorem dX11_tells_74 : decode cX11_tells 74 = .ok (.aload_n 0, 1) := by decide +kernel
theorem dX11_tells_75 : decode cX11_tells 75 = .ok (.getfield 44, 3) := by decide +kernel
theorem dX11_tells_78 : decode cX11_tells 78 = .ok (.iload_n 1, 1) := by decide +kernel
theorem dX11_tells_79 : decode cX11_tells 79 = .ok (.iaload, 1) := by decide +kernel
theorem dX11_tells_80 : decode cX11_tells 80 = .ok (.ireturn, 1) := by decide +kernel
theorem dX11_tells_81 : decode cX11_tells 81 = .ok (.aload_n 0, 1) := by decide +kernel
theorem dX11_tells_82 : decode cX11_tells 82 = .ok (.getfield 59, 3) := by decide +kernel
theorem dX11_tells_85 : decode cX11_tells 85 = .ok (.iload_n 1, 1) := by decide +kernel
theorem dX11_tells_86 : decode cX11_tells 86 = .ok (.iaload, 1) := by decide +kernel
theorem dX11_tells_87 : decode cX11_tells 87 = .ok (.ireturn, 1) := by decide +kernel
theorem dX11_tells_88 : decode cX11_tells 88 = .ok (.aload_n 0, 1) := by decide +kernel
theorem dX11_tells_89 : decode cX11_tells 89 = .ok (.aload_n 0, 1) := by decide +kernel
theorem dX11_tells_90 : decode cX11_tells 90 = .ok (.getfield 92, 3) := by decide +kernel
theorem dX11_tells_93 : decode cX11_tells 93 = .ok (.bipush 48, 2) := by decide +kernel
theorem dX11_tells_95 : decode cX11_tells 95 = .ok (.iload_n 1, 1) := by decide +kernel
theorem dX11_tells_96 : decode cX11_tells 96 = .ok (.imul, 1) := by decide +kernel
theorem dX11_tells_97 : decode cX11_tells 97 = .ok (.aload_n 0, 1) := by decide +kernel
theorem dX11_tells_98 : decode cX11_tells 98 = .ok (.iload_n 1, 1) := by decide +kernel
theorem dX11_tells_99 : decode cX11_tells 99 = .ok (.invokevirtual 223, 3) := by decide +kernel
theorem dX11_tells_102 : decode cX11_tells 102 = .ok (.invokevirtual 287, 3) := by decide +kernel
theorem dX11_tells_105 : decode cX11_tells 105 = .ok (.ireturn, 1) := by decide +kernel
theorem dX11_tells_106 : decode cX11_tells 106 = .ok (.aload_n 0, 1) := by decide +kernel
theorem dX11_tells_107 : decode cX11_tells 107 = .ok (.getfield 62, 3) := by decide +kernel
theorem dX11_tells_110 : decode cX11_tells 110 = .ok (.iload_n 1, 1) := by decide +kernel
theorem dX11_tells_111 : decode cX11_tells 111 = .ok (.iaload, 1) := by decide +kernel
theorem dX11_tells_112 : decode cX11_tells 112 = .ok (.ireturn, 1) := by decide +kernel
theorem dX11_tells_113 : decode cX11_tells 113 = .ok (.aload_n 0, 1) := by decide +kernel
theorem dX11_tells_114 : decode cX11_tells 114 = .ok (.getfield 65, 3) := by decide +kernel
theorem dX11_tells_117 : decode cX11_tells 117 = .ok (.iload_n 1, 1) := by decide +kernel
theorem dX11_tells_118 : decode cX11_tells 118 = .ok (.iaload, 1) := by decide +kernel
theorem dX11_tells_119 : decode cX11_tells 119 = .ok (.ireturn, 1) := by decide +kernel
theorem dX11_tells_120 : decode cX11_tells 120 = .ok (.aload_n 0, 1) := by decide +kernel
theorem dX11_tells_121 : decode cX11_tells 121 = .ok (.iload_n 1, 1) := by decide +kernel
theorem dX11_tells_122 : decode cX11_tells 122 = .ok (.invokevirtual 290, 3) := by decide +kernel
theorem dX11_tells_125 : decode cX11_tells 125 = .ok (.ireturn, 1) := by decide +kernel
theorem dX11_tells_126 : decode cX11_tells 126 = .ok (.aload_n 0, 1) := by decide +kernel
theorem dX11_tells_127 : decode cX11_tells 127 = .ok (.aload_n 0, 1) := by decide +kernel
theorem dX11_tells_128 : decode cX11_tells 128 = .ok (.getfield 95, 3) := by decide +kernel
theorem dX11_tells_131 : decode cX11_tells 131 = .ok (.sipush 144, 3) := by decide +kernel
theorem dX11_tells_134 : decode cX11_tells 134 = .ok (.iload_n 1, 1) := by decide +kernel
theorem dX11_tells_135 : decode cX11_tells 135 = .ok (.imul, 1) := by decide +kernel
theorem dX11_tells_136 : decode cX11_tells 136 = .ok (.bipush 48, 2) := by decide +kernel
theorem dX11_tells_138 : decode cX11_tells 138 = .ok (.iload_n 2, 1) := by decide +kernel
theorem dX11_tells_139 : decode cX11_tells 139 = .ok (.bipush 7, 2) := by decide +kernel
theorem dX11_tells_141 : decode cX11_tells 141 = .ok (.isub, 1) := by decide +kernel
theorem dX11_tells_142 : decode cX11_tells 142 = .ok (.imul, 1) := by decide +kernel
theorem dX11_tells_143 : decode cX11_tells 143 = .ok (.iadd, 1) := by decide +kernel
theorem dX11_tells_144 : decode cX11_tells 144 = .ok (.aload_n 0, 1) := by decide +kernel
theorem dX11_tells_145 : decode cX11_tells 145 = .ok (.iload_n 1, 1) := by decide +kernel
theorem dX11_tells_146 : decode cX11_tells 146 = .ok (.invokevirtual 223, 3) := by decide +kernel
theorem dX11_tells_149 : decode cX11_tells 149 = .ok (.invokevirtual 287, 3) := by decide +kernel
theorem dX11_tells_152 : decode cX11_tells 152 = .ok (.ireturn, 1) := by decide +kernel
noncomputable def f_X11_tells (x1 : Int32) (x2 : Int32) (u0 : qM) : Option (Int32 × qM) :=
  if x2 = 0 then q_ck (q_in x1 8) (some (u0.1 74 0 (Int32.toNatClampNeg x1), u0)) else if x2 = 1 then q_ck (q_in x1 8) (some (u0.1 75 0 (Int32.toNatClampNeg x1), u0)) else if x2 = 2 then q_ck (q_in x1 8) (some (u0.1 76 0 (Int32.toNatClampNeg x1), u0)) else if x2 = 3 then q_ck (q_in x1 8) (some (u0.1 81 0 (Int32.toNatClampNeg x1), u0)) else if x2 = 4 then q_bd (f_X11_cells x1 u0) (fun (x3 : Int32) (u1 : qM) => q_bd (f_X11_sumOf 92 0 (48 * x1) x3 u1) (fun (x4 : Int32) (u2 : qM) => some (x4, u2))) else if x2 = 5 then q_ck (q_in x1 8) (some (u0.1 82 0 (Int32.toNatClampNeg x1), u0)) else if x2 = 6 then q_ck (q_in x1 8) (some (u0.1 83 0 (Int32.toNatClampNeg x1), u0)) else if x2 = 10 then q_bd (f_X11_dry x1 u0) (fun (x5 : Int32) (u3 : qM) => some (x5, u3)) else q_bd (f_X11_cells x1 u0) (fun (x6 : Int32) (u4 : qM) => q_bd (f_X11_sumOf 93 0 ((144 * x1) + (48 * (x2 - 7))) x6 u4) (fun (x7 : Int32) (u5 : qM) => some (x7, u5)))
set_option maxRecDepth 100000 in
set_option maxHeartbeats 4000000 in
theorem k_X11_tells (l : Launch) (G : qG) (x1 : Int32) (x2 : Int32)  (u0 : qM) : qCt l G m_X11_tells q_cI [.ref (q_ad G 11 0), .int x1, .int x2] u0 (f_X11_tells x1 x2 u0) := by
  refine q_entry pk_X11_tells (Nat.le_of_ble_eq_true rfl) ?_
  show qAW l G m_X11_tells (q_mq G q_cI) 0 [(0, .ref (q_ad G 11 0)), (1, .int x1), (2, .int x2)] [] u0 (f_X11_tells x1 x2 u0)
  unfold f_X11_tells
  refine aw_iload_n (i := 2) dX11_tells_0 1 rfl rfl 2 rfl ?_
  refine aw_swIn (y := 0) dX11_tells_1 60 (by decide) (by decide) rfl rfl (fun h1 => ?_) (fun h1 => ?_)
  · refine aw_aload_n (i := 0) dX11_tells_60 61 rfl rfl 0 rfl ?_
    refine gf_X11_14 dX11_tells_61 64 rfl wd_250 (ok_11 (by decide)) ?_
    refine aw_iload_n (i := 1) dX11_tells_64 65 rfl rfl 1 rfl ?_
    refine aw_iald dX11_tells_65 66 rfl at_74 (al_74 _) (ok_74 (by decide)) (fun h2 => ?_)
    exact aw_iret dX11_tells_66 rfl
  · refine aw_swIn (y := 1) dX11_tells_1 67 (by decide) (by decide) rfl rfl (fun h3 => ?_) (fun h3 => ?_)
    · refine aw_aload_n (i := 0) dX11_tells_67 68 rfl rfl 0 rfl ?_
      refine gf_X11_15 dX11_tells_68 71 rfl wd_246 (ok_11 (by decide)) ?_
      refine aw_iload_n (i := 1) dX11_tells_71 72 rfl rfl 1 rfl ?_
      refine aw_iald dX11_tells_72 73 rfl at_75 (al_75 _) (ok_75 (by decide)) (fun h4 => ?_)
      exact aw_iret dX11_tells_73 rfl
    · refine aw_swIn (y := 2) dX11_tells_1 74 (by decide) (by decide) rfl rfl (fun h5 => ?_) (fun h5 => ?_)
      · refine aw_aload_n (i := 0) dX11_tells_74 75 rfl rfl 0 rfl ?_
        refine gf_X11_16 dX11_tells_75 78 rfl wd_247 (ok_11 (by decide)) ?_
        refine aw_iload_n (i := 1) dX11_tells_78 79 rfl rfl 1 rfl ?_
        refine aw_iald dX11_tells_79 80 rfl at_76 (al_76 _) (ok_76 (by decide)) (fun h6 => ?_)
        exact aw_iret dX11_tells_80 rfl
      · refine aw_swIn (y := 3) dX11_tells_1 81 (by decide) (by decide) rfl rfl (fun h7 => ?_) (fun h7 => ?_)
        · refine aw_aload_n (i := 0) dX11_tells_81 82 rfl rfl 0 rfl ?_
          refine gf_X11_21 dX11_tells_82 85 rfl wd_260 (ok_11 (by decide)) ?_
          refine aw_iload_n (i := 1) dX11_tells_85 86 rfl rfl 1 rfl ?_
          refine aw_iald dX11_tells_86 87 rfl at_81 (al_81 _) (ok_81 (by decide)) (fun h8 => ?_)
          exact aw_iret dX11_tells_87 rfl
        · refine aw_swIn (y := 4) dX11_tells_1 88 (by decide) (by decide) rfl rfl (fun h9 => ?_) (fun h9 => ?_)
          · refine aw_aload_n (i := 0) dX11_tells_88 89 rfl rfl 0 rfl ?_
            refine aw_aload_n (i := 0) dX11_tells_89 90 rfl rfl 0 rfl ?_
            refine gf_X11_32 dX11_tells_90 93 rfl wd_249 (ok_11 (by decide)) ?_
            refine aw_bipush (x := 48) dX11_tells_93 95 rfl rfl ?_
            refine aw_iload_n (i := 1) dX11_tells_95 96 rfl rfl 1 rfl ?_
            refine aw_imul dX11_tells_96 97 rfl ?_
            refine aw_aload_n (i := 0) dX11_tells_97 98 rfl rfl 0 rfl ?_
            refine aw_iload_n (i := 1) dX11_tells_98 99 rfl rfl 1 rfl ?_
            refine aw_callV (M2 := m_X11_cells) (cv := q_cI) dX11_tells_99 102 rfl (k_X11_cells l G x1  u0) wd_251 wv_X11_cells pk_X11_cells rfl rfl ⟨by decide, by decide⟩ ⟨Nat.zero_le _, Nat.zero_le _⟩ at_11 (ok_11 (by decide)) rfl rfl rfl (Nat.le_of_ble_eq_true rfl) (fun x3 u1 => ?_)
            show qAW l G m_X11_tells (q_mq G q_cI) 102 [(0, .ref (q_ad G 11 0)), (1, .int x1), (2, .int x2)] [.int x3, .int (48 * x1), .ref (q_ad G 92 0), .ref (q_ad G 11 0)] u1 _
            refine aw_callV (M2 := m_X11_sumOf) (cv := q_cI) dX11_tells_102 105 rfl (k_X11_sumOf l G 92 0 (48 * x1) x3 at_92 (ok_92 (by decide)) u1) wd_302 wv_X11_sumOf pk_X11_sumOf rfl rfl ⟨by decide, by decide⟩ ⟨Nat.zero_le _, Nat.zero_le _⟩ at_11 (ok_11 (by decide)) rfl rfl rfl (Nat.le_of_ble_eq_true rfl) (fun x4 u2 => ?_)
            show qAW l G m_X11_tells (q_mq G q_cI) 105 [(0, .ref (q_ad G 11 0)), (1, .int x1), (2, .int x2)] [.int x4] u2 _
            exact aw_iret dX11_tells_105 rfl
          · refine aw_swIn (y := 5) dX11_tells_1 106 (by decide) (by decide) rfl rfl (fun h10 => ?_) (fun h10 => ?_)
            · refine aw_aload_n (i := 0) dX11_tells_106 107 rfl rfl 0 rfl ?_
              refine gf_X11_22 dX11_tells_107 110 rfl wd_261 (ok_11 (by decide)) ?_
              refine aw_iload_n (i := 1) dX11_tells_110 111 rfl rfl 1 rfl ?_
              refine aw_iald dX11_tells_111 112 rfl at_82 (al_82 _) (ok_82 (by decide)) (fun h11 => ?_)
              exact aw_iret dX11_tells_112 rfl
            · refine aw_swIn (y := 6) dX11_tells_1 113 (by decide) (by decide) rfl rfl (fun h12 => ?_) (fun h12 => ?_)
              · refine aw_aload_n (i := 0) dX11_tells_113 114 rfl rfl 0 rfl ?_
                refine gf_X11_23 dX11_tells_114 117 rfl wd_262 (ok_11 (by decide)) ?_
                refine aw_iload_n (i := 1) dX11_tells_117 118 rfl rfl 1 rfl ?_
                refine aw_iald dX11_tells_118 119 rfl at_83 (al_83 _) (ok_83 (by decide)) (fun h13 => ?_)
                exact aw_iret dX11_tells_119 rfl
              · refine aw_swIn (y := 10) dX11_tells_1 120 (by decide) (by decide) rfl rfl (fun h14 => ?_) (fun h14 => ?_)
                · refine aw_aload_n (i := 0) dX11_tells_120 121 rfl rfl 0 rfl ?_
                  refine aw_iload_n (i := 1) dX11_tells_121 122 rfl rfl 1 rfl ?_
                  refine aw_callV (M2 := m_X11_dry) (cv := q_cI) dX11_tells_122 125 rfl (k_X11_dry l G x1  u0) wd_303 wv_X11_dry pk_X11_dry rfl rfl ⟨by decide, by decide⟩ ⟨Nat.zero_le _, Nat.zero_le _⟩ at_11 (ok_11 (by decide)) rfl rfl rfl (Nat.le_of_ble_eq_true rfl) (fun x5 u3 => ?_)
                  show qAW l G m_X11_tells (q_mq G q_cI) 125 [(0, .ref (q_ad G 11 0)), (1, .int x1), (2, .int x2)] [.int x5] u3 _
                  exact aw_iret dX11_tells_125 rfl
                · refine aw_swOut dX11_tells_1 126 rfl (q_swD [0, 1, 2, 3, 4, 5, 6, 10] (by decide +kernel) (by decide) (by simp only [List.mem_cons, List.not_mem_nil, or_false]; rintro c (rfl | rfl | rfl | rfl | rfl | rfl | rfl | rfl) <;> assumption)) ?_
                  refine aw_aload_n (i := 0) dX11_tells_126 127 rfl rfl 0 rfl ?_
                  refine aw_aload_n (i := 0) dX11_tells_127 128 rfl rfl 0 rfl ?_
                  refine gf_X11_33 dX11_tells_128 131 rfl wd_269 (ok_11 (by decide)) ?_
                  refine aw_sipush (x := 144) dX11_tells_131 134 rfl rfl ?_
                  refine aw_iload_n (i := 1) dX11_tells_134 135 rfl rfl 1 rfl ?_
                  refine aw_imul dX11_tells_135 136 rfl ?_
                  refine aw_bipush (x := 48) dX11_tells_136 138 rfl rfl ?_
                  refine aw_iload_n (i := 2) dX11_tells_138 139 rfl rfl 2 rfl ?_
                  refine aw_bipush (x := 7) dX11_tells_139 141 rfl rfl ?_
                  refine aw_isub dX11_tells_141 142 rfl ?_
                  refine aw_imul dX11_tells_142 143 rfl ?_
                  refine aw_iadd dX11_tells_143 144 rfl ?_
                  refine aw_aload_n (i := 0) dX11_tells_144 145 rfl rfl 0 rfl ?_
                  refine aw_iload_n (i := 1) dX11_tells_145 146 rfl rfl 1 rfl ?_
                  refine aw_callV (M2 := m_X11_cells) (cv := q_cI) dX11_tells_146 149 rfl (k_X11_cells l G x1  u0) wd_251 wv_X11_cells pk_X11_cells rfl rfl ⟨by decide, by decide⟩ ⟨Nat.zero_le _, Nat.zero_le _⟩ at_11 (ok_11 (by decide)) rfl rfl rfl (Nat.le_of_ble_eq_true rfl) (fun x6 u4 => ?_)
                  show qAW l G m_X11_tells (q_mq G q_cI) 149 [(0, .ref (q_ad G 11 0)), (1, .int x1), (2, .int x2)] [.int x6, .int ((144 * x1) + (48 * (x2 - 7))), .ref (q_ad G 93 0), .ref (q_ad G 11 0)] u4 _
                  refine aw_callV (M2 := m_X11_sumOf) (cv := q_cI) dX11_tells_149 152 rfl (k_X11_sumOf l G 93 0 ((144 * x1) + (48 * (x2 - 7))) x6 at_93 (ok_93 (by decide)) u4) wd_302 wv_X11_sumOf pk_X11_sumOf rfl rfl ⟨by decide, by decide⟩ ⟨Nat.zero_le _, Nat.zero_le _⟩ at_11 (ok_11 (by decide)) rfl rfl rfl (Nat.le_of_ble_eq_true rfl) (fun x7 u5 => ?_)
                  show qAW l G m_X11_tells (q_mq G q_cI) 152 [(0, .ref (q_ad G 11 0)), (1, .int x1), (2, .int x2)] [.int x7] u5 _
                  exact aw_iret dX11_tells_152 rfl
theorem dX11_told_0 : decode cX11_told 0 = .ok (.iload_n 2, 1) := by decide +kernel
theorem dX11_told_1 : decode cX11_told 1 = .ok (.iconst 0, 1) := by decide +kernel
theorem dX11_told_2 : decode cX11_told 2 = .ok (.bipush 10, 2) := by decide +kernel
theorem dX11_told_4 : decode cX11_told 4 = .ok (.invokestatic 182, 3) := by decide +kernel
theorem dX11_told_7 : decode cX11_told 7 = .ok (.ifCond .ne 5, 3) := by decide +kernel
theorem dX11_told_10 : decode cX11_told 10 = .ok (.iconst (-1), 1) := by decide +kernel
theorem dX11_told_11 : decode cX11_told 11 = .ok (.ireturn, 1) := by decide +kernel
theorem dX11_told_12 : decode cX11_told 12 = .ok (.aload_n 0, 1) := by decide +kernel
theorem dX11_told_13 : decode cX11_told 13 = .ok (.iload_n 1, 1) := by decide +kernel
theorem dX11_told_14 : decode cX11_told 14 = .ok (.invokevirtual 237, 3) := by decide +kernel
theorem dX11_told_17 : decode cX11_told 17 = .ok (.istore_n 3, 1) := by decide +kernel
theorem dX11_told_18 : decode cX11_told 18 = .ok (.iload_n 3, 1) := by decide +kernel
theorem dX11_told_19 : decode cX11_told 19 = .ok (.ifCond .ge 7, 3) := by decide +kernel
theorem dX11_told_22 : decode cX11_told 22 = .ok (.iload_n 3, 1) := by decide +kernel
theorem dX11_told_23 : decode cX11_told 23 = .ok (.goto 14, 3) := by decide +kernel
theorem dX11_told_26 : decode cX11_told 26 = .ok (.aload_n 0, 1) := by decide +kernel
theorem dX11_told_27 : decode cX11_told 27 = .ok (.aload_n 0, 1) := by decide +kernel
theorem dX11_told_28 : decode cX11_told 28 = .ok (.iload_n 1, 1) := by decide +kernel
theorem dX11_told_29 : decode cX11_told 29 = .ok (.iload_n 2, 1) := by decide +kernel
theorem dX11_told_30 : decode cX11_told 30 = .ok (.invokevirtual 293, 3) := by decide +kernel
theorem dX11_told_33 : decode cX11_told 33 = .ok (.iconst 1, 1) := by decide +kernel
theorem dX11_told_34 : decode cX11_told 34 = .ok (.invokevirtual 202, 3) := by decide +kernel
theorem dX11_told_37 : decode cX11_told 37 = .ok (.ireturn, 1) := by decide +kernel
noncomputable def f_X11_told (x1 : Int32) (x2 : Int32) (u0 : qM) : Option (Int32 × qM) :=
  q_bd (f_X11_in x2 0 10 u0) (fun (x3 : Int32) (u1 : qM) => if x3 = 0 then some ((-1), u1) else q_bd (f_X11_askedFor x1 u1) (fun (x4 : Int32) (u2 : qM) => q_jn (fun (x5 : Int32) (u3 : qM) => some (x5, u3)) (fun j1 => if (0 : Int32) ≤ x4 then q_bd (f_X11_tells x1 x2 u2) (fun (x6 : Int32) (u4 : qM) => q_bd (f_X11_ask x6 1 u4) (fun (x7 : Int32) (u5 : qM) => j1 x7 u5)) else j1 x4 u2)))
set_option maxRecDepth 100000 in
set_option maxHeartbeats 4000000 in
theorem k_X11_told (l : Launch) (G : qG) (x1 : Int32) (x2 : Int32)  (u0 : qM) : qCt l G m_X11_told q_cI [.ref (q_ad G 11 0), .int x1, .int x2] u0 (f_X11_told x1 x2 u0) := by
  refine q_entry pk_X11_told (Nat.le_of_ble_eq_true rfl) ?_
  show qAW l G m_X11_told (q_mq G q_cI) 0 [(0, .ref (q_ad G 11 0)), (1, .int x1), (2, .int x2)] [] u0 (f_X11_told x1 x2 u0)
  unfold f_X11_told
  refine aw_iload_n (i := 2) dX11_told_0 1 rfl rfl 2 rfl ?_
  refine aw_iconst (x := 0) dX11_told_1 2 rfl rfl ?_
  refine aw_bipush (x := 10) dX11_told_2 4 rfl rfl ?_
  refine aw_callS (M2 := m_X11_in) (cv := q_cI) dX11_told_4 7 rfl (k_X11_in l G x2 0 10  u0) wd_226 wv_X11_in pk_X11_in rfl ⟨by decide, by decide⟩ ⟨Nat.zero_le _, Nat.zero_le _⟩ rfl (Nat.le_of_ble_eq_true rfl) (fun x3 u1 => ?_)
  show qAW l G m_X11_told (q_mq G q_cI) 7 [(0, .ref (q_ad G 11 0)), (1, .int x1), (2, .int x2)] [.int x3] u1 _
  refine aw_if_ne dX11_told_7 10 rfl 12 rfl (fun h1 => ?_) (fun h1 => ?_)
  · refine aw_aload_n (i := 0) dX11_told_12 13 rfl rfl 0 rfl ?_
    refine aw_iload_n (i := 1) dX11_told_13 14 rfl rfl 1 rfl ?_
    refine aw_callV (M2 := m_X11_askedFor) (cv := q_cI) dX11_told_14 17 rfl (k_X11_askedFor l G x1  u1) wd_274 wv_X11_askedFor pk_X11_askedFor rfl rfl ⟨by decide, by decide⟩ ⟨Nat.zero_le _, Nat.zero_le _⟩ at_11 (ok_11 (by decide)) rfl rfl rfl (Nat.le_of_ble_eq_true rfl) (fun x4 u2 => ?_)
    show qAW l G m_X11_told (q_mq G q_cI) 17 [(0, .ref (q_ad G 11 0)), (1, .int x1), (2, .int x2)] [.int x4] u2 _
    refine aw_istore_n dX11_told_17 18 rfl rfl [(3, .int x4), (0, .ref (q_ad G 11 0)), (1, .int x1), (2, .int x2)] (by decide) rfl ?_
    refine aw_iload_n (i := 3) dX11_told_18 19 rfl rfl 0 rfl ?_
    refine aw_jn (fun k => ∀ (x5 : Int32) (u3 : qM), qAW l G m_X11_told (q_mq G q_cI) 37 [] [.int x5] u3 (k x5 u3)) ?_ ?_
    · intro x5 u3
      exact aw_iret dX11_told_37 rfl
    · intro j1 hj1
      refine aw_if_ge dX11_told_19 22 rfl 26 rfl (fun h2 => ?_) (fun h2 => ?_)
      · refine aw_aload_n (i := 0) dX11_told_26 27 rfl rfl 1 rfl ?_
        refine aw_aload_n (i := 0) dX11_told_27 28 rfl rfl 1 rfl ?_
        refine aw_iload_n (i := 1) dX11_told_28 29 rfl rfl 2 rfl ?_
        refine aw_iload_n (i := 2) dX11_told_29 30 rfl rfl 3 rfl ?_
        refine aw_callV (M2 := m_X11_tells) (cv := q_cI) dX11_told_30 33 rfl (k_X11_tells l G x1 x2  u2) wd_304 wv_X11_tells pk_X11_tells rfl rfl ⟨by decide, by decide⟩ ⟨Nat.zero_le _, Nat.zero_le _⟩ at_11 (ok_11 (by decide)) rfl rfl rfl (Nat.le_of_ble_eq_true rfl) (fun x6 u4 => ?_)
        show qAW l G m_X11_told (q_mq G q_cI) 33 [(3, .int x4), (0, .ref (q_ad G 11 0)), (1, .int x1), (2, .int x2)] [.int x6, .ref (q_ad G 11 0)] u4 _
        refine aw_iconst (x := 1) dX11_told_33 34 rfl rfl ?_
        refine aw_callV (M2 := m_X11_ask) (cv := q_cI) dX11_told_34 37 rfl (k_X11_ask l G x6 1  u4) wd_236 wv_X11_ask pk_X11_ask rfl rfl ⟨by decide, by decide⟩ ⟨Nat.zero_le _, Nat.zero_le _⟩ at_11 (ok_11 (by decide)) rfl rfl rfl (Nat.le_of_ble_eq_true rfl) (fun x7 u5 => ?_)
        show qAW l G m_X11_told (q_mq G q_cI) 37 [(3, .int x4), (0, .ref (q_ad G 11 0)), (1, .int x1), (2, .int x2)] [.int x7] u5 _
        exact aw_conv [] rfl (hj1 x7 u5)
      · refine aw_iload_n (i := 3) dX11_told_22 23 rfl rfl 0 rfl ?_
        refine aw_goto dX11_told_23 37 rfl ?_
        exact aw_conv [] rfl (hj1 x4 u2)
  · refine aw_iconst (x := (-1)) dX11_told_10 11 rfl rfl ?_
    exact aw_iret dX11_told_11 rfl
theorem dX11_mark_0 : decode cX11_mark 0 = .ok (.iload_n 2, 1) := by decide +kernel
theorem dX11_mark_1 : decode cX11_mark 1 = .ok (.iconst 1, 1) := by decide +kernel
theorem dX11_mark_2 : decode cX11_mark 2 = .ok (.iconst 3, 1) := by decide +kernel
theorem dX11_mark_3 : decode cX11_mark 3 = .ok (.invokestatic 182, 3) := by decide +kernel
theorem dX11_mark_6 : decode cX11_mark 6 = .ok (.ifCond .ne 5, 3) := by decide +kernel
theorem dX11_mark_9 : decode cX11_mark 9 = .ok (.iconst (-1), 1) := by decide +kernel
theorem dX11_mark_10 : decode cX11_mark 10 = .ok (.ireturn, 1) := by decide +kernel
theorem dX11_mark_11 : decode cX11_mark 11 = .ok (.aload_n 0, 1) := by decide +kernel
theorem dX11_mark_12 : decode cX11_mark 12 = .ok (.iload_n 1, 1) := by decide +kernel
theorem dX11_mark_13 : decode cX11_mark 13 = .ok (.invokevirtual 237, 3) := by decide +kernel
theorem dX11_mark_16 : decode cX11_mark 16 = .ok (.istore_n 3, 1) := by decide +kernel
theorem dX11_mark_17 : decode cX11_mark 17 = .ok (.iload_n 3, 1) := by decide +kernel
theorem dX11_mark_18 : decode cX11_mark 18 = .ok (.ifCond .ge 5, 3) := by decide +kernel
theorem dX11_mark_21 : decode cX11_mark 21 = .ok (.iload_n 3, 1) := by decide +kernel
theorem dX11_mark_22 : decode cX11_mark 22 = .ok (.ireturn, 1) := by decide +kernel
theorem dX11_mark_23 : decode cX11_mark 23 = .ok (.aload_n 0, 1) := by decide +kernel
theorem dX11_mark_24 : decode cX11_mark 24 = .ok (.getfield 38, 3) := by decide +kernel
theorem dX11_mark_27 : decode cX11_mark 27 = .ok (.iload_n 1, 1) := by decide +kernel
theorem dX11_mark_28 : decode cX11_mark 28 = .ok (.iaload, 1) := by decide +kernel
theorem dX11_mark_29 : decode cX11_mark 29 = .ok (.iload_n 2, 1) := by decide +kernel
theorem dX11_mark_30 : decode cX11_mark 30 = .ok (.if_icmp .eq 24, 3) := by decide +kernel
theorem dX11_mark_33 : decode cX11_mark 33 = .ok (.iload_n 2, 1) := by decide +kernel
theorem dX11_mark_34 : decode cX11_mark 34 = .ok (.iconst 1, 1) := by decide +kernel
theorem dX11_mark_35 : decode cX11_mark 35 = .ok (.if_icmp .ne 13, 3) := by decide +kernel
theorem dX11_mark_38 : decode cX11_mark 38 = .ok (.aload_n 0, 1) := by decide +kernel
theorem dX11_mark_39 : decode cX11_mark 39 = .ok (.getfield 38, 3) := by decide +kernel
theorem dX11_mark_42 : decode cX11_mark 42 = .ok (.iload_n 1, 1) := by decide +kernel
theorem dX11_mark_43 : decode cX11_mark 43 = .ok (.iaload, 1) := by decide +kernel
theorem dX11_mark_44 : decode cX11_mark 44 = .ok (.iconst 3, 1) := by decide +kernel
theorem dX11_mark_45 : decode cX11_mark 45 = .ok (.if_icmp .eq 9, 3) := by decide +kernel
theorem dX11_mark_48 : decode cX11_mark 48 = .ok (.aload_n 0, 1) := by decide +kernel
theorem dX11_mark_49 : decode cX11_mark 49 = .ok (.iconst 3, 1) := by decide +kernel
theorem dX11_mark_50 : decode cX11_mark 50 = .ok (.invokevirtual 190, 3) := by decide +kernel
theorem dX11_mark_53 : decode cX11_mark 53 = .ok (.ireturn, 1) := by decide +kernel
theorem dX11_mark_54 : decode cX11_mark 54 = .ok (.iload_n 2, 1) := by decide +kernel
theorem dX11_mark_55 : decode cX11_mark 55 = .ok (.iconst 1, 1) := by decide +kernel
theorem dX11_mark_56 : decode cX11_mark 56 = .ok (.if_icmp .ne 27, 3) := by decide +kernel
theorem dX11_mark_59 : decode cX11_mark 59 = .ok (.aload_n 0, 1) := by decide +kernel
theorem dX11_mark_60 : decode cX11_mark 60 = .ok (.iload_n 1, 1) := by decide +kernel
theorem dX11_mark_61 : decode cX11_mark 61 = .ok (.invokevirtual 268, 3) := by decide +kernel
theorem dX11_mark_64 : decode cX11_mark 64 = .ok (.ifCond .eq 16, 3) := by decide +kernel
theorem dX11_mark_67 : decode cX11_mark 67 = .ok (.aload_n 0, 1) := by decide +kernel
theorem dX11_mark_68 : decode cX11_mark 68 = .ok (.aload_n 0, 1) := by decide +kernel
theorem dX11_mark_69 : decode cX11_mark 69 = .ok (.iload_n 1, 1) := by decide +kernel
theorem dX11_mark_70 : decode cX11_mark 70 = .ok (.invokevirtual 259, 3) := by decide +kernel
theorem dX11_mark_73 : decode cX11_mark 73 = .ok (.iconst 1, 1) := by decide +kernel
theorem dX11_mark_74 : decode cX11_mark 74 = .ok (.invokevirtual 202, 3) := by decide +kernel
theorem dX11_mark_77 : decode cX11_mark 77 = .ok (.goto 5, 3) := by decide +kernel
theorem dX11_mark_80 : decode cX11_mark 80 = .ok (.bipush (-9), 2) := by decide +kernel
theorem dX11_mark_82 : decode cX11_mark 82 = .ok (.ireturn, 1) := by decide +kernel
theorem dX11_mark_83 : decode cX11_mark 83 = .ok (.iload_n 2, 1) := by decide +kernel
theorem dX11_mark_84 : decode cX11_mark 84 = .ok (.iconst 3, 1) := by decide +kernel
theorem dX11_mark_85 : decode cX11_mark 85 = .ok (.if_icmp .ne 22, 3) := by decide +kernel
theorem dX11_mark_88 : decode cX11_mark 88 = .ok (.aload_n 0, 1) := by decide +kernel
theorem dX11_mark_89 : decode cX11_mark 89 = .ok (.aload_n 0, 1) := by decide +kernel
theorem dX11_mark_90 : decode cX11_mark 90 = .ok (.iload_n 1, 1) := by decide +kernel
theorem dX11_mark_91 : decode cX11_mark 91 = .ok (.invokevirtual 223, 3) := by decide +kernel
theorem dX11_mark_94 : decode cX11_mark 94 = .ok (.aload_n 0, 1) := by decide +kernel
theorem dX11_mark_95 : decode cX11_mark 95 = .ok (.iload_n 1, 1) := by decide +kernel
theorem dX11_mark_96 : decode cX11_mark 96 = .ok (.invokevirtual 290, 3) := by decide +kernel
theorem dX11_mark_99 : decode cX11_mark 99 = .ok (.isub, 1) := by decide +kernel
theorem dX11_mark_100 : decode cX11_mark 100 = .ok (.iconst 1, 1) := by decide +kernel
theorem dX11_mark_101 : decode cX11_mark 101 = .ok (.invokevirtual 202, 3) := by decide +kernel
theorem dX11_mark_104 : decode cX11_mark 104 = .ok (.goto 27, 3) := by decide +kernel
theorem dX11_mark_107 : decode cX11_mark 107 = .ok (.aload_n 0, 1) := by decide +kernel
theorem dX11_mark_108 : decode cX11_mark 108 = .ok (.aload_n 0, 1) := by decide +kernel
theorem dX11_mark_109 : decode cX11_mark 109 = .ok (.aload_n 0, 1) := by decide +kernel
theorem dX11_mark_110 : decode cX11_mark 110 = .ok (.getfield 117, 3) := by decide +kernel
theorem dX11_mark_113 : decode cX11_mark 113 = .ok (.bipush 48, 2) := by decide +kernel
theorem dX11_mark_115 : decode cX11_mark 115 = .ok (.iload_n 1, 1) := by decide +kernel
theorem dX11_mark_116 : decode cX11_mark 116 = .ok (.imul, 1) := by decide +kernel
theorem dX11_mark_117 : decode cX11_mark 117 = .ok (.aload_n 0, 1) := by decide +kernel
theorem dX11_mark_118 : decode cX11_mark 118 = .ok (.iload_n 1, 1) := by decide +kernel
theorem dX11_mark_119 : decode cX11_mark 119 = .ok (.invokevirtual 223, 3) := by decide +kernel
theorem dX11_mark_122 : decode cX11_mark 122 = .ok (.iconst 4, 1) := by decide +kernel
theorem dX11_mark_123 : decode cX11_mark 123 = .ok (.idiv, 1) := by decide +kernel
theorem dX11_mark_124 : decode cX11_mark 124 = .ok (.invokevirtual 287, 3) := by decide +kernel
theorem dX11_mark_127 : decode cX11_mark 127 = .ok (.iconst 1, 1) := by decide +kernel
theorem dX11_mark_128 : decode cX11_mark 128 = .ok (.invokevirtual 202, 3) := by decide +kernel
theorem dX11_mark_131 : decode cX11_mark 131 = .ok (.ireturn, 1) := by decide +kernel
noncomputable def f_X11_mark (x1 : Int32) (x2 : Int32) (u0 : qM) : Option (Int32 × qM) :=
  q_bd (f_X11_in x2 1 3 u0) (fun (x3 : Int32) (u1 : qM) => if x3 = 0 then some ((-1), u1) else q_bd (f_X11_askedFor x1 u1) (fun (x4 : Int32) (u2 : qM) => if (0 : Int32) ≤ x4 then q_ck (q_in x1 8) (q_jn (fun  (u3 : qM) => if x2 = 1 then q_bd (f_X11_hasTide x1 u3) (fun (x12 : Int32) (u11 : qM) => q_jn (fun (x13 : Int32) (u12 : qM) => some (x13, u12)) (fun j3 => if x12 = 0 then j3 (-9) u11 else q_bd (f_X11_rimLevel x1 u11) (fun (x14 : Int32) (u13 : qM) => q_bd (f_X11_ask x14 1 u13) (fun (x15 : Int32) (u14 : qM) => j3 x15 u14)))) else q_jn (fun (x5 : Int32) (u4 : qM) => some (x5, u4)) (fun j2 => if x2 = 3 then q_bd (f_X11_cells x1 u3) (fun (x9 : Int32) (u8 : qM) => q_bd (f_X11_dry x1 u8) (fun (x10 : Int32) (u9 : qM) => q_bd (f_X11_ask (x9 - x10) 1 u9) (fun (x11 : Int32) (u10 : qM) => j2 x11 u10))) else q_bd (f_X11_cells x1 u3) (fun (x6 : Int32) (u5 : qM) => q_bd (f_X11_sumOf 100 0 (48 * x1) (x6 / 4) u5) (fun (x7 : Int32) (u6 : qM) => q_bd (f_X11_ask x7 1 u6) (fun (x8 : Int32) (u7 : qM) => j2 x8 u7))))) (fun j1 => if (u2.1 74 0 (Int32.toNatClampNeg x1)) = x2 then j1 u2 else q_jn (fun  (u15 : qM) => q_bd (f_X11_meets 3 u15) (fun (x16 : Int32) (u16 : qM) => some (x16, u16))) (fun j4 => if x2 = 1 then q_ck (q_in x1 8) (if (u2.1 74 0 (Int32.toNatClampNeg x1)) = 3 then j1 u2 else j4 u2) else j4 u2))) else some (x4, u2)))
set_option maxRecDepth 100000 in
set_option maxHeartbeats 4000000 in
theorem k_X11_mark (l : Launch) (G : qG) (x1 : Int32) (x2 : Int32)  (u0 : qM) : qCt l G m_X11_mark q_cI [.ref (q_ad G 11 0), .int x1, .int x2] u0 (f_X11_mark x1 x2 u0) := by
  refine q_entry pk_X11_mark (Nat.le_of_ble_eq_true rfl) ?_
  show qAW l G m_X11_mark (q_mq G q_cI) 0 [(0, .ref (q_ad G 11 0)), (1, .int x1), (2, .int x2)] [] u0 (f_X11_mark x1 x2 u0)
  unfold f_X11_mark
  refine aw_iload_n (i := 2) dX11_mark_0 1 rfl rfl 2 rfl ?_
  refine aw_iconst (x := 1) dX11_mark_1 2 rfl rfl ?_
  refine aw_iconst (x := 3) dX11_mark_2 3 rfl rfl ?_
  refine aw_callS (M2 := m_X11_in) (cv := q_cI) dX11_mark_3 6 rfl (k_X11_in l G x2 1 3  u0) wd_226 wv_X11_in pk_X11_in rfl ⟨by decide, by decide⟩ ⟨Nat.zero_le _, Nat.zero_le _⟩ rfl (Nat.le_of_ble_eq_true rfl) (fun x3 u1 => ?_)
  show qAW l G m_X11_mark (q_mq G q_cI) 6 [(0, .ref (q_ad G 11 0)), (1, .int x1), (2, .int x2)] [.int x3] u1 _
  refine aw_if_ne dX11_mark_6 9 rfl 11 rfl (fun h1 => ?_) (fun h1 => ?_)
  · refine aw_aload_n (i := 0) dX11_mark_11 12 rfl rfl 0 rfl ?_
    refine aw_iload_n (i := 1) dX11_mark_12 13 rfl rfl 1 rfl ?_
    refine aw_callV (M2 := m_X11_askedFor) (cv := q_cI) dX11_mark_13 16 rfl (k_X11_askedFor l G x1  u1) wd_274 wv_X11_askedFor pk_X11_askedFor rfl rfl ⟨by decide, by decide⟩ ⟨Nat.zero_le _, Nat.zero_le _⟩ at_11 (ok_11 (by decide)) rfl rfl rfl (Nat.le_of_ble_eq_true rfl) (fun x4 u2 => ?_)
    show qAW l G m_X11_mark (q_mq G q_cI) 16 [(0, .ref (q_ad G 11 0)), (1, .int x1), (2, .int x2)] [.int x4] u2 _
    refine aw_istore_n dX11_mark_16 17 rfl rfl [(3, .int x4), (0, .ref (q_ad G 11 0)), (1, .int x1), (2, .int x2)] (by decide) rfl ?_
    refine aw_iload_n (i := 3) dX11_mark_17 18 rfl rfl 0 rfl ?_
    refine aw_if_ge dX11_mark_18 21 rfl 23 rfl (fun h2 => ?_) (fun h2 => ?_)
    · refine aw_aload_n (i := 0) dX11_mark_23 24 rfl rfl 1 rfl ?_
      refine gf_X11_14 dX11_mark_24 27 rfl wd_250 (ok_11 (by decide)) ?_
      refine aw_iload_n (i := 1) dX11_mark_27 28 rfl rfl 2 rfl ?_
      refine aw_iald dX11_mark_28 29 rfl at_74 (al_74 _) (ok_74 (by decide)) (fun h3 => ?_)
      refine aw_iload_n (i := 2) dX11_mark_29 30 rfl rfl 3 rfl ?_
      refine aw_jn (fun k => ∀  (u3 : qM), qAW l G m_X11_mark (q_mq G q_cI) 54 [(0, .ref (q_ad G 11 0)), (1, .int x1), (2, .int x2)] [] u3 (k u3)) ?_ ?_
      · intro u3
        refine aw_iload_n (i := 2) dX11_mark_54 55 rfl rfl 2 rfl ?_
        refine aw_iconst (x := 1) dX11_mark_55 56 rfl rfl ?_
        refine aw_icmp_ne dX11_mark_56 59 rfl 83 rfl (fun h5 => ?_) (fun h5 => ?_)
        · refine aw_iload_n (i := 2) dX11_mark_83 84 rfl rfl 2 rfl ?_
          refine aw_iconst (x := 3) dX11_mark_84 85 rfl rfl ?_
          refine aw_jn (fun k => ∀ (x5 : Int32) (u4 : qM), qAW l G m_X11_mark (q_mq G q_cI) 131 [] [.int x5] u4 (k x5 u4)) ?_ ?_
          · intro x5 u4
            exact aw_iret dX11_mark_131 rfl
          · intro j2 hj2
            refine aw_icmp_ne dX11_mark_85 88 rfl 107 rfl (fun h6 => ?_) (fun h6 => ?_)
            · refine aw_aload_n (i := 0) dX11_mark_107 108 rfl rfl 0 rfl ?_
              refine aw_aload_n (i := 0) dX11_mark_108 109 rfl rfl 0 rfl ?_
              refine aw_aload_n (i := 0) dX11_mark_109 110 rfl rfl 0 rfl ?_
              refine gf_X11_40 dX11_mark_110 113 rfl wd_268 (ok_11 (by decide)) ?_
              refine aw_bipush (x := 48) dX11_mark_113 115 rfl rfl ?_
              refine aw_iload_n (i := 1) dX11_mark_115 116 rfl rfl 1 rfl ?_
              refine aw_imul dX11_mark_116 117 rfl ?_
              refine aw_aload_n (i := 0) dX11_mark_117 118 rfl rfl 0 rfl ?_
              refine aw_iload_n (i := 1) dX11_mark_118 119 rfl rfl 1 rfl ?_
              refine aw_callV (M2 := m_X11_cells) (cv := q_cI) dX11_mark_119 122 rfl (k_X11_cells l G x1  u3) wd_251 wv_X11_cells pk_X11_cells rfl rfl ⟨by decide, by decide⟩ ⟨Nat.zero_le _, Nat.zero_le _⟩ at_11 (ok_11 (by decide)) rfl rfl rfl (Nat.le_of_ble_eq_true rfl) (fun x6 u5 => ?_)
              show qAW l G m_X11_mark (q_mq G q_cI) 122 [(0, .ref (q_ad G 11 0)), (1, .int x1), (2, .int x2)] [.int x6, .int (48 * x1), .ref (q_ad G 100 0), .ref (q_ad G 11 0), .ref (q_ad G 11 0)] u5 _
              refine aw_iconst (x := 4) dX11_mark_122 123 rfl rfl ?_
              refine aw_idiv dX11_mark_123 124 rfl (by decide) ?_
              refine aw_callV (M2 := m_X11_sumOf) (cv := q_cI) dX11_mark_124 127 rfl (k_X11_sumOf l G 100 0 (48 * x1) (x6 / 4) at_100 (ok_100 (by decide)) u5) wd_302 wv_X11_sumOf pk_X11_sumOf rfl rfl ⟨by decide, by decide⟩ ⟨Nat.zero_le _, Nat.zero_le _⟩ at_11 (ok_11 (by decide)) rfl rfl rfl (Nat.le_of_ble_eq_true rfl) (fun x7 u6 => ?_)
              show qAW l G m_X11_mark (q_mq G q_cI) 127 [(0, .ref (q_ad G 11 0)), (1, .int x1), (2, .int x2)] [.int x7, .ref (q_ad G 11 0)] u6 _
              refine aw_iconst (x := 1) dX11_mark_127 128 rfl rfl ?_
              refine aw_callV (M2 := m_X11_ask) (cv := q_cI) dX11_mark_128 131 rfl (k_X11_ask l G x7 1  u6) wd_236 wv_X11_ask pk_X11_ask rfl rfl ⟨by decide, by decide⟩ ⟨Nat.zero_le _, Nat.zero_le _⟩ at_11 (ok_11 (by decide)) rfl rfl rfl (Nat.le_of_ble_eq_true rfl) (fun x8 u7 => ?_)
              show qAW l G m_X11_mark (q_mq G q_cI) 131 [(0, .ref (q_ad G 11 0)), (1, .int x1), (2, .int x2)] [.int x8] u7 _
              exact aw_conv [] rfl (hj2 x8 u7)
            · refine aw_aload_n (i := 0) dX11_mark_88 89 rfl rfl 0 rfl ?_
              refine aw_aload_n (i := 0) dX11_mark_89 90 rfl rfl 0 rfl ?_
              refine aw_iload_n (i := 1) dX11_mark_90 91 rfl rfl 1 rfl ?_
              refine aw_callV (M2 := m_X11_cells) (cv := q_cI) dX11_mark_91 94 rfl (k_X11_cells l G x1  u3) wd_251 wv_X11_cells pk_X11_cells rfl rfl ⟨by decide, by decide⟩ ⟨Nat.zero_le _, Nat.zero_le _⟩ at_11 (ok_11 (by decide)) rfl rfl rfl (Nat.le_of_ble_eq_true rfl) (fun x9 u8 => ?_)
              show qAW l G m_X11_mark (q_mq G q_cI) 94 [(0, .ref (q_ad G 11 0)), (1, .int x1), (2, .int x2)] [.int x9, .ref (q_ad G 11 0)] u8 _
              refine aw_aload_n (i := 0) dX11_mark_94 95 rfl rfl 0 rfl ?_
              refine aw_iload_n (i := 1) dX11_mark_95 96 rfl rfl 1 rfl ?_
              refine aw_callV (M2 := m_X11_dry) (cv := q_cI) dX11_mark_96 99 rfl (k_X11_dry l G x1  u8) wd_303 wv_X11_dry pk_X11_dry rfl rfl ⟨by decide, by decide⟩ ⟨Nat.zero_le _, Nat.zero_le _⟩ at_11 (ok_11 (by decide)) rfl rfl rfl (Nat.le_of_ble_eq_true rfl) (fun x10 u9 => ?_)
              show qAW l G m_X11_mark (q_mq G q_cI) 99 [(0, .ref (q_ad G 11 0)), (1, .int x1), (2, .int x2)] [.int x10, .int x9, .ref (q_ad G 11 0)] u9 _
              refine aw_isub dX11_mark_99 100 rfl ?_
              refine aw_iconst (x := 1) dX11_mark_100 101 rfl rfl ?_
              refine aw_callV (M2 := m_X11_ask) (cv := q_cI) dX11_mark_101 104 rfl (k_X11_ask l G (x9 - x10) 1  u9) wd_236 wv_X11_ask pk_X11_ask rfl rfl ⟨by decide, by decide⟩ ⟨Nat.zero_le _, Nat.zero_le _⟩ at_11 (ok_11 (by decide)) rfl rfl rfl (Nat.le_of_ble_eq_true rfl) (fun x11 u10 => ?_)
              show qAW l G m_X11_mark (q_mq G q_cI) 104 [(0, .ref (q_ad G 11 0)), (1, .int x1), (2, .int x2)] [.int x11] u10 _
              refine aw_goto dX11_mark_104 131 rfl ?_
              exact aw_conv [] rfl (hj2 x11 u10)
        · refine aw_aload_n (i := 0) dX11_mark_59 60 rfl rfl 0 rfl ?_
          refine aw_iload_n (i := 1) dX11_mark_60 61 rfl rfl 1 rfl ?_
          refine aw_callV (M2 := m_X11_hasTide) (cv := q_cI) dX11_mark_61 64 rfl (k_X11_hasTide l G x1  u3) wd_294 wv_X11_hasTide pk_X11_hasTide rfl rfl ⟨by decide, by decide⟩ ⟨Nat.zero_le _, Nat.zero_le _⟩ at_11 (ok_11 (by decide)) rfl rfl rfl (Nat.le_of_ble_eq_true rfl) (fun x12 u11 => ?_)
          show qAW l G m_X11_mark (q_mq G q_cI) 64 [(0, .ref (q_ad G 11 0)), (1, .int x1), (2, .int x2)] [.int x12] u11 _
          refine aw_jn (fun k => ∀ (x13 : Int32) (u12 : qM), qAW l G m_X11_mark (q_mq G q_cI) 82 [] [.int x13] u12 (k x13 u12)) ?_ ?_
          · intro x13 u12
            exact aw_iret dX11_mark_82 rfl
          · intro j3 hj3
            refine aw_if_eq dX11_mark_64 67 rfl 80 rfl (fun h7 => ?_) (fun h7 => ?_)
            · refine aw_bipush (x := (-9)) dX11_mark_80 82 rfl rfl ?_
              exact aw_conv [] rfl (hj3 (-9) u11)
            · refine aw_aload_n (i := 0) dX11_mark_67 68 rfl rfl 0 rfl ?_
              refine aw_aload_n (i := 0) dX11_mark_68 69 rfl rfl 0 rfl ?_
              refine aw_iload_n (i := 1) dX11_mark_69 70 rfl rfl 1 rfl ?_
              refine aw_callV (M2 := m_X11_rimLevel) (cv := q_cI) dX11_mark_70 73 rfl (k_X11_rimLevel l G x1  u11) wd_287 wv_X11_rimLevel pk_X11_rimLevel rfl rfl ⟨by decide, by decide⟩ ⟨Nat.zero_le _, Nat.zero_le _⟩ at_11 (ok_11 (by decide)) rfl rfl rfl (Nat.le_of_ble_eq_true rfl) (fun x14 u13 => ?_)
              show qAW l G m_X11_mark (q_mq G q_cI) 73 [(0, .ref (q_ad G 11 0)), (1, .int x1), (2, .int x2)] [.int x14, .ref (q_ad G 11 0)] u13 _
              refine aw_iconst (x := 1) dX11_mark_73 74 rfl rfl ?_
              refine aw_callV (M2 := m_X11_ask) (cv := q_cI) dX11_mark_74 77 rfl (k_X11_ask l G x14 1  u13) wd_236 wv_X11_ask pk_X11_ask rfl rfl ⟨by decide, by decide⟩ ⟨Nat.zero_le _, Nat.zero_le _⟩ at_11 (ok_11 (by decide)) rfl rfl rfl (Nat.le_of_ble_eq_true rfl) (fun x15 u14 => ?_)
              show qAW l G m_X11_mark (q_mq G q_cI) 77 [(0, .ref (q_ad G 11 0)), (1, .int x1), (2, .int x2)] [.int x15] u14 _
              refine aw_goto dX11_mark_77 82 rfl ?_
              exact aw_conv [] rfl (hj3 x15 u14)
      · intro j1 hj1
        refine aw_icmp_eq dX11_mark_30 33 rfl 54 rfl (fun h4 => ?_) (fun h4 => ?_)
        · exact aw_conv [1, 2, 3] rfl (hj1 u2)
        · refine aw_iload_n (i := 2) dX11_mark_33 34 rfl rfl 3 rfl ?_
          refine aw_iconst (x := 1) dX11_mark_34 35 rfl rfl ?_
          refine aw_jn (fun k => ∀  (u15 : qM), qAW l G m_X11_mark (q_mq G q_cI) 48 [(0, .ref (q_ad G 11 0))] [] u15 (k u15)) ?_ ?_
          · intro u15
            refine aw_aload_n (i := 0) dX11_mark_48 49 rfl rfl 0 rfl ?_
            refine aw_iconst (x := 3) dX11_mark_49 50 rfl rfl ?_
            refine aw_callV (M2 := m_X11_meets) (cv := q_cI) dX11_mark_50 53 rfl (k_X11_meets l G 3  u15) wd_229 wv_X11_meets pk_X11_meets rfl rfl ⟨by decide, by decide⟩ ⟨Nat.zero_le _, Nat.zero_le _⟩ at_11 (ok_11 (by decide)) rfl rfl rfl (Nat.le_of_ble_eq_true rfl) (fun x16 u16 => ?_)
            show qAW l G m_X11_mark (q_mq G q_cI) 53 [(0, .ref (q_ad G 11 0))] [.int x16] u16 _
            exact aw_iret dX11_mark_53 rfl
          · intro j4 hj4
            refine aw_icmp_ne dX11_mark_35 38 rfl 48 rfl (fun h8 => ?_) (fun h8 => ?_)
            · exact aw_conv [1] rfl (hj4 u2)
            · refine aw_aload_n (i := 0) dX11_mark_38 39 rfl rfl 1 rfl ?_
              refine gf_X11_14 dX11_mark_39 42 rfl wd_250 (ok_11 (by decide)) ?_
              refine aw_iload_n (i := 1) dX11_mark_42 43 rfl rfl 2 rfl ?_
              refine aw_iald dX11_mark_43 44 rfl at_74 (al_74 _) (ok_74 (by decide)) (fun h9 => ?_)
              refine aw_iconst (x := 3) dX11_mark_44 45 rfl rfl ?_
              refine aw_icmp_eq dX11_mark_45 48 rfl 54 rfl (fun h10 => ?_) (fun h10 => ?_)
              · exact aw_conv [1, 2, 3] rfl (hj1 u2)
              · exact aw_conv [1] rfl (hj4 u2)
    · refine aw_iload_n (i := 3) dX11_mark_21 22 rfl rfl 0 rfl ?_
      exact aw_iret dX11_mark_22 rfl
  · refine aw_iconst (x := (-1)) dX11_mark_9 10 rfl rfl ?_
    exact aw_iret dX11_mark_10 rfl
theorem dX11_bring_0 : decode cX11_bring 0 = .ok (.aload_n 0, 1) := by decide +kernel
theorem dX11_bring_1 : decode cX11_bring 1 = .ok (.iload_n 2, 1) := by decide +kernel
theorem dX11_bring_2 : decode cX11_bring 2 = .ok (.aload_n 0, 1) := by decide +kernel
theorem dX11_bring_3 : decode cX11_bring 3 = .ok (.getfield 38, 3) := by decide +kernel
theorem dX11_bring_6 : decode cX11_bring 6 = .ok (.iload_n 1, 1) := by decide +kernel
theorem dX11_bring_7 : decode cX11_bring 7 = .ok (.iaload, 1) := by decide +kernel
theorem dX11_bring_8 : decode cX11_bring 8 = .ok (.aload_n 0, 1) := by decide +kernel
theorem dX11_bring_9 : decode cX11_bring 9 = .ok (.getfield 41, 3) := by decide +kernel
theorem dX11_bring_12 : decode cX11_bring 12 = .ok (.iload_n 1, 1) := by decide +kernel
theorem dX11_bring_13 : decode cX11_bring 13 = .ok (.iaload, 1) := by decide +kernel
theorem dX11_bring_14 : decode cX11_bring 14 = .ok (.aload_n 0, 1) := by decide +kernel
theorem dX11_bring_15 : decode cX11_bring 15 = .ok (.getfield 44, 3) := by decide +kernel
theorem dX11_bring_18 : decode cX11_bring 18 = .ok (.iload_n 1, 1) := by decide +kernel
theorem dX11_bring_19 : decode cX11_bring 19 = .ok (.iaload, 1) := by decide +kernel
theorem dX11_bring_20 : decode cX11_bring 20 = .ok (.invokevirtual 233, 3) := by decide +kernel
theorem dX11_bring_23 : decode cX11_bring 23 = .ok (.aload_n 0, 1) := by decide +kernel
theorem dX11_bring_24 : decode cX11_bring 24 = .ok (.getfield 47, 3) := by decide +kernel
theorem dX11_bring_27 : decode cX11_bring 27 = .ok (.iload_n 2, 1) := by decide +kernel
theorem dX11_bring_28 : decode cX11_bring 28 = .ok (.aload_n 0, 1) := by decide +kernel
theorem dX11_bring_29 : decode cX11_bring 29 = .ok (.getfield 47, 3) := by decide +kernel
theorem dX11_bring_32 : decode cX11_bring 32 = .ok (.iload_n 1, 1) := by decide +kernel
theorem dX11_bring_33 : decode cX11_bring 33 = .ok (.iaload, 1) := by decide +kernel
theorem dX11_bring_34 : decode cX11_bring 34 = .ok (.iastore, 1) := by decide +kernel
theorem dX11_bring_35 : decode cX11_bring 35 = .ok (.aload_n 0, 1) := by decide +kernel
theorem dX11_bring_36 : decode cX11_bring 36 = .ok (.getfield 50, 3) := by decide +kernel
theorem dX11_bring_39 : decode cX11_bring 39 = .ok (.iload_n 2, 1) := by decide +kernel
theorem dX11_bring_40 : decode cX11_bring 40 = .ok (.aload_n 0, 1) := by decide +kernel
theorem dX11_bring_41 : decode cX11_bring 41 = .ok (.getfield 50, 3) := by decide +kernel
theorem dX11_bring_44 : decode cX11_bring 44 = .ok (.iload_n 1, 1) := by decide +kernel
theorem dX11_bring_45 : decode cX11_bring 45 = .ok (.iaload, 1) := by decide +kernel
theorem dX11_bring_46 : decode cX11_bring 46 = .ok (.iastore, 1) := by decide +kernel
theorem dX11_bring_47 : decode cX11_bring 47 = .ok (.aload_n 0, 1) := by decide +kernel
theorem dX11_bring_48 : decode cX11_bring 48 = .ok (.getfield 53, 3) := by decide +kernel
theorem dX11_bring_51 : decode cX11_bring 51 = .ok (.iload_n 2, 1) := by decide +kernel
theorem dX11_bring_52 : decode cX11_bring 52 = .ok (.aload_n 0, 1) := by decide +kernel
theorem dX11_bring_53 : decode cX11_bring 53 = .ok (.getfield 53, 3) := by decide +kernel
theorem dX11_bring_56 : decode cX11_bring 56 = .ok (.iload_n 1, 1) := by decide +kernel
theorem dX11_bring_57 : decode cX11_bring 57 = .ok (.iaload, 1) := by decide +kernel
theorem dX11_bring_58 : decode cX11_bring 58 = .ok (.iastore, 1) := by decide +kernel
theorem dX11_bring_59 : decode cX11_bring 59 = .ok (.aload_n 0, 1) := by decide +kernel
theorem dX11_bring_60 : decode cX11_bring 60 = .ok (.getfield 56, 3) := by decide +kernel
theorem dX11_bring_63 : decode cX11_bring 63 = .ok (.iload_n 2, 1) := by decide +kernel
theorem dX11_bring_64 : decode cX11_bring 64 = .ok (.aload_n 0, 1) := by decide +kernel
theorem dX11_bring_65 : decode cX11_bring 65 = .ok (.getfield 56, 3) := by decide +kernel
theorem dX11_bring_68 : decode cX11_bring 68 = .ok (.iload_n 1, 1) := by decide +kernel
theorem dX11_bring_69 : decode cX11_bring 69 = .ok (.iaload, 1) := by decide +kernel
theorem dX11_bring_70 : decode cX11_bring 70 = .ok (.iastore, 1) := by decide +kernel
theorem dX11_bring_71 : decode cX11_bring 71 = .ok (.aload_n 0, 1) := by decide +kernel
theorem dX11_bring_72 : decode cX11_bring 72 = .ok (.getfield 59, 3) := by decide +kernel
theorem dX11_bring_75 : decode cX11_bring 75 = .ok (.iload_n 2, 1) := by decide +kernel
theorem dX11_bring_76 : decode cX11_bring 76 = .ok (.aload_n 0, 1) := by decide +kernel
theorem dX11_bring_77 : decode cX11_bring 77 = .ok (.getfield 59, 3) := by decide +kernel
theorem dX11_bring_80 : decode cX11_bring 80 = .ok (.iload_n 1, 1) := by decide +kernel
theorem dX11_bring_81 : decode cX11_bring 81 = .ok (.iaload, 1) := by decide +kernel
theorem dX11_bring_82 : decode cX11_bring 82 = .ok (.iastore, 1) := by decide +kernel
theorem dX11_bring_83 : decode cX11_bring 83 = .ok (.aload_n 0, 1) := by decide +kernel
theorem dX11_bring_84 : decode cX11_bring 84 = .ok (.getfield 62, 3) := by decide +kernel
theorem dX11_bring_87 : decode cX11_bring 87 = .ok (.iload_n 2, 1) := by decide +kernel
theorem dX11_bring_88 : decode cX11_bring 88 = .ok (.aload_n 0, 1) := by decide +kernel
theorem dX11_bring_89 : decode cX11_bring 89 = .ok (.getfield 62, 3) := by decide +kernel
theorem dX11_bring_92 : decode cX11_bring 92 = .ok (.iload_n 1, 1) := by decide +kernel
theorem dX11_bring_93 : decode cX11_bring 93 = .ok (.iaload, 1) := by decide +kernel
theorem dX11_bring_94 : decode cX11_bring 94 = .ok (.iastore, 1) := by decide +kernel
theorem dX11_bring_95 : decode cX11_bring 95 = .ok (.aload_n 0, 1) := by decide +kernel
theorem dX11_bring_96 : decode cX11_bring 96 = .ok (.getfield 65, 3) := by decide +kernel
theorem dX11_bring_99 : decode cX11_bring 99 = .ok (.iload_n 2, 1) := by decide +kernel
theorem dX11_bring_100 : decode cX11_bring 100 = .ok (.aload_n 0, 1) := by decide +kernel
theorem dX11_bring_101 : decode cX11_bring 101 = .ok (.getfield 65, 3) := by decide +kernel
theorem dX11_bring_104 : decode cX11_bring 104 = .ok (.iload_n 1, 1) := by decide +kernel
theorem dX11_bring_105 : decode cX11_bring 105 = .ok (.iaload, 1) := by decide +kernel
theorem dX11_bring_106 : decode cX11_bring 106 = .ok (.iastore, 1) := by decide +kernel
theorem dX11_bring_107 : decode cX11_bring 107 = .ok (.aload_n 0, 1) := by decide +kernel
theorem dX11_bring_108 : decode cX11_bring 108 = .ok (.getfield 68, 3) := by decide +kernel
theorem dX11_bring_111 : decode cX11_bring 111 = .ok (.iload_n 2, 1) := by decide +kernel
theorem dX11_bring_112 : decode cX11_bring 112 = .ok (.aload_n 0, 1) := by decide +kernel
theorem dX11_bring_113 : decode cX11_bring 113 = .ok (.getfield 68, 3) := by decide +kernel
theorem dX11_bring_116 : decode cX11_bring 116 = .ok (.iload_n 1, 1) := by decide +kernel
theorem dX11_bring_117 : decode cX11_bring 117 = .ok (.iaload, 1) := by decide +kernel
theorem dX11_bring_118 : decode cX11_bring 118 = .ok (.iastore, 1) := by decide +kernel
theorem dX11_bring_119 : decode cX11_bring 119 = .ok (.aload_n 0, 1) := by decide +kernel
theorem dX11_bring_120 : decode cX11_bring 120 = .ok (.getfield 71, 3) := by decide +kernel
theorem dX11_bring_123 : decode cX11_bring 123 = .ok (.iload_n 2, 1) := by decide +kernel
theorem dX11_bring_124 : decode cX11_bring 124 = .ok (.aload_n 0, 1) := by decide +kernel
theorem dX11_bring_125 : decode cX11_bring 125 = .ok (.getfield 71, 3) := by decide +kernel
theorem dX11_bring_128 : decode cX11_bring 128 = .ok (.iload_n 1, 1) := by decide +kernel
theorem dX11_bring_129 : decode cX11_bring 129 = .ok (.iaload, 1) := by decide +kernel
theorem dX11_bring_130 : decode cX11_bring 130 = .ok (.iastore, 1) := by decide +kernel
theorem dX11_bring_131 : decode cX11_bring 131 = .ok (.aload_n 0, 1) := by decide +kernel
theorem dX11_bring_132 : decode cX11_bring 132 = .ok (.getfield 74, 3) := by decide +kernel
theorem dX11_bring_135 : decode cX11_bring 135 = .ok (.iload_n 2, 1) := by decide +kernel
theorem dX11_bring_136 : decode cX11_bring 136 = .ok (.aload_n 0, 1) := by decide +kernel
theorem dX11_bring_137 : decode cX11_bring 137 = .ok (.getfield 74, 3) := by decide +kernel
theorem dX11_bring_140 : decode cX11_bring 140 = .ok (.iload_n 1, 1) := by decide +kernel
theorem dX11_bring_141 : decode cX11_bring 141 = .ok (.iaload, 1) := by decide +kernel
theorem dX11_bring_142 : decode cX11_bring 142 = .ok (.iastore, 1) := by decide +kernel
theorem dX11_bring_143 : decode cX11_bring 143 = .ok (.aload_n 0, 1) := by decide +kernel
theorem dX11_bring_144 : decode cX11_bring 144 = .ok (.getfield 83, 3) := by decide +kernel
theorem dX11_bring_147 : decode cX11_bring 147 = .ok (.iload_n 2, 1) := by decide +kernel
theorem dX11_bring_148 : decode cX11_bring 148 = .ok (.aload_n 0, 1) := by decide +kernel
theorem dX11_bring_149 : decode cX11_bring 149 = .ok (.getfield 83, 3) := by decide +kernel
theorem dX11_bring_152 : decode cX11_bring 152 = .ok (.iload_n 1, 1) := by decide +kernel
theorem dX11_bring_153 : decode cX11_bring 153 = .ok (.iaload, 1) := by decide +kernel
theorem dX11_bring_154 : decode cX11_bring 154 = .ok (.iastore, 1) := by decide +kernel
theorem dX11_bring_155 : decode cX11_bring 155 = .ok (.iconst 0, 1) := by decide +kernel
theorem dX11_bring_156 : decode cX11_bring 156 = .ok (.istore_n 3, 1) := by decide +kernel
theorem dX11_bring_157 : decode cX11_bring 157 = .ok (.iload_n 3, 1) := by decide +kernel
theorem dX11_bring_158 : decode cX11_bring 158 = .ok (.iconst 4, 1) := by decide +kernel
theorem dX11_bring_159 : decode cX11_bring 159 = .ok (.if_icmp .ge 69, 3) := by decide +kernel
theorem dX11_bring_162 : decode cX11_bring 162 = .ok (.aload_n 0, 1) := by decide +kernel
theorem dX11_bring_163 : decode cX11_bring 163 = .ok (.getfield 77, 3) := by decide +kernel
theorem dX11_bring_166 : decode cX11_bring 166 = .ok (.iconst 4, 1) := by decide +kernel
theorem dX11_bring_167 : decode cX11_bring 167 = .ok (.iload_n 2, 1) := by decide +kernel
theorem dX11_bring_168 : decode cX11_bring 168 = .ok (.imul, 1) := by decide +kernel
theorem dX11_bring_169 : decode cX11_bring 169 = .ok (.iload_n 3, 1) := by decide +kernel
theorem dX11_bring_170 : decode cX11_bring 170 = .ok (.iadd, 1) := by decide +kernel
theorem dX11_bring_171 : decode cX11_bring 171 = .ok (.aload_n 0, 1) := by decide +kernel
theorem dX11_bring_172 : decode cX11_bring 172 = .ok (.getfield 77, 3) := by decide +kernel
theorem dX11_bring_175 : decode cX11_bring 175 = .ok (.iconst 4, 1) := by decide +kernel
theorem dX11_bring_176 : decode cX11_bring 176 = .ok (.iload_n 1, 1) := by decide +kernel
theorem dX11_bring_177 : decode cX11_bring 177 = .ok (.imul, 1) := by decide +kernel
theorem dX11_bring_178 : decode cX11_bring 178 = .ok (.iload_n 3, 1) := by decide +kernel
theorem dX11_bring_179 : decode cX11_bring 179 = .ok (.iadd, 1) := by decide +kernel
theorem dX11_bring_180 : decode cX11_bring 180 = .ok (.iaload, 1) := by decide +kernel
theorem dX11_bring_181 : decode cX11_bring 181 = .ok (.iastore, 1) := by decide +kernel
theorem dX11_bring_182 : decode cX11_bring 182 = .ok (.aload_n 0, 1) := by decide +kernel
theorem dX11_bring_183 : decode cX11_bring 183 = .ok (.getfield 80, 3) := by decide +kernel
theorem dX11_bring_186 : decode cX11_bring 186 = .ok (.iconst 4, 1) := by decide +kernel
theorem dX11_bring_187 : decode cX11_bring 187 = .ok (.iload_n 2, 1) := by decide +kernel
theorem dX11_bring_188 : decode cX11_bring 188 = .ok (.imul, 1) := by decide +kernel
theorem dX11_bring_189 : decode cX11_bring 189 = .ok (.iload_n 3, 1) := by decide +kernel
theorem dX11_bring_190 : decode cX11_bring 190 = .ok (.iadd, 1) := by decide +kernel
theorem dX11_bring_191 : decode cX11_bring 191 = .ok (.aload_n 0, 1) := by decide +kernel
theorem dX11_bring_192 : decode cX11_bring 192 = .ok (.getfield 80, 3) := by decide +kernel
theorem dX11_bring_195 : decode cX11_bring 195 = .ok (.iconst 4, 1) := by decide +kernel
theorem dX11_bring_196 : decode cX11_bring 196 = .ok (.iload_n 1, 1) := by decide +kernel
theorem dX11_bring_197 : decode cX11_bring 197 = .ok (.imul, 1) := by decide +kernel
theorem dX11_bring_198 : decode cX11_bring 198 = .ok (.iload_n 3, 1) := by decide +kernel
theorem dX11_bring_199 : decode cX11_bring 199 = .ok (.iadd, 1) := by decide +kernel
theorem dX11_bring_200 : decode cX11_bring 200 = .ok (.iaload, 1) := by decide +kernel
theorem dX11_bring_201 : decode cX11_bring 201 = .ok (.iastore, 1) := by decide +kernel
theorem dX11_bring_202 : decode cX11_bring 202 = .ok (.aload_n 0, 1) := by decide +kernel
theorem dX11_bring_203 : decode cX11_bring 203 = .ok (.getfield 86, 3) := by decide +kernel
theorem dX11_bring_206 : decode cX11_bring 206 = .ok (.iconst 4, 1) := by decide +kernel
theorem dX11_bring_207 : decode cX11_bring 207 = .ok (.iload_n 2, 1) := by decide +kernel
theorem dX11_bring_208 : decode cX11_bring 208 = .ok (.imul, 1) := by decide +kernel
theorem dX11_bring_209 : decode cX11_bring 209 = .ok (.iload_n 3, 1) := by decide +kernel
theorem dX11_bring_210 : decode cX11_bring 210 = .ok (.iadd, 1) := by decide +kernel
theorem dX11_bring_211 : decode cX11_bring 211 = .ok (.aload_n 0, 1) := by decide +kernel
theorem dX11_bring_212 : decode cX11_bring 212 = .ok (.getfield 86, 3) := by decide +kernel
theorem dX11_bring_215 : decode cX11_bring 215 = .ok (.iconst 4, 1) := by decide +kernel
theorem dX11_bring_216 : decode cX11_bring 216 = .ok (.iload_n 1, 1) := by decide +kernel
theorem dX11_bring_217 : decode cX11_bring 217 = .ok (.imul, 1) := by decide +kernel
theorem dX11_bring_218 : decode cX11_bring 218 = .ok (.iload_n 3, 1) := by decide +kernel
theorem dX11_bring_219 : decode cX11_bring 219 = .ok (.iadd, 1) := by decide +kernel
theorem dX11_bring_220 : decode cX11_bring 220 = .ok (.iaload, 1) := by decide +kernel
theorem dX11_bring_221 : decode cX11_bring 221 = .ok (.iastore, 1) := by decide +kernel
theorem dX11_bring_222 : decode cX11_bring 222 = .ok (.iinc 3 1, 3) := by decide +kernel
theorem dX11_bring_225 : decode cX11_bring 225 = .ok (.goto (-68), 3) := by decide +kernel
theorem dX11_bring_228 : decode cX11_bring 228 = .ok (.iconst 0, 1) := by decide +kernel
theorem dX11_bring_229 : decode cX11_bring 229 = .ok (.istore_n 3, 1) := by decide +kernel
theorem dX11_bring_230 : decode cX11_bring 230 = .ok (.iload_n 3, 1) := by decide +kernel
theorem dX11_bring_231 : decode cX11_bring 231 = .ok (.bipush 48, 2) := by decide +kernel
theorem dX11_bring_233 : decode cX11_bring 233 = .ok (.if_icmp .ge 53, 3) := by decide +kernel
theorem dX11_bring_236 : decode cX11_bring 236 = .ok (.aload_n 0, 1) := by decide +kernel
theorem dX11_bring_237 : decode cX11_bring 237 = .ok (.getfield 89, 3) := by decide +kernel
theorem dX11_bring_240 : decode cX11_bring 240 = .ok (.bipush 48, 2) := by decide +kernel
theorem dX11_bring_242 : decode cX11_bring 242 = .ok (.iload_n 2, 1) := by decide +kernel
theorem dX11_bring_243 : decode cX11_bring 243 = .ok (.imul, 1) := by decide +kernel
theorem dX11_bring_244 : decode cX11_bring 244 = .ok (.iload_n 3, 1) := by decide +kernel
theorem dX11_bring_245 : decode cX11_bring 245 = .ok (.iadd, 1) := by decide +kernel
theorem dX11_bring_246 : decode cX11_bring 246 = .ok (.aload_n 0, 1) := by decide +kernel
theorem dX11_bring_247 : decode cX11_bring 247 = .ok (.getfield 89, 3) := by decide +kernel
theorem dX11_bring_250 : decode cX11_bring 250 = .ok (.bipush 48, 2) := by decide +kernel
theorem dX11_bring_252 : decode cX11_bring 252 = .ok (.iload_n 1, 1) := by decide +kernel
theorem dX11_bring_253 : decode cX11_bring 253 = .ok (.imul, 1) := by decide +kernel
theorem dX11_bring_254 : decode cX11_bring 254 = .ok (.iload_n 3, 1) := by decide +kernel
theorem dX11_bring_255 : decode cX11_bring 255 = .ok (.iadd, 1) := by decide +kernel
theorem dX11_bring_256 : decode cX11_bring 256 = .ok (.iaload, 1) := by decide +kernel
theorem dX11_bring_257 : decode cX11_bring 257 = .ok (.iastore, 1) := by decide +kernel
theorem dX11_bring_258 : decode cX11_bring 258 = .ok (.aload_n 0, 1) := by decide +kernel
theorem dX11_bring_259 : decode cX11_bring 259 = .ok (.getfield 92, 3) := by decide +kernel
theorem dX11_bring_262 : decode cX11_bring 262 = .ok (.bipush 48, 2) := by decide +kernel
theorem dX11_bring_264 : decode cX11_bring 264 = .ok (.iload_n 2, 1) := by decide +kernel
theorem dX11_bring_265 : decode cX11_bring 265 = .ok (.imul, 1) := by decide +kernel
theorem dX11_bring_266 : decode cX11_bring 266 = .ok (.iload_n 3, 1) := by decide +kernel
theorem dX11_bring_267 : decode cX11_bring 267 = .ok (.iadd, 1) := by decide +kernel
theorem dX11_bring_268 : decode cX11_bring 268 = .ok (.aload_n 0, 1) := by decide +kernel
theorem dX11_bring_269 : decode cX11_bring 269 = .ok (.getfield 92, 3) := by decide +kernel
theorem dX11_bring_272 : decode cX11_bring 272 = .ok (.bipush 48, 2) := by decide +kernel
theorem dX11_bring_274 : decode cX11_bring 274 = .ok (.iload_n 1, 1) := by decide +kernel
theorem dX11_bring_275 : decode cX11_bring 275 = .ok (.imul, 1) := by decide +kernel
theorem dX11_bring_276 : decode cX11_bring 276 = .ok (.iload_n 3, 1) := by decide +kernel
theorem dX11_bring_277 : decode cX11_bring 277 = .ok (.iadd, 1) := by decide +kernel
theorem dX11_bring_278 : decode cX11_bring 278 = .ok (.iaload, 1) := by decide +kernel
theorem dX11_bring_279 : decode cX11_bring 279 = .ok (.iastore, 1) := by decide +kernel
theorem dX11_bring_280 : decode cX11_bring 280 = .ok (.iinc 3 1, 3) := by decide +kernel
theorem dX11_bring_283 : decode cX11_bring 283 = .ok (.goto (-53), 3) := by decide +kernel
theorem dX11_bring_286 : decode cX11_bring 286 = .ok (.iconst 0, 1) := by decide +kernel
theorem dX11_bring_287 : decode cX11_bring 287 = .ok (.istore_n 3, 1) := by decide +kernel
theorem dX11_bring_288 : decode cX11_bring 288 = .ok (.iload_n 3, 1) := by decide +kernel
theorem dX11_bring_289 : decode cX11_bring 289 = .ok (.sipush 144, 3) := by decide +kernel
theorem dX11_bring_292 : decode cX11_bring 292 = .ok (.if_icmp .ge 33, 3) := by decide +kernel
theorem dX11_bring_295 : decode cX11_bring 295 = .ok (.aload_n 0, 1) := by decide +kernel
theorem dX11_bring_296 : decode cX11_bring 296 = .ok (.getfield 95, 3) := by decide +kernel
theorem dX11_bring_299 : decode cX11_bring 299 = .ok (.sipush 144, 3) := by decide +kernel
theorem dX11_bring_302 : decode cX11_bring 302 = .ok (.iload_n 2, 1) := by decide +kernel
theorem dX11_bring_303 : decode cX11_bring 303 = .ok (.imul, 1) := by decide +kernel
theorem dX11_bring_304 : decode cX11_bring 304 = .ok (.iload_n 3, 1) := by decide +kernel
theorem dX11_bring_305 : decode cX11_bring 305 = .ok (.iadd, 1) := by decide +kernel
theorem dX11_bring_306 : decode cX11_bring 306 = .ok (.aload_n 0, 1) := by decide +kernel
theorem dX11_bring_307 : decode cX11_bring 307 = .ok (.getfield 95, 3) := by decide +kernel
theorem dX11_bring_310 : decode cX11_bring 310 = .ok (.sipush 144, 3) := by decide +kernel
theorem dX11_bring_313 : decode cX11_bring 313 = .ok (.iload_n 1, 1) := by decide +kernel
theorem dX11_bring_314 : decode cX11_bring 314 = .ok (.imul, 1) := by decide +kernel
theorem dX11_bring_315 : decode cX11_bring 315 = .ok (.iload_n 3, 1) := by decide +kernel
theorem dX11_bring_316 : decode cX11_bring 316 = .ok (.iadd, 1) := by decide +kernel
theorem dX11_bring_317 : decode cX11_bring 317 = .ok (.iaload, 1) := by decide +kernel
theorem dX11_bring_318 : decode cX11_bring 318 = .ok (.iastore, 1) := by decide +kernel
theorem dX11_bring_319 : decode cX11_bring 319 = .ok (.iinc 3 1, 3) := by decide +kernel
theorem dX11_bring_322 : decode cX11_bring 322 = .ok (.goto (-34), 3) := by decide +kernel
theorem dX11_bring_325 : decode cX11_bring 325 = .ok (.iconst 0, 1) := by decide +kernel
theorem dX11_bring_326 : decode cX11_bring 326 = .ok (.istore_n 3, 1) := by decide +kernel
theorem dX11_bring_327 : decode cX11_bring 327 = .ok (.iload_n 3, 1) := by decide +kernel
theorem dX11_bring_328 : decode cX11_bring 328 = .ok (.bipush 96, 2) := by decide +kernel
theorem dX11_bring_330 : decode cX11_bring 330 = .ok (.if_icmp .ge 53, 3) := by decide +kernel
theorem dX11_bring_333 : decode cX11_bring 333 = .ok (.aload_n 0, 1) := by decide +kernel
theorem dX11_bring_334 : decode cX11_bring 334 = .ok (.getfield 98, 3) := by decide +kernel
theorem dX11_bring_337 : decode cX11_bring 337 = .ok (.bipush 96, 2) := by decide +kernel
theorem dX11_bring_339 : decode cX11_bring 339 = .ok (.iload_n 2, 1) := by decide +kernel
theorem dX11_bring_340 : decode cX11_bring 340 = .ok (.imul, 1) := by decide +kernel
theorem dX11_bring_341 : decode cX11_bring 341 = .ok (.iload_n 3, 1) := by decide +kernel
theorem dX11_bring_342 : decode cX11_bring 342 = .ok (.iadd, 1) := by decide +kernel
theorem dX11_bring_343 : decode cX11_bring 343 = .ok (.aload_n 0, 1) := by decide +kernel
theorem dX11_bring_344 : decode cX11_bring 344 = .ok (.getfield 98, 3) := by decide +kernel
theorem dX11_bring_347 : decode cX11_bring 347 = .ok (.bipush 96, 2) := by decide +kernel
theorem dX11_bring_349 : decode cX11_bring 349 = .ok (.iload_n 1, 1) := by decide +kernel
theorem dX11_bring_350 : decode cX11_bring 350 = .ok (.imul, 1) := by decide +kernel
theorem dX11_bring_351 : decode cX11_bring 351 = .ok (.iload_n 3, 1) := by decide +kernel
theorem dX11_bring_352 : decode cX11_bring 352 = .ok (.iadd, 1) := by decide +kernel
theorem dX11_bring_353 : decode cX11_bring 353 = .ok (.iaload, 1) := by decide +kernel
theorem dX11_bring_354 : decode cX11_bring 354 = .ok (.iastore, 1) := by decide +kernel
theorem dX11_bring_355 : decode cX11_bring 355 = .ok (.aload_n 0, 1) := by decide +kernel
theorem dX11_bring_356 : decode cX11_bring 356 = .ok (.getfield 101, 3) := by decide +kernel
theorem dX11_bring_359 : decode cX11_bring 359 = .ok (.bipush 96, 2) := by decide +kernel
theorem dX11_bring_361 : decode cX11_bring 361 = .ok (.iload_n 2, 1) := by decide +kernel
theorem dX11_bring_362 : decode cX11_bring 362 = .ok (.imul, 1) := by decide +kernel
theorem dX11_bring_363 : decode cX11_bring 363 = .ok (.iload_n 3, 1) := by decide +kernel
theorem dX11_bring_364 : decode cX11_bring 364 = .ok (.iadd, 1) := by decide +kernel
theorem dX11_bring_365 : decode cX11_bring 365 = .ok (.aload_n 0, 1) := by decide +kernel
theorem dX11_bring_366 : decode cX11_bring 366 = .ok (.getfield 101, 3) := by decide +kernel
theorem dX11_bring_369 : decode cX11_bring 369 = .ok (.bipush 96, 2) := by decide +kernel
theorem dX11_bring_371 : decode cX11_bring 371 = .ok (.iload_n 1, 1) := by decide +kernel
theorem dX11_bring_372 : decode cX11_bring 372 = .ok (.imul, 1) := by decide +kernel
theorem dX11_bring_373 : decode cX11_bring 373 = .ok (.iload_n 3, 1) := by decide +kernel
theorem dX11_bring_374 : decode cX11_bring 374 = .ok (.iadd, 1) := by decide +kernel
theorem dX11_bring_375 : decode cX11_bring 375 = .ok (.baload, 1) := by decide +kernel
theorem dX11_bring_376 : decode cX11_bring 376 = .ok (.bastore, 1) := by decide +kernel
theorem dX11_bring_377 : decode cX11_bring 377 = .ok (.iinc 3 1, 3) := by decide +kernel
theorem dX11_bring_380 : decode cX11_bring 380 = .ok (.goto (-53), 3) := by decide +kernel
theorem dX11_bring_383 : decode cX11_bring 383 = .ok (.return_, 1) := by decide +kernel
noncomputable def L_X11_bring_157 (x1 : Int32) (x2 : Int32) : Nat → Int32 → qM → (qM → Option (Unit × qM)) → Option (Unit × qM)
  | 0, _, _, _ => none
  | n + 1, x3, u13, e1 => if 4 ≤ x3 then e1 u13 else q_ck (q_in ((4 * x1) + x3) 32) (q_ck (q_in ((4 * x2) + x3) 32) (q_lt (q_si u13 87 0 (Int32.toNatClampNeg ((4 * x2) + x3)) (u13.1 87 0 (Int32.toNatClampNeg ((4 * x1) + x3)))) (fun (u14 : qM) => q_ck (q_in ((4 * x1) + x3) 32) (q_ck (q_in ((4 * x2) + x3) 32) (q_lt (q_si u14 88 0 (Int32.toNatClampNeg ((4 * x2) + x3)) (u14.1 88 0 (Int32.toNatClampNeg ((4 * x1) + x3)))) (fun (u15 : qM) => q_ck (q_in ((4 * x1) + x3) 32) (q_ck (q_in ((4 * x2) + x3) 32) (q_lt (q_si u15 90 0 (Int32.toNatClampNeg ((4 * x2) + x3)) (u15.1 90 0 (Int32.toNatClampNeg ((4 * x1) + x3)))) (fun (u16 : qM) => q_lt (x3 + 1) (fun (x4 : Int32) => L_X11_bring_157 x1 x2 n x4 u16 e1))))))))))
noncomputable def L_X11_bring_230 (x1 : Int32) (x2 : Int32) : Nat → Int32 → qM → (qM → Option (Unit × qM)) → Option (Unit × qM)
  | 0, _, _, _ => none
  | n + 1, x5, u18, e1 => if 48 ≤ x5 then e1 u18 else q_ck (q_in ((48 * x1) + x5) 384) (q_ck (q_in ((48 * x2) + x5) 384) (q_lt (q_si u18 91 0 (Int32.toNatClampNeg ((48 * x2) + x5)) (u18.1 91 0 (Int32.toNatClampNeg ((48 * x1) + x5)))) (fun (u19 : qM) => q_ck (q_in ((48 * x1) + x5) 384) (q_ck (q_in ((48 * x2) + x5) 384) (q_lt (q_si u19 92 0 (Int32.toNatClampNeg ((48 * x2) + x5)) (u19.1 92 0 (Int32.toNatClampNeg ((48 * x1) + x5)))) (fun (u20 : qM) => q_lt (x5 + 1) (fun (x6 : Int32) => L_X11_bring_230 x1 x2 n x6 u20 e1)))))))
noncomputable def L_X11_bring_288 (x1 : Int32) (x2 : Int32) : Nat → Int32 → qM → (qM → Option (Unit × qM)) → Option (Unit × qM)
  | 0, _, _, _ => none
  | n + 1, x7, u22, e1 => if 144 ≤ x7 then e1 u22 else q_ck (q_in ((144 * x1) + x7) 1152) (q_ck (q_in ((144 * x2) + x7) 1152) (q_lt (q_si u22 93 0 (Int32.toNatClampNeg ((144 * x2) + x7)) (u22.1 93 0 (Int32.toNatClampNeg ((144 * x1) + x7)))) (fun (u23 : qM) => q_lt (x7 + 1) (fun (x8 : Int32) => L_X11_bring_288 x1 x2 n x8 u23 e1))))
noncomputable def L_X11_bring_327 (x1 : Int32) (x2 : Int32) : Nat → Int32 → qM → (qM → Option (Unit × qM)) → Option (Unit × qM)
  | 0, _, _, _ => none
  | n + 1, x9, u25, e1 => if 96 ≤ x9 then e1 u25 else q_ck (q_in ((96 * x1) + x9) 768) (q_ck (q_in ((96 * x2) + x9) 768) (q_lt (q_si u25 94 0 (Int32.toNatClampNeg ((96 * x2) + x9)) (u25.1 94 0 (Int32.toNatClampNeg ((96 * x1) + x9)))) (fun (u26 : qM) => q_ck (q_in ((96 * x1) + x9) 768) (q_ck (q_in ((96 * x2) + x9) 768) (q_lt (q_si u26 95 0 (Int32.toNatClampNeg ((96 * x2) + x9)) (vp_nar .boolean (u26.1 95 0 (Int32.toNatClampNeg ((96 * x1) + x9))))) (fun (u27 : qM) => q_lt (x9 + 1) (fun (x10 : Int32) => L_X11_bring_327 x1 x2 n x10 u27 e1)))))))
noncomputable def f_X11_bring (x1 : Int32) (x2 : Int32) (u0 : qM) : Option (Unit × qM) :=
  q_ck (q_in x1 8) (q_ck (q_in x1 8) (q_ck (q_in x1 8) (q_bd (f_X11_begin x2 (u0.1 74 0 (Int32.toNatClampNeg x1)) (u0.1 75 0 (Int32.toNatClampNeg x1)) (u0.1 76 0 (Int32.toNatClampNeg x1)) u0) (fun (_z : Unit) (u1 : qM) => q_ck (q_in x1 8) (q_ck (q_in x2 8) (q_lt (q_si u1 77 0 (Int32.toNatClampNeg x2) (u1.1 77 0 (Int32.toNatClampNeg x1))) (fun (u2 : qM) => q_ck (q_in x1 8) (q_ck (q_in x2 8) (q_lt (q_si u2 78 0 (Int32.toNatClampNeg x2) (u2.1 78 0 (Int32.toNatClampNeg x1))) (fun (u3 : qM) => q_ck (q_in x1 8) (q_ck (q_in x2 8) (q_lt (q_si u3 79 0 (Int32.toNatClampNeg x2) (u3.1 79 0 (Int32.toNatClampNeg x1))) (fun (u4 : qM) => q_ck (q_in x1 8) (q_ck (q_in x2 8) (q_lt (q_si u4 80 0 (Int32.toNatClampNeg x2) (u4.1 80 0 (Int32.toNatClampNeg x1))) (fun (u5 : qM) => q_ck (q_in x1 8) (q_ck (q_in x2 8) (q_lt (q_si u5 81 0 (Int32.toNatClampNeg x2) (u5.1 81 0 (Int32.toNatClampNeg x1))) (fun (u6 : qM) => q_ck (q_in x1 8) (q_ck (q_in x2 8) (q_lt (q_si u6 82 0 (Int32.toNatClampNeg x2) (u6.1 82 0 (Int32.toNatClampNeg x1))) (fun (u7 : qM) => q_ck (q_in x1 8) (q_ck (q_in x2 8) (q_lt (q_si u7 83 0 (Int32.toNatClampNeg x2) (u7.1 83 0 (Int32.toNatClampNeg x1))) (fun (u8 : qM) => q_ck (q_in x1 8) (q_ck (q_in x2 8) (q_lt (q_si u8 84 0 (Int32.toNatClampNeg x2) (u8.1 84 0 (Int32.toNatClampNeg x1))) (fun (u9 : qM) => q_ck (q_in x1 8) (q_ck (q_in x2 8) (q_lt (q_si u9 85 0 (Int32.toNatClampNeg x2) (u9.1 85 0 (Int32.toNatClampNeg x1))) (fun (u10 : qM) => q_ck (q_in x1 8) (q_ck (q_in x2 8) (q_lt (q_si u10 86 0 (Int32.toNatClampNeg x2) (u10.1 86 0 (Int32.toNatClampNeg x1))) (fun (u11 : qM) => q_ck (q_in x1 8) (q_ck (q_in x2 8) (q_lt (q_si u11 89 0 (Int32.toNatClampNeg x2) (u11.1 89 0 (Int32.toNatClampNeg x1))) (fun (u12 : qM) => L_X11_bring_157 x1 x2 q_fu 0 u12 (fun u17 => L_X11_bring_230 x1 x2 q_fu 0 u17 (fun u21 => L_X11_bring_288 x1 x2 q_fu 0 u21 (fun u24 => L_X11_bring_327 x1 x2 q_fu 0 u24 (fun u28 => some ((), u28))))))))))))))))))))))))))))))))))))))))))
set_option maxRecDepth 100000 in
set_option maxHeartbeats 4000000 in
theorem TL_X11_bring_157 (l : Launch) (G : qG) (x1 : Int32) (x2 : Int32)  (e1 : qM → Option (Unit × qM)) (he1 : ∀  (v : qM), qAW l G m_X11_bring (q_mq G q_cU) 228 [(0, .ref (q_ad G 11 0)), (1, .int x1), (2, .int x2)] [] v (e1 v)) : ∀ (n : Nat) (x3 : Int32) (u13 : qM), qAW l G m_X11_bring (q_mq G q_cU) 157 [(0, .ref (q_ad G 11 0)), (1, .int x1), (2, .int x2), (3, .int x3)] [] u13 (L_X11_bring_157 x1 x2 n x3 u13 e1) := by
  intro n
  induction n with
  | zero => intros; exact aw_none
  | succ n ih =>
    intro x3 u13
    unfold L_X11_bring_157
    refine aw_iload_n (i := 3) dX11_bring_157 158 rfl rfl 3 rfl ?_
    refine aw_iconst (x := 4) dX11_bring_158 159 rfl rfl ?_
    refine aw_icmp_ge dX11_bring_159 162 rfl 228 rfl (fun h26 => ?_) (fun h26 => ?_)
    · exact aw_conv [0, 1, 2] rfl (he1 u13)
    · refine aw_aload_n (i := 0) dX11_bring_162 163 rfl rfl 0 rfl ?_
      refine gf_X11_27 dX11_bring_163 166 rfl wd_279 (ok_11 (by decide)) ?_
      refine aw_iconst (x := 4) dX11_bring_166 167 rfl rfl ?_
      refine aw_iload_n (i := 2) dX11_bring_167 168 rfl rfl 2 rfl ?_
      refine aw_imul dX11_bring_168 169 rfl ?_
      refine aw_iload_n (i := 3) dX11_bring_169 170 rfl rfl 3 rfl ?_
      refine aw_iadd dX11_bring_170 171 rfl ?_
      refine aw_aload_n (i := 0) dX11_bring_171 172 rfl rfl 0 rfl ?_
      refine gf_X11_27 dX11_bring_172 175 rfl wd_279 (ok_11 (by decide)) ?_
      refine aw_iconst (x := 4) dX11_bring_175 176 rfl rfl ?_
      refine aw_iload_n (i := 1) dX11_bring_176 177 rfl rfl 1 rfl ?_
      refine aw_imul dX11_bring_177 178 rfl ?_
      refine aw_iload_n (i := 3) dX11_bring_178 179 rfl rfl 3 rfl ?_
      refine aw_iadd dX11_bring_179 180 rfl ?_
      refine aw_iald dX11_bring_180 181 rfl at_87 (al_87 _) (ok_87 (by decide)) (fun h27 => ?_)
      refine aw_iast dX11_bring_181 182 rfl at_87 (al_87 _) (ok_87 (by decide)) (fun h28 => ?_)
      refine aw_ltm (fun u14 => ?_)
      refine aw_aload_n (i := 0) dX11_bring_182 183 rfl rfl 0 rfl ?_
      refine gf_X11_28 dX11_bring_183 186 rfl wd_280 (ok_11 (by decide)) ?_
      refine aw_iconst (x := 4) dX11_bring_186 187 rfl rfl ?_
      refine aw_iload_n (i := 2) dX11_bring_187 188 rfl rfl 2 rfl ?_
      refine aw_imul dX11_bring_188 189 rfl ?_
      refine aw_iload_n (i := 3) dX11_bring_189 190 rfl rfl 3 rfl ?_
      refine aw_iadd dX11_bring_190 191 rfl ?_
      refine aw_aload_n (i := 0) dX11_bring_191 192 rfl rfl 0 rfl ?_
      refine gf_X11_28 dX11_bring_192 195 rfl wd_280 (ok_11 (by decide)) ?_
      refine aw_iconst (x := 4) dX11_bring_195 196 rfl rfl ?_
      refine aw_iload_n (i := 1) dX11_bring_196 197 rfl rfl 1 rfl ?_
      refine aw_imul dX11_bring_197 198 rfl ?_
      refine aw_iload_n (i := 3) dX11_bring_198 199 rfl rfl 3 rfl ?_
      refine aw_iadd dX11_bring_199 200 rfl ?_
      refine aw_iald dX11_bring_200 201 rfl at_88 (al_88 _) (ok_88 (by decide)) (fun h29 => ?_)
      refine aw_iast dX11_bring_201 202 rfl at_88 (al_88 _) (ok_88 (by decide)) (fun h30 => ?_)
      refine aw_ltm (fun u15 => ?_)
      refine aw_aload_n (i := 0) dX11_bring_202 203 rfl rfl 0 rfl ?_
      refine gf_X11_30 dX11_bring_203 206 rfl wd_305 (ok_11 (by decide)) ?_
      refine aw_iconst (x := 4) dX11_bring_206 207 rfl rfl ?_
      refine aw_iload_n (i := 2) dX11_bring_207 208 rfl rfl 2 rfl ?_
      refine aw_imul dX11_bring_208 209 rfl ?_
      refine aw_iload_n (i := 3) dX11_bring_209 210 rfl rfl 3 rfl ?_
      refine aw_iadd dX11_bring_210 211 rfl ?_
      refine aw_aload_n (i := 0) dX11_bring_211 212 rfl rfl 0 rfl ?_
      refine gf_X11_30 dX11_bring_212 215 rfl wd_305 (ok_11 (by decide)) ?_
      refine aw_iconst (x := 4) dX11_bring_215 216 rfl rfl ?_
      refine aw_iload_n (i := 1) dX11_bring_216 217 rfl rfl 1 rfl ?_
      refine aw_imul dX11_bring_217 218 rfl ?_
      refine aw_iload_n (i := 3) dX11_bring_218 219 rfl rfl 3 rfl ?_
      refine aw_iadd dX11_bring_219 220 rfl ?_
      refine aw_iald dX11_bring_220 221 rfl at_90 (al_90 _) (ok_90 (by decide)) (fun h31 => ?_)
      refine aw_iast dX11_bring_221 222 rfl at_90 (al_90 _) (ok_90 (by decide)) (fun h32 => ?_)
      refine aw_ltm (fun u16 => ?_)
      refine aw_iincx (i := 3) dX11_bring_222 225 rfl 3 rfl 1 rfl (fun x4 => [(3, .int x4), (0, .ref (q_ad G 11 0)), (1, .int x1), (2, .int x2)]) (by decide) (fun _ => rfl) (fun x4 => ?_)
      refine aw_goto dX11_bring_225 157 rfl ?_
      exact aw_conv [1, 2, 3, 0] rfl (ih x4 u16)
set_option maxRecDepth 100000 in
set_option maxHeartbeats 4000000 in
theorem TL_X11_bring_230 (l : Launch) (G : qG) (x1 : Int32) (x2 : Int32)  (e1 : qM → Option (Unit × qM)) (he1 : ∀  (v : qM), qAW l G m_X11_bring (q_mq G q_cU) 286 [(0, .ref (q_ad G 11 0)), (1, .int x1), (2, .int x2)] [] v (e1 v)) : ∀ (n : Nat) (x5 : Int32) (u18 : qM), qAW l G m_X11_bring (q_mq G q_cU) 230 [(0, .ref (q_ad G 11 0)), (1, .int x1), (2, .int x2), (3, .int x5)] [] u18 (L_X11_bring_230 x1 x2 n x5 u18 e1) := by
  intro n
  induction n with
  | zero => intros; exact aw_none
  | succ n ih =>
    intro x5 u18
    unfold L_X11_bring_230
    refine aw_iload_n (i := 3) dX11_bring_230 231 rfl rfl 3 rfl ?_
    refine aw_bipush (x := 48) dX11_bring_231 233 rfl rfl ?_
    refine aw_icmp_ge dX11_bring_233 236 rfl 286 rfl (fun h33 => ?_) (fun h33 => ?_)
    · exact aw_conv [0, 1, 2] rfl (he1 u18)
    · refine aw_aload_n (i := 0) dX11_bring_236 237 rfl rfl 0 rfl ?_
      refine gf_X11_31 dX11_bring_237 240 rfl wd_248 (ok_11 (by decide)) ?_
      refine aw_bipush (x := 48) dX11_bring_240 242 rfl rfl ?_
      refine aw_iload_n (i := 2) dX11_bring_242 243 rfl rfl 2 rfl ?_
      refine aw_imul dX11_bring_243 244 rfl ?_
      refine aw_iload_n (i := 3) dX11_bring_244 245 rfl rfl 3 rfl ?_
      refine aw_iadd dX11_bring_245 246 rfl ?_
      refine aw_aload_n (i := 0) dX11_bring_246 247 rfl rfl 0 rfl ?_
      refine gf_X11_31 dX11_bring_247 250 rfl wd_248 (ok_11 (by decide)) ?_
      refine aw_bipush (x := 48) dX11_bring_250 252 rfl rfl ?_
      refine aw_iload_n (i := 1) dX11_bring_252 253 rfl rfl 1 rfl ?_
      refine aw_imul dX11_bring_253 254 rfl ?_
      refine aw_iload_n (i := 3) dX11_bring_254 255 rfl rfl 3 rfl ?_
      refine aw_iadd dX11_bring_255 256 rfl ?_
      refine aw_iald dX11_bring_256 257 rfl at_91 (al_91 _) (ok_91 (by decide)) (fun h34 => ?_)
      refine aw_iast dX11_bring_257 258 rfl at_91 (al_91 _) (ok_91 (by decide)) (fun h35 => ?_)
      refine aw_ltm (fun u19 => ?_)
      refine aw_aload_n (i := 0) dX11_bring_258 259 rfl rfl 0 rfl ?_
      refine gf_X11_32 dX11_bring_259 262 rfl wd_249 (ok_11 (by decide)) ?_
      refine aw_bipush (x := 48) dX11_bring_262 264 rfl rfl ?_
      refine aw_iload_n (i := 2) dX11_bring_264 265 rfl rfl 2 rfl ?_
      refine aw_imul dX11_bring_265 266 rfl ?_
      refine aw_iload_n (i := 3) dX11_bring_266 267 rfl rfl 3 rfl ?_
      refine aw_iadd dX11_bring_267 268 rfl ?_
      refine aw_aload_n (i := 0) dX11_bring_268 269 rfl rfl 0 rfl ?_
      refine gf_X11_32 dX11_bring_269 272 rfl wd_249 (ok_11 (by decide)) ?_
      refine aw_bipush (x := 48) dX11_bring_272 274 rfl rfl ?_
      refine aw_iload_n (i := 1) dX11_bring_274 275 rfl rfl 1 rfl ?_
      refine aw_imul dX11_bring_275 276 rfl ?_
      refine aw_iload_n (i := 3) dX11_bring_276 277 rfl rfl 3 rfl ?_
      refine aw_iadd dX11_bring_277 278 rfl ?_
      refine aw_iald dX11_bring_278 279 rfl at_92 (al_92 _) (ok_92 (by decide)) (fun h36 => ?_)
      refine aw_iast dX11_bring_279 280 rfl at_92 (al_92 _) (ok_92 (by decide)) (fun h37 => ?_)
      refine aw_ltm (fun u20 => ?_)
      refine aw_iincx (i := 3) dX11_bring_280 283 rfl 3 rfl 1 rfl (fun x6 => [(3, .int x6), (0, .ref (q_ad G 11 0)), (1, .int x1), (2, .int x2)]) (by decide) (fun _ => rfl) (fun x6 => ?_)
      refine aw_goto dX11_bring_283 230 rfl ?_
      exact aw_conv [1, 2, 3, 0] rfl (ih x6 u20)
set_option maxRecDepth 100000 in
set_option maxHeartbeats 4000000 in
theorem TL_X11_bring_288 (l : Launch) (G : qG) (x1 : Int32) (x2 : Int32)  (e1 : qM → Option (Unit × qM)) (he1 : ∀  (v : qM), qAW l G m_X11_bring (q_mq G q_cU) 325 [(0, .ref (q_ad G 11 0)), (1, .int x1), (2, .int x2)] [] v (e1 v)) : ∀ (n : Nat) (x7 : Int32) (u22 : qM), qAW l G m_X11_bring (q_mq G q_cU) 288 [(0, .ref (q_ad G 11 0)), (1, .int x1), (2, .int x2), (3, .int x7)] [] u22 (L_X11_bring_288 x1 x2 n x7 u22 e1) := by
  intro n
  induction n with
  | zero => intros; exact aw_none
  | succ n ih =>
    intro x7 u22
    unfold L_X11_bring_288
    refine aw_iload_n (i := 3) dX11_bring_288 289 rfl rfl 3 rfl ?_
    refine aw_sipush (x := 144) dX11_bring_289 292 rfl rfl ?_
    refine aw_icmp_ge dX11_bring_292 295 rfl 325 rfl (fun h38 => ?_) (fun h38 => ?_)
    · exact aw_conv [0, 1, 2] rfl (he1 u22)
    · refine aw_aload_n (i := 0) dX11_bring_295 296 rfl rfl 0 rfl ?_
      refine gf_X11_33 dX11_bring_296 299 rfl wd_269 (ok_11 (by decide)) ?_
      refine aw_sipush (x := 144) dX11_bring_299 302 rfl rfl ?_
      refine aw_iload_n (i := 2) dX11_bring_302 303 rfl rfl 2 rfl ?_
      refine aw_imul dX11_bring_303 304 rfl ?_
      refine aw_iload_n (i := 3) dX11_bring_304 305 rfl rfl 3 rfl ?_
      refine aw_iadd dX11_bring_305 306 rfl ?_
      refine aw_aload_n (i := 0) dX11_bring_306 307 rfl rfl 0 rfl ?_
      refine gf_X11_33 dX11_bring_307 310 rfl wd_269 (ok_11 (by decide)) ?_
      refine aw_sipush (x := 144) dX11_bring_310 313 rfl rfl ?_
      refine aw_iload_n (i := 1) dX11_bring_313 314 rfl rfl 1 rfl ?_
      refine aw_imul dX11_bring_314 315 rfl ?_
      refine aw_iload_n (i := 3) dX11_bring_315 316 rfl rfl 3 rfl ?_
      refine aw_iadd dX11_bring_316 317 rfl ?_
      refine aw_iald dX11_bring_317 318 rfl at_93 (al_93 _) (ok_93 (by decide)) (fun h39 => ?_)
      refine aw_iast dX11_bring_318 319 rfl at_93 (al_93 _) (ok_93 (by decide)) (fun h40 => ?_)
      refine aw_ltm (fun u23 => ?_)
      refine aw_iincx (i := 3) dX11_bring_319 322 rfl 3 rfl 1 rfl (fun x8 => [(3, .int x8), (0, .ref (q_ad G 11 0)), (1, .int x1), (2, .int x2)]) (by decide) (fun _ => rfl) (fun x8 => ?_)
      refine aw_goto dX11_bring_322 288 rfl ?_
      exact aw_conv [1, 2, 3, 0] rfl (ih x8 u23)
set_option maxRecDepth 100000 in
set_option maxHeartbeats 4000000 in
theorem TL_X11_bring_327 (l : Launch) (G : qG) (x1 : Int32) (x2 : Int32)  (e1 : qM → Option (Unit × qM)) (he1 : ∀  (v : qM), qAW l G m_X11_bring (q_mq G q_cU) 383 [] [] v (e1 v)) : ∀ (n : Nat) (x9 : Int32) (u25 : qM), qAW l G m_X11_bring (q_mq G q_cU) 327 [(0, .ref (q_ad G 11 0)), (1, .int x1), (2, .int x2), (3, .int x9)] [] u25 (L_X11_bring_327 x1 x2 n x9 u25 e1) := by
  intro n
  induction n with
  | zero => intros; exact aw_none
  | succ n ih =>
    intro x9 u25
    unfold L_X11_bring_327
    refine aw_iload_n (i := 3) dX11_bring_327 328 rfl rfl 3 rfl ?_
    refine aw_bipush (x := 96) dX11_bring_328 330 rfl rfl ?_
    refine aw_icmp_ge dX11_bring_330 333 rfl 383 rfl (fun h41 => ?_) (fun h41 => ?_)
    · exact aw_conv [] rfl (he1 u25)
    · refine aw_aload_n (i := 0) dX11_bring_333 334 rfl rfl 0 rfl ?_
      refine gf_X11_34 dX11_bring_334 337 rfl wd_270 (ok_11 (by decide)) ?_
      refine aw_bipush (x := 96) dX11_bring_337 339 rfl rfl ?_
      refine aw_iload_n (i := 2) dX11_bring_339 340 rfl rfl 2 rfl ?_
      refine aw_imul dX11_bring_340 341 rfl ?_
      refine aw_iload_n (i := 3) dX11_bring_341 342 rfl rfl 3 rfl ?_
      refine aw_iadd dX11_bring_342 343 rfl ?_
      refine aw_aload_n (i := 0) dX11_bring_343 344 rfl rfl 0 rfl ?_
      refine gf_X11_34 dX11_bring_344 347 rfl wd_270 (ok_11 (by decide)) ?_
      refine aw_bipush (x := 96) dX11_bring_347 349 rfl rfl ?_
      refine aw_iload_n (i := 1) dX11_bring_349 350 rfl rfl 1 rfl ?_
      refine aw_imul dX11_bring_350 351 rfl ?_
      refine aw_iload_n (i := 3) dX11_bring_351 352 rfl rfl 3 rfl ?_
      refine aw_iadd dX11_bring_352 353 rfl ?_
      refine aw_iald dX11_bring_353 354 rfl at_94 (al_94 _) (ok_94 (by decide)) (fun h42 => ?_)
      refine aw_iast dX11_bring_354 355 rfl at_94 (al_94 _) (ok_94 (by decide)) (fun h43 => ?_)
      refine aw_ltm (fun u26 => ?_)
      refine aw_aload_n (i := 0) dX11_bring_355 356 rfl rfl 0 rfl ?_
      refine gf_X11_35 dX11_bring_356 359 rfl wd_271 (ok_11 (by decide)) ?_
      refine aw_bipush (x := 96) dX11_bring_359 361 rfl rfl ?_
      refine aw_iload_n (i := 2) dX11_bring_361 362 rfl rfl 2 rfl ?_
      refine aw_imul dX11_bring_362 363 rfl ?_
      refine aw_iload_n (i := 3) dX11_bring_363 364 rfl rfl 3 rfl ?_
      refine aw_iadd dX11_bring_364 365 rfl ?_
      refine aw_aload_n (i := 0) dX11_bring_365 366 rfl rfl 0 rfl ?_
      refine gf_X11_35 dX11_bring_366 369 rfl wd_271 (ok_11 (by decide)) ?_
      refine aw_bipush (x := 96) dX11_bring_369 371 rfl rfl ?_
      refine aw_iload_n (i := 1) dX11_bring_371 372 rfl rfl 1 rfl ?_
      refine aw_imul dX11_bring_372 373 rfl ?_
      refine aw_iload_n (i := 3) dX11_bring_373 374 rfl rfl 3 rfl ?_
      refine aw_iadd dX11_bring_374 375 rfl ?_
      refine aw_zald dX11_bring_375 376 rfl at_95 (al_95 _) (ok_95 (by decide)) (fun h44 => ?_)
      refine aw_zast dX11_bring_376 377 rfl at_95 (al_95 _) (ok_95 (by decide)) (fun h45 => ?_)
      refine aw_ltm (fun u27 => ?_)
      refine aw_iincx (i := 3) dX11_bring_377 380 rfl 3 rfl 1 rfl (fun x10 => [(3, .int x10), (0, .ref (q_ad G 11 0)), (1, .int x1), (2, .int x2)]) (by decide) (fun _ => rfl) (fun x10 => ?_)
      refine aw_goto dX11_bring_380 327 rfl ?_
      exact aw_conv [1, 2, 3, 0] rfl (ih x10 u27)
set_option maxRecDepth 100000 in
set_option maxHeartbeats 4000000 in
theorem k_X11_bring (l : Launch) (G : qG) (x1 : Int32) (x2 : Int32)  (u0 : qM) : qCt l G m_X11_bring q_cU [.ref (q_ad G 11 0), .int x1, .int x2] u0 (f_X11_bring x1 x2 u0) := by
  refine q_entry pk_X11_bring (Nat.le_of_ble_eq_true rfl) ?_
  show qAW l G m_X11_bring (q_mq G q_cU) 0 [(0, .ref (q_ad G 11 0)), (1, .int x1), (2, .int x2)] [] u0 (f_X11_bring x1 x2 u0)
  unfold f_X11_bring
  refine aw_aload_n (i := 0) dX11_bring_0 1 rfl rfl 0 rfl ?_
  refine aw_iload_n (i := 2) dX11_bring_1 2 rfl rfl 2 rfl ?_
  refine aw_aload_n (i := 0) dX11_bring_2 3 rfl rfl 0 rfl ?_
  refine gf_X11_14 dX11_bring_3 6 rfl wd_250 (ok_11 (by decide)) ?_
  refine aw_iload_n (i := 1) dX11_bring_6 7 rfl rfl 1 rfl ?_
  refine aw_iald dX11_bring_7 8 rfl at_74 (al_74 _) (ok_74 (by decide)) (fun h1 => ?_)
  refine aw_aload_n (i := 0) dX11_bring_8 9 rfl rfl 0 rfl ?_
  refine gf_X11_15 dX11_bring_9 12 rfl wd_246 (ok_11 (by decide)) ?_
  refine aw_iload_n (i := 1) dX11_bring_12 13 rfl rfl 1 rfl ?_
  refine aw_iald dX11_bring_13 14 rfl at_75 (al_75 _) (ok_75 (by decide)) (fun h2 => ?_)
  refine aw_aload_n (i := 0) dX11_bring_14 15 rfl rfl 0 rfl ?_
  refine gf_X11_16 dX11_bring_15 18 rfl wd_247 (ok_11 (by decide)) ?_
  refine aw_iload_n (i := 1) dX11_bring_18 19 rfl rfl 1 rfl ?_
  refine aw_iald dX11_bring_19 20 rfl at_76 (al_76 _) (ok_76 (by decide)) (fun h3 => ?_)
  refine aw_callV (M2 := m_X11_begin) (cv := q_cU) dX11_bring_20 23 rfl (k_X11_begin l G x2 (u0.1 74 0 (Int32.toNatClampNeg x1)) (u0.1 75 0 (Int32.toNatClampNeg x1)) (u0.1 76 0 (Int32.toNatClampNeg x1))  u0) wd_273 wv_X11_begin pk_X11_begin rfl rfl ⟨by decide, by decide⟩ ⟨Nat.zero_le _, Nat.zero_le _⟩ at_11 (ok_11 (by decide)) rfl rfl rfl (Nat.le_of_ble_eq_true rfl) (fun _z u1 => ?_)
  show qAW l G m_X11_bring (q_mq G q_cU) 23 [(0, .ref (q_ad G 11 0)), (1, .int x1), (2, .int x2)] [] u1 _
  refine aw_aload_n (i := 0) dX11_bring_23 24 rfl rfl 0 rfl ?_
  refine gf_X11_17 dX11_bring_24 27 rfl wd_256 (ok_11 (by decide)) ?_
  refine aw_iload_n (i := 2) dX11_bring_27 28 rfl rfl 2 rfl ?_
  refine aw_aload_n (i := 0) dX11_bring_28 29 rfl rfl 0 rfl ?_
  refine gf_X11_17 dX11_bring_29 32 rfl wd_256 (ok_11 (by decide)) ?_
  refine aw_iload_n (i := 1) dX11_bring_32 33 rfl rfl 1 rfl ?_
  refine aw_iald dX11_bring_33 34 rfl at_77 (al_77 _) (ok_77 (by decide)) (fun h4 => ?_)
  refine aw_iast dX11_bring_34 35 rfl at_77 (al_77 _) (ok_77 (by decide)) (fun h5 => ?_)
  refine aw_ltm (fun u2 => ?_)
  refine aw_aload_n (i := 0) dX11_bring_35 36 rfl rfl 0 rfl ?_
  refine gf_X11_18 dX11_bring_36 39 rfl wd_257 (ok_11 (by decide)) ?_
  refine aw_iload_n (i := 2) dX11_bring_39 40 rfl rfl 2 rfl ?_
  refine aw_aload_n (i := 0) dX11_bring_40 41 rfl rfl 0 rfl ?_
  refine gf_X11_18 dX11_bring_41 44 rfl wd_257 (ok_11 (by decide)) ?_
  refine aw_iload_n (i := 1) dX11_bring_44 45 rfl rfl 1 rfl ?_
  refine aw_iald dX11_bring_45 46 rfl at_78 (al_78 _) (ok_78 (by decide)) (fun h6 => ?_)
  refine aw_iast dX11_bring_46 47 rfl at_78 (al_78 _) (ok_78 (by decide)) (fun h7 => ?_)
  refine aw_ltm (fun u3 => ?_)
  refine aw_aload_n (i := 0) dX11_bring_47 48 rfl rfl 0 rfl ?_
  refine gf_X11_19 dX11_bring_48 51 rfl wd_258 (ok_11 (by decide)) ?_
  refine aw_iload_n (i := 2) dX11_bring_51 52 rfl rfl 2 rfl ?_
  refine aw_aload_n (i := 0) dX11_bring_52 53 rfl rfl 0 rfl ?_
  refine gf_X11_19 dX11_bring_53 56 rfl wd_258 (ok_11 (by decide)) ?_
  refine aw_iload_n (i := 1) dX11_bring_56 57 rfl rfl 1 rfl ?_
  refine aw_iald dX11_bring_57 58 rfl at_79 (al_79 _) (ok_79 (by decide)) (fun h8 => ?_)
  refine aw_iast dX11_bring_58 59 rfl at_79 (al_79 _) (ok_79 (by decide)) (fun h9 => ?_)
  refine aw_ltm (fun u4 => ?_)
  refine aw_aload_n (i := 0) dX11_bring_59 60 rfl rfl 0 rfl ?_
  refine gf_X11_20 dX11_bring_60 63 rfl wd_259 (ok_11 (by decide)) ?_
  refine aw_iload_n (i := 2) dX11_bring_63 64 rfl rfl 2 rfl ?_
  refine aw_aload_n (i := 0) dX11_bring_64 65 rfl rfl 0 rfl ?_
  refine gf_X11_20 dX11_bring_65 68 rfl wd_259 (ok_11 (by decide)) ?_
  refine aw_iload_n (i := 1) dX11_bring_68 69 rfl rfl 1 rfl ?_
  refine aw_iald dX11_bring_69 70 rfl at_80 (al_80 _) (ok_80 (by decide)) (fun h10 => ?_)
  refine aw_iast dX11_bring_70 71 rfl at_80 (al_80 _) (ok_80 (by decide)) (fun h11 => ?_)
  refine aw_ltm (fun u5 => ?_)
  refine aw_aload_n (i := 0) dX11_bring_71 72 rfl rfl 0 rfl ?_
  refine gf_X11_21 dX11_bring_72 75 rfl wd_260 (ok_11 (by decide)) ?_
  refine aw_iload_n (i := 2) dX11_bring_75 76 rfl rfl 2 rfl ?_
  refine aw_aload_n (i := 0) dX11_bring_76 77 rfl rfl 0 rfl ?_
  refine gf_X11_21 dX11_bring_77 80 rfl wd_260 (ok_11 (by decide)) ?_
  refine aw_iload_n (i := 1) dX11_bring_80 81 rfl rfl 1 rfl ?_
  refine aw_iald dX11_bring_81 82 rfl at_81 (al_81 _) (ok_81 (by decide)) (fun h12 => ?_)
  refine aw_iast dX11_bring_82 83 rfl at_81 (al_81 _) (ok_81 (by decide)) (fun h13 => ?_)
  refine aw_ltm (fun u6 => ?_)
  refine aw_aload_n (i := 0) dX11_bring_83 84 rfl rfl 0 rfl ?_
  refine gf_X11_22 dX11_bring_84 87 rfl wd_261 (ok_11 (by decide)) ?_
  refine aw_iload_n (i := 2) dX11_bring_87 88 rfl rfl 2 rfl ?_
  refine aw_aload_n (i := 0) dX11_bring_88 89 rfl rfl 0 rfl ?_
  refine gf_X11_22 dX11_bring_89 92 rfl wd_261 (ok_11 (by decide)) ?_
  refine aw_iload_n (i := 1) dX11_bring_92 93 rfl rfl 1 rfl ?_
  refine aw_iald dX11_bring_93 94 rfl at_82 (al_82 _) (ok_82 (by decide)) (fun h14 => ?_)
  refine aw_iast dX11_bring_94 95 rfl at_82 (al_82 _) (ok_82 (by decide)) (fun h15 => ?_)
  refine aw_ltm (fun u7 => ?_)
  refine aw_aload_n (i := 0) dX11_bring_95 96 rfl rfl 0 rfl ?_
  refine gf_X11_23 dX11_bring_96 99 rfl wd_262 (ok_11 (by decide)) ?_
  refine aw_iload_n (i := 2) dX11_bring_99 100 rfl rfl 2 rfl ?_
  refine aw_aload_n (i := 0) dX11_bring_100 101 rfl rfl 0 rfl ?_
  refine gf_X11_23 dX11_bring_101 104 rfl wd_262 (ok_11 (by decide)) ?_
  refine aw_iload_n (i := 1) dX11_bring_104 105 rfl rfl 1 rfl ?_
  refine aw_iald dX11_bring_105 106 rfl at_83 (al_83 _) (ok_83 (by decide)) (fun h16 => ?_)
  refine aw_iast dX11_bring_106 107 rfl at_83 (al_83 _) (ok_83 (by decide)) (fun h17 => ?_)
  refine aw_ltm (fun u8 => ?_)
  refine aw_aload_n (i := 0) dX11_bring_107 108 rfl rfl 0 rfl ?_
  refine gf_X11_24 dX11_bring_108 111 rfl wd_263 (ok_11 (by decide)) ?_
  refine aw_iload_n (i := 2) dX11_bring_111 112 rfl rfl 2 rfl ?_
  refine aw_aload_n (i := 0) dX11_bring_112 113 rfl rfl 0 rfl ?_
  refine gf_X11_24 dX11_bring_113 116 rfl wd_263 (ok_11 (by decide)) ?_
  refine aw_iload_n (i := 1) dX11_bring_116 117 rfl rfl 1 rfl ?_
  refine aw_iald dX11_bring_117 118 rfl at_84 (al_84 _) (ok_84 (by decide)) (fun h18 => ?_)
  refine aw_iast dX11_bring_118 119 rfl at_84 (al_84 _) (ok_84 (by decide)) (fun h19 => ?_)
  refine aw_ltm (fun u9 => ?_)
  refine aw_aload_n (i := 0) dX11_bring_119 120 rfl rfl 0 rfl ?_
  refine gf_X11_25 dX11_bring_120 123 rfl wd_264 (ok_11 (by decide)) ?_
  refine aw_iload_n (i := 2) dX11_bring_123 124 rfl rfl 2 rfl ?_
  refine aw_aload_n (i := 0) dX11_bring_124 125 rfl rfl 0 rfl ?_
  refine gf_X11_25 dX11_bring_125 128 rfl wd_264 (ok_11 (by decide)) ?_
  refine aw_iload_n (i := 1) dX11_bring_128 129 rfl rfl 1 rfl ?_
  refine aw_iald dX11_bring_129 130 rfl at_85 (al_85 _) (ok_85 (by decide)) (fun h20 => ?_)
  refine aw_iast dX11_bring_130 131 rfl at_85 (al_85 _) (ok_85 (by decide)) (fun h21 => ?_)
  refine aw_ltm (fun u10 => ?_)
  refine aw_aload_n (i := 0) dX11_bring_131 132 rfl rfl 0 rfl ?_
  refine gf_X11_26 dX11_bring_132 135 rfl wd_265 (ok_11 (by decide)) ?_
  refine aw_iload_n (i := 2) dX11_bring_135 136 rfl rfl 2 rfl ?_
  refine aw_aload_n (i := 0) dX11_bring_136 137 rfl rfl 0 rfl ?_
  refine gf_X11_26 dX11_bring_137 140 rfl wd_265 (ok_11 (by decide)) ?_
  refine aw_iload_n (i := 1) dX11_bring_140 141 rfl rfl 1 rfl ?_
  refine aw_iald dX11_bring_141 142 rfl at_86 (al_86 _) (ok_86 (by decide)) (fun h22 => ?_)
  refine aw_iast dX11_bring_142 143 rfl at_86 (al_86 _) (ok_86 (by decide)) (fun h23 => ?_)
  refine aw_ltm (fun u11 => ?_)
  refine aw_aload_n (i := 0) dX11_bring_143 144 rfl rfl 0 rfl ?_
  refine gf_X11_29 dX11_bring_144 147 rfl wd_266 (ok_11 (by decide)) ?_
  refine aw_iload_n (i := 2) dX11_bring_147 148 rfl rfl 2 rfl ?_
  refine aw_aload_n (i := 0) dX11_bring_148 149 rfl rfl 0 rfl ?_
  refine gf_X11_29 dX11_bring_149 152 rfl wd_266 (ok_11 (by decide)) ?_
  refine aw_iload_n (i := 1) dX11_bring_152 153 rfl rfl 1 rfl ?_
  refine aw_iald dX11_bring_153 154 rfl at_89 (al_89 _) (ok_89 (by decide)) (fun h24 => ?_)
  refine aw_iast dX11_bring_154 155 rfl at_89 (al_89 _) (ok_89 (by decide)) (fun h25 => ?_)
  refine aw_ltm (fun u12 => ?_)
  refine aw_iconst (x := 0) dX11_bring_155 156 rfl rfl ?_
  refine aw_istore_n dX11_bring_156 157 rfl rfl [(3, .int 0), (0, .ref (q_ad G 11 0)), (1, .int x1), (2, .int x2)] (by decide) rfl ?_
  refine aw_conv [1, 2, 3, 0] rfl (TL_X11_bring_157 l G x1 x2  _ ?_ _ 0 u12)
  · intro u17
    refine aw_iconst (x := 0) dX11_bring_228 229 rfl rfl ?_
    refine aw_istore_n dX11_bring_229 230 rfl rfl [(3, .int 0), (0, .ref (q_ad G 11 0)), (1, .int x1), (2, .int x2)] (by decide) rfl ?_
    refine aw_conv [1, 2, 3, 0] rfl (TL_X11_bring_230 l G x1 x2  _ ?_ _ 0 u17)
    · intro u21
      refine aw_iconst (x := 0) dX11_bring_286 287 rfl rfl ?_
      refine aw_istore_n dX11_bring_287 288 rfl rfl [(3, .int 0), (0, .ref (q_ad G 11 0)), (1, .int x1), (2, .int x2)] (by decide) rfl ?_
      refine aw_conv [1, 2, 3, 0] rfl (TL_X11_bring_288 l G x1 x2  _ ?_ _ 0 u21)
      · intro u24
        refine aw_iconst (x := 0) dX11_bring_325 326 rfl rfl ?_
        refine aw_istore_n dX11_bring_326 327 rfl rfl [(3, .int 0), (0, .ref (q_ad G 11 0)), (1, .int x1), (2, .int x2)] (by decide) rfl ?_
        refine aw_conv [1, 2, 3, 0] rfl (TL_X11_bring_327 l G x1 x2  _ ?_ _ 0 u24)
        · intro u28
          exact aw_vret dX11_bring_383 rfl
theorem dX11_liesIn_0 : decode cX11_liesIn 0 = .ok (.iload_n 1, 1) := by decide +kernel
theorem dX11_liesIn_1 : decode cX11_liesIn 1 = .ok (.istore_n 3, 1) := by decide +kernel
theorem dX11_liesIn_2 : decode cX11_liesIn 2 = .ok (.aload_n 0, 1) := by decide +kernel
theorem dX11_liesIn_3 : decode cX11_liesIn 3 = .ok (.getfield 38, 3) := by decide +kernel
theorem dX11_liesIn_6 : decode cX11_liesIn 6 = .ok (.iload_n 3, 1) := by decide +kernel
theorem dX11_liesIn_7 : decode cX11_liesIn 7 = .ok (.iaload, 1) := by decide +kernel
theorem dX11_liesIn_8 : decode cX11_liesIn 8 = .ok (.iconst 2, 1) := by decide +kernel
theorem dX11_liesIn_9 : decode cX11_liesIn 9 = .ok (.if_icmp .ne 17, 3) := by decide +kernel
theorem dX11_liesIn_12 : decode cX11_liesIn 12 = .ok (.aload_n 0, 1) := by decide +kernel
theorem dX11_liesIn_13 : decode cX11_liesIn 13 = .ok (.getfield 105, 3) := by decide +kernel
theorem dX11_liesIn_16 : decode cX11_liesIn 16 = .ok (.iload_n 3, 1) := by decide +kernel
theorem dX11_liesIn_17 : decode cX11_liesIn 17 = .ok (.iaload, 1) := by decide +kernel
theorem dX11_liesIn_18 : decode cX11_liesIn 18 = .ok (.istore_n 3, 1) := by decide +kernel
theorem dX11_liesIn_19 : decode cX11_liesIn 19 = .ok (.iload_n 3, 1) := by decide +kernel
theorem dX11_liesIn_20 : decode cX11_liesIn 20 = .ok (.iload_n 2, 1) := by decide +kernel
theorem dX11_liesIn_21 : decode cX11_liesIn 21 = .ok (.if_icmp .ne (-19), 3) := by decide +kernel
theorem dX11_liesIn_24 : decode cX11_liesIn 24 = .ok (.iconst 1, 1) := by decide +kernel
theorem dX11_liesIn_25 : decode cX11_liesIn 25 = .ok (.ireturn, 1) := by decide +kernel
theorem dX11_liesIn_26 : decode cX11_liesIn 26 = .ok (.iconst 0, 1) := by decide +kernel
theorem dX11_liesIn_27 : decode cX11_liesIn 27 = .ok (.ireturn, 1) := by decide +kernel
noncomputable def L_X11_liesIn_2 (x2 : Int32) : Nat → Int32 → qM → (qM → Option (Int32 × qM)) → (qM → Option (Int32 × qM)) → Option (Int32 × qM)
  | 0, _, _, _, _ => none
  | n + 1, x3, u1, e1, e2 => q_ck (q_in x3 8) (if (u1.1 74 0 (Int32.toNatClampNeg x3)) = 2 then q_ck (q_in x3 8) (q_lt (u1.1 96 0 (Int32.toNatClampNeg x3)) (fun (x4 : Int32) => if x4 = x2 then e2 u1 else L_X11_liesIn_2 x2 n x4 u1 e1 e2)) else e1 u1)
noncomputable def f_X11_liesIn (x1 : Int32) (x2 : Int32) (u0 : qM) : Option (Int32 × qM) :=
  L_X11_liesIn_2 x2 q_fu x1 u0 (fun u2 => some (0, u2)) (fun u3 => some (1, u3))
set_option maxRecDepth 100000 in
set_option maxHeartbeats 4000000 in
theorem TL_X11_liesIn_2 (l : Launch) (G : qG) (x2 : Int32)  (e1 : qM → Option (Int32 × qM)) (e2 : qM → Option (Int32 × qM)) (he1 : ∀  (v : qM), qAW l G m_X11_liesIn (q_mq G q_cI) 26 [] [] v (e1 v)) (he2 : ∀  (v : qM), qAW l G m_X11_liesIn (q_mq G q_cI) 24 [] [] v (e2 v)) : ∀ (n : Nat) (x3 : Int32) (u1 : qM), qAW l G m_X11_liesIn (q_mq G q_cI) 2 [(0, .ref (q_ad G 11 0)), (2, .int x2), (3, .int x3)] [] u1 (L_X11_liesIn_2 x2 n x3 u1 e1 e2) := by
  intro n
  induction n with
  | zero => intros; exact aw_none
  | succ n ih =>
    intro x3 u1
    unfold L_X11_liesIn_2
    refine aw_aload_n (i := 0) dX11_liesIn_2 3 rfl rfl 0 rfl ?_
    refine gf_X11_14 dX11_liesIn_3 6 rfl wd_250 (ok_11 (by decide)) ?_
    refine aw_iload_n (i := 3) dX11_liesIn_6 7 rfl rfl 2 rfl ?_
    refine aw_iald dX11_liesIn_7 8 rfl at_74 (al_74 _) (ok_74 (by decide)) (fun h1 => ?_)
    refine aw_iconst (x := 2) dX11_liesIn_8 9 rfl rfl ?_
    refine aw_icmp_ne dX11_liesIn_9 12 rfl 26 rfl (fun h2 => ?_) (fun h2 => ?_)
    · exact aw_conv [] rfl (he1 u1)
    · refine aw_aload_n (i := 0) dX11_liesIn_12 13 rfl rfl 0 rfl ?_
      refine gf_X11_36 dX11_liesIn_13 16 rfl wd_253 (ok_11 (by decide)) ?_
      refine aw_iload_n (i := 3) dX11_liesIn_16 17 rfl rfl 2 rfl ?_
      refine aw_iald dX11_liesIn_17 18 rfl at_96 (al_96 _) (ok_96 (by decide)) (fun h3 => ?_)
      refine aw_lti (fun x4 => ?_)
      refine aw_istore_n dX11_liesIn_18 19 rfl rfl [(3, .int x4), (0, .ref (q_ad G 11 0)), (2, .int x2)] (by decide) rfl ?_
      refine aw_iload_n (i := 3) dX11_liesIn_19 20 rfl rfl 0 rfl ?_
      refine aw_iload_n (i := 2) dX11_liesIn_20 21 rfl rfl 2 rfl ?_
      refine aw_icmp_ne dX11_liesIn_21 24 rfl 2 rfl (fun h4 => ?_) (fun h4 => ?_)
      · exact aw_conv [1, 2, 0] rfl (ih x4 u1)
      · exact aw_conv [] rfl (he2 u1)
set_option maxRecDepth 100000 in
set_option maxHeartbeats 4000000 in
theorem k_X11_liesIn (l : Launch) (G : qG) (x1 : Int32) (x2 : Int32)  (u0 : qM) : qCt l G m_X11_liesIn q_cI [.ref (q_ad G 11 0), .int x1, .int x2] u0 (f_X11_liesIn x1 x2 u0) := by
  refine q_entry pk_X11_liesIn (Nat.le_of_ble_eq_true rfl) ?_
  show qAW l G m_X11_liesIn (q_mq G q_cI) 0 [(0, .ref (q_ad G 11 0)), (1, .int x1), (2, .int x2)] [] u0 (f_X11_liesIn x1 x2 u0)
  unfold f_X11_liesIn
  refine aw_iload_n (i := 1) dX11_liesIn_0 1 rfl rfl 1 rfl ?_
  refine aw_istore_n dX11_liesIn_1 2 rfl rfl [(3, .int x1), (0, .ref (q_ad G 11 0)), (1, .int x1), (2, .int x2)] (by decide) rfl ?_
  refine aw_conv [1, 3, 0] rfl (TL_X11_liesIn_2 l G x2  _ _ ?_ ?_ _ x1 u0)
  · intro u2
    refine aw_iconst (x := 0) dX11_liesIn_26 27 rfl rfl ?_
    exact aw_zret dX11_liesIn_27 rfl (by decide)
  · intro u3
    refine aw_iconst (x := 1) dX11_liesIn_24 25 rfl rfl ?_
    exact aw_zret dX11_liesIn_25 rfl (by decide)
theorem dX11_keep_0 : decode cX11_keep 0 = .ok (.iload_n 2, 1) := by decide +kernel
theorem dX11_keep_1 : decode cX11_keep 1 = .ok (.invokestatic 186, 3) := by decide +kernel
theorem dX11_keep_4 : decode cX11_keep 4 = .ok (.ifCond .eq 8, 3) := by decide +kernel
theorem dX11_keep_7 : decode cX11_keep 7 = .ok (.iload_n 1, 1) := by decide +kernel
theorem dX11_keep_8 : decode cX11_keep 8 = .ok (.iload_n 2, 1) := by decide +kernel
theorem dX11_keep_9 : decode cX11_keep 9 = .ok (.if_icmp .ne 5, 3) := by decide +kernel
theorem dX11_keep_12 : decode cX11_keep 12 = .ok (.iconst (-1), 1) := by decide +kernel
theorem dX11_keep_13 : decode cX11_keep 13 = .ok (.ireturn, 1) := by decide +kernel
theorem dX11_keep_14 : decode cX11_keep 14 = .ok (.aload_n 0, 1) := by decide +kernel
theorem dX11_keep_15 : decode cX11_keep 15 = .ok (.iload_n 1, 1) := by decide +kernel
theorem dX11_keep_16 : decode cX11_keep 16 = .ok (.invokevirtual 237, 3) := by decide +kernel
theorem dX11_keep_19 : decode cX11_keep 19 = .ok (.istore_n 3, 1) := by decide +kernel
theorem dX11_keep_20 : decode cX11_keep 20 = .ok (.iload_n 3, 1) := by decide +kernel
theorem dX11_keep_21 : decode cX11_keep 21 = .ok (.ifCond .ge 5, 3) := by decide +kernel
theorem dX11_keep_24 : decode cX11_keep 24 = .ok (.iload_n 3, 1) := by decide +kernel
theorem dX11_keep_25 : decode cX11_keep 25 = .ok (.ireturn, 1) := by decide +kernel
theorem dX11_keep_26 : decode cX11_keep 26 = .ok (.aload_n 0, 1) := by decide +kernel
theorem dX11_keep_27 : decode cX11_keep 27 = .ok (.iload_n 1, 1) := by decide +kernel
theorem dX11_keep_28 : decode cX11_keep 28 = .ok (.iload_n 2, 1) := by decide +kernel
theorem dX11_keep_29 : decode cX11_keep 29 = .ok (.invokevirtual 296, 3) := by decide +kernel
theorem dX11_keep_32 : decode cX11_keep 32 = .ok (.ifCond .eq 6, 3) := by decide +kernel
theorem dX11_keep_35 : decode cX11_keep 35 = .ok (.bipush (-4), 2) := by decide +kernel
theorem dX11_keep_37 : decode cX11_keep 37 = .ok (.ireturn, 1) := by decide +kernel
theorem dX11_keep_38 : decode cX11_keep 38 = .ok (.aload_n 0, 1) := by decide +kernel
theorem dX11_keep_39 : decode cX11_keep 39 = .ok (.iload_n 2, 1) := by decide +kernel
theorem dX11_keep_40 : decode cX11_keep 40 = .ok (.invokevirtual 229, 3) := by decide +kernel
theorem dX11_keep_43 : decode cX11_keep 43 = .ok (.aload_n 0, 1) := by decide +kernel
theorem dX11_keep_44 : decode cX11_keep 44 = .ok (.iload_n 1, 1) := by decide +kernel
theorem dX11_keep_45 : decode cX11_keep 45 = .ok (.iload_n 2, 1) := by decide +kernel
theorem dX11_keep_46 : decode cX11_keep 46 = .ok (.invokevirtual 299, 3) := by decide +kernel
theorem dX11_keep_49 : decode cX11_keep 49 = .ok (.aload_n 0, 1) := by decide +kernel
theorem dX11_keep_50 : decode cX11_keep 50 = .ok (.getfield 38, 3) := by decide +kernel
theorem dX11_keep_53 : decode cX11_keep 53 = .ok (.iload_n 2, 1) := by decide +kernel
theorem dX11_keep_54 : decode cX11_keep 54 = .ok (.aload_n 0, 1) := by decide +kernel
theorem dX11_keep_55 : decode cX11_keep 55 = .ok (.getfield 38, 3) := by decide +kernel
theorem dX11_keep_58 : decode cX11_keep 58 = .ok (.iload_n 2, 1) := by decide +kernel
theorem dX11_keep_59 : decode cX11_keep 59 = .ok (.iaload, 1) := by decide +kernel
theorem dX11_keep_60 : decode cX11_keep 60 = .ok (.iconst 2, 1) := by decide +kernel
theorem dX11_keep_61 : decode cX11_keep 61 = .ok (.if_icmp .ne 7, 3) := by decide +kernel
theorem dX11_keep_64 : decode cX11_keep 64 = .ok (.iconst 0, 1) := by decide +kernel
theorem dX11_keep_65 : decode cX11_keep 65 = .ok (.goto 9, 3) := by decide +kernel
theorem dX11_keep_68 : decode cX11_keep 68 = .ok (.aload_n 0, 1) := by decide +kernel
theorem dX11_keep_69 : decode cX11_keep 69 = .ok (.getfield 38, 3) := by decide +kernel
theorem dX11_keep_72 : decode cX11_keep 72 = .ok (.iload_n 2, 1) := by decide +kernel
theorem dX11_keep_73 : decode cX11_keep 73 = .ok (.iaload, 1) := by decide +kernel
theorem dX11_keep_74 : decode cX11_keep 74 = .ok (.iastore, 1) := by decide +kernel
theorem dX11_keep_75 : decode cX11_keep 75 = .ok (.aload_n 0, 1) := by decide +kernel
theorem dX11_keep_76 : decode cX11_keep 76 = .ok (.iload_n 2, 1) := by decide +kernel
theorem dX11_keep_77 : decode cX11_keep 77 = .ok (.invokevirtual 223, 3) := by decide +kernel
theorem dX11_keep_80 : decode cX11_keep 80 = .ok (.ireturn, 1) := by decide +kernel
noncomputable def f_X11_keep (x1 : Int32) (x2 : Int32) (u0 : qM) : Option (Int32 × qM) :=
  q_bd (f_X11_isSix x2 u0) (fun (x3 : Int32) (u1 : qM) => q_jn (fun  (u2 : qM) => some ((-1), u2)) (fun j1 => if x3 = 0 then j1 u1 else if x1 = x2 then j1 u1 else q_bd (f_X11_askedFor x1 u1) (fun (x4 : Int32) (u3 : qM) => if (0 : Int32) ≤ x4 then q_bd (f_X11_liesIn x1 x2 u3) (fun (x5 : Int32) (u4 : qM) => if x5 = 0 then q_bd (f_X11_clear x2 u4) (fun (_z : Unit) (u5 : qM) => q_bd (f_X11_bring x1 x2 u5) (fun (_z : Unit) (u6 : qM) => q_ck (q_in x2 8) (q_jn (fun (x6 : Int32) (u7 : qM) => q_ck (q_in x2 8) (q_lt (q_si u7 74 0 (Int32.toNatClampNeg x2) x6) (fun (u8 : qM) => q_bd (f_X11_cells x2 u8) (fun (x7 : Int32) (u9 : qM) => some (x7, u9))))) (fun j2 => if (u6.1 74 0 (Int32.toNatClampNeg x2)) = 2 then j2 0 u6 else q_ck (q_in x2 8) (j2 (u6.1 74 0 (Int32.toNatClampNeg x2)) u6))))) else some ((-4), u4)) else some (x4, u3))))
set_option maxRecDepth 100000 in
set_option maxHeartbeats 4000000 in
theorem k_X11_keep (l : Launch) (G : qG) (x1 : Int32) (x2 : Int32)  (u0 : qM) : qCt l G m_X11_keep q_cI [.ref (q_ad G 11 0), .int x1, .int x2] u0 (f_X11_keep x1 x2 u0) := by
  refine q_entry pk_X11_keep (Nat.le_of_ble_eq_true rfl) ?_
  show qAW l G m_X11_keep (q_mq G q_cI) 0 [(0, .ref (q_ad G 11 0)), (1, .int x1), (2, .int x2)] [] u0 (f_X11_keep x1 x2 u0)
  unfold f_X11_keep
  refine aw_iload_n (i := 2) dX11_keep_0 1 rfl rfl 2 rfl ?_
  refine aw_callS (M2 := m_X11_isSix) (cv := q_cI) dX11_keep_1 4 rfl (k_X11_isSix l G x2  u0) wd_227 wv_X11_isSix pk_X11_isSix rfl ⟨by decide, by decide⟩ ⟨Nat.zero_le _, Nat.zero_le _⟩ rfl (Nat.le_of_ble_eq_true rfl) (fun x3 u1 => ?_)
  show qAW l G m_X11_keep (q_mq G q_cI) 4 [(0, .ref (q_ad G 11 0)), (1, .int x1), (2, .int x2)] [.int x3] u1 _
  refine aw_jn (fun k => ∀  (u2 : qM), qAW l G m_X11_keep (q_mq G q_cI) 12 [] [] u2 (k u2)) ?_ ?_
  · intro u2
    refine aw_iconst (x := (-1)) dX11_keep_12 13 rfl rfl ?_
    exact aw_iret dX11_keep_13 rfl
  · intro j1 hj1
    refine aw_if_eq dX11_keep_4 7 rfl 12 rfl (fun h1 => ?_) (fun h1 => ?_)
    · exact aw_conv [] rfl (hj1 u1)
    · refine aw_iload_n (i := 1) dX11_keep_7 8 rfl rfl 1 rfl ?_
      refine aw_iload_n (i := 2) dX11_keep_8 9 rfl rfl 2 rfl ?_
      refine aw_icmp_ne dX11_keep_9 12 rfl 14 rfl (fun h2 => ?_) (fun h2 => ?_)
      · refine aw_aload_n (i := 0) dX11_keep_14 15 rfl rfl 0 rfl ?_
        refine aw_iload_n (i := 1) dX11_keep_15 16 rfl rfl 1 rfl ?_
        refine aw_callV (M2 := m_X11_askedFor) (cv := q_cI) dX11_keep_16 19 rfl (k_X11_askedFor l G x1  u1) wd_274 wv_X11_askedFor pk_X11_askedFor rfl rfl ⟨by decide, by decide⟩ ⟨Nat.zero_le _, Nat.zero_le _⟩ at_11 (ok_11 (by decide)) rfl rfl rfl (Nat.le_of_ble_eq_true rfl) (fun x4 u3 => ?_)
        show qAW l G m_X11_keep (q_mq G q_cI) 19 [(0, .ref (q_ad G 11 0)), (1, .int x1), (2, .int x2)] [.int x4] u3 _
        refine aw_istore_n dX11_keep_19 20 rfl rfl [(3, .int x4), (0, .ref (q_ad G 11 0)), (1, .int x1), (2, .int x2)] (by decide) rfl ?_
        refine aw_iload_n (i := 3) dX11_keep_20 21 rfl rfl 0 rfl ?_
        refine aw_if_ge dX11_keep_21 24 rfl 26 rfl (fun h3 => ?_) (fun h3 => ?_)
        · refine aw_aload_n (i := 0) dX11_keep_26 27 rfl rfl 1 rfl ?_
          refine aw_iload_n (i := 1) dX11_keep_27 28 rfl rfl 2 rfl ?_
          refine aw_iload_n (i := 2) dX11_keep_28 29 rfl rfl 3 rfl ?_
          refine aw_callV (M2 := m_X11_liesIn) (cv := q_cI) dX11_keep_29 32 rfl (k_X11_liesIn l G x1 x2  u3) wd_306 wv_X11_liesIn pk_X11_liesIn rfl rfl ⟨by decide, by decide⟩ ⟨Nat.zero_le _, Nat.zero_le _⟩ at_11 (ok_11 (by decide)) rfl rfl rfl (Nat.le_of_ble_eq_true rfl) (fun x5 u4 => ?_)
          show qAW l G m_X11_keep (q_mq G q_cI) 32 [(3, .int x4), (0, .ref (q_ad G 11 0)), (1, .int x1), (2, .int x2)] [.int x5] u4 _
          refine aw_if_eq dX11_keep_32 35 rfl 38 rfl (fun h4 => ?_) (fun h4 => ?_)
          · refine aw_aload_n (i := 0) dX11_keep_38 39 rfl rfl 1 rfl ?_
            refine aw_iload_n (i := 2) dX11_keep_39 40 rfl rfl 3 rfl ?_
            refine aw_callV (M2 := m_X11_clear) (cv := q_cU) dX11_keep_40 43 rfl (k_X11_clear l G x2  u4) wd_272 wv_X11_clear pk_X11_clear rfl rfl ⟨by decide, by decide⟩ ⟨Nat.zero_le _, Nat.zero_le _⟩ at_11 (ok_11 (by decide)) rfl rfl rfl (Nat.le_of_ble_eq_true rfl) (fun _z u5 => ?_)
            show qAW l G m_X11_keep (q_mq G q_cI) 43 [(3, .int x4), (0, .ref (q_ad G 11 0)), (1, .int x1), (2, .int x2)] [] u5 _
            refine aw_aload_n (i := 0) dX11_keep_43 44 rfl rfl 1 rfl ?_
            refine aw_iload_n (i := 1) dX11_keep_44 45 rfl rfl 2 rfl ?_
            refine aw_iload_n (i := 2) dX11_keep_45 46 rfl rfl 3 rfl ?_
            refine aw_callV (M2 := m_X11_bring) (cv := q_cU) dX11_keep_46 49 rfl (k_X11_bring l G x1 x2  u5) wd_307 wv_X11_bring pk_X11_bring rfl rfl ⟨by decide, by decide⟩ ⟨Nat.zero_le _, Nat.zero_le _⟩ at_11 (ok_11 (by decide)) rfl rfl rfl (Nat.le_of_ble_eq_true rfl) (fun _z u6 => ?_)
            show qAW l G m_X11_keep (q_mq G q_cI) 49 [(3, .int x4), (0, .ref (q_ad G 11 0)), (1, .int x1), (2, .int x2)] [] u6 _
            refine aw_aload_n (i := 0) dX11_keep_49 50 rfl rfl 1 rfl ?_
            refine gf_X11_14 dX11_keep_50 53 rfl wd_250 (ok_11 (by decide)) ?_
            refine aw_iload_n (i := 2) dX11_keep_53 54 rfl rfl 3 rfl ?_
            refine aw_aload_n (i := 0) dX11_keep_54 55 rfl rfl 1 rfl ?_
            refine gf_X11_14 dX11_keep_55 58 rfl wd_250 (ok_11 (by decide)) ?_
            refine aw_iload_n (i := 2) dX11_keep_58 59 rfl rfl 3 rfl ?_
            refine aw_iald dX11_keep_59 60 rfl at_74 (al_74 _) (ok_74 (by decide)) (fun h5 => ?_)
            refine aw_iconst (x := 2) dX11_keep_60 61 rfl rfl ?_
            refine aw_jn (fun k => ∀ (x6 : Int32) (u7 : qM), qAW l G m_X11_keep (q_mq G q_cI) 74 [(0, .ref (q_ad G 11 0)), (2, .int x2)] [.int x6, .int x2, .ref (q_ad G 74 0)] u7 (k x6 u7)) ?_ ?_
            · intro x6 u7
              refine aw_iast dX11_keep_74 75 rfl at_74 (al_74 _) (ok_74 (by decide)) (fun h7 => ?_)
              refine aw_ltm (fun u8 => ?_)
              refine aw_aload_n (i := 0) dX11_keep_75 76 rfl rfl 0 rfl ?_
              refine aw_iload_n (i := 2) dX11_keep_76 77 rfl rfl 1 rfl ?_
              refine aw_callV (M2 := m_X11_cells) (cv := q_cI) dX11_keep_77 80 rfl (k_X11_cells l G x2  u8) wd_251 wv_X11_cells pk_X11_cells rfl rfl ⟨by decide, by decide⟩ ⟨Nat.zero_le _, Nat.zero_le _⟩ at_11 (ok_11 (by decide)) rfl rfl rfl (Nat.le_of_ble_eq_true rfl) (fun x7 u9 => ?_)
              show qAW l G m_X11_keep (q_mq G q_cI) 80 [(0, .ref (q_ad G 11 0)), (2, .int x2)] [.int x7] u9 _
              exact aw_iret dX11_keep_80 rfl
            · intro j2 hj2
              refine aw_icmp_ne dX11_keep_61 64 rfl 68 rfl (fun h6 => ?_) (fun h6 => ?_)
              · refine aw_aload_n (i := 0) dX11_keep_68 69 rfl rfl 1 rfl ?_
                refine gf_X11_14 dX11_keep_69 72 rfl wd_250 (ok_11 (by decide)) ?_
                refine aw_iload_n (i := 2) dX11_keep_72 73 rfl rfl 3 rfl ?_
                refine aw_iald dX11_keep_73 74 rfl at_74 (al_74 _) (ok_74 (by decide)) (fun h8 => ?_)
                exact aw_conv [1, 3] rfl (hj2 (u6.1 74 0 (Int32.toNatClampNeg x2)) u6)
              · refine aw_iconst (x := 0) dX11_keep_64 65 rfl rfl ?_
                refine aw_goto dX11_keep_65 74 rfl ?_
                exact aw_conv [1, 3] rfl (hj2 0 u6)
          · refine aw_bipush (x := (-4)) dX11_keep_35 37 rfl rfl ?_
            exact aw_iret dX11_keep_37 rfl
        · refine aw_iload_n (i := 3) dX11_keep_24 25 rfl rfl 0 rfl ?_
          exact aw_iret dX11_keep_25 rfl
      · exact aw_conv [] rfl (hj1 u1)
theorem dX11_turned_0 : decode cX11_turned 0 = .ok (.iload_n 2, 1) := by decide +kernel
theorem dX11_turned_1 : decode cX11_turned 1 = .ok (.aload_n 0, 1) := by decide +kernel
theorem dX11_turned_2 : decode cX11_turned 2 = .ok (.getfield 41, 3) := by decide +kernel
theorem dX11_turned_5 : decode cX11_turned 5 = .ok (.iload_n 1, 1) := by decide +kernel
theorem dX11_turned_6 : decode cX11_turned 6 = .ok (.iaload, 1) := by decide +kernel
theorem dX11_turned_7 : decode cX11_turned 7 = .ok (.idiv, 1) := by decide +kernel
theorem dX11_turned_8 : decode cX11_turned 8 = .ok (.aload_n 0, 1) := by decide +kernel
theorem dX11_turned_9 : decode cX11_turned 9 = .ok (.getfield 41, 3) := by decide +kernel
theorem dX11_turned_12 : decode cX11_turned 12 = .ok (.iload_n 1, 1) := by decide +kernel
theorem dX11_turned_13 : decode cX11_turned 13 = .ok (.iaload, 1) := by decide +kernel
theorem dX11_turned_14 : decode cX11_turned 14 = .ok (.imul, 1) := by decide +kernel
theorem dX11_turned_15 : decode cX11_turned 15 = .ok (.aload_n 0, 1) := by decide +kernel
theorem dX11_turned_16 : decode cX11_turned 16 = .ok (.getfield 41, 3) := by decide +kernel
theorem dX11_turned_19 : decode cX11_turned 19 = .ok (.iload_n 1, 1) := by decide +kernel
theorem dX11_turned_20 : decode cX11_turned 20 = .ok (.iaload, 1) := by decide +kernel
theorem dX11_turned_21 : decode cX11_turned 21 = .ok (.iadd, 1) := by decide +kernel
theorem dX11_turned_22 : decode cX11_turned 22 = .ok (.iconst 1, 1) := by decide +kernel
theorem dX11_turned_23 : decode cX11_turned 23 = .ok (.isub, 1) := by decide +kernel
theorem dX11_turned_24 : decode cX11_turned 24 = .ok (.iload_n 2, 1) := by decide +kernel
theorem dX11_turned_25 : decode cX11_turned 25 = .ok (.aload_n 0, 1) := by decide +kernel
theorem dX11_turned_26 : decode cX11_turned 26 = .ok (.getfield 41, 3) := by decide +kernel
theorem dX11_turned_29 : decode cX11_turned 29 = .ok (.iload_n 1, 1) := by decide +kernel
theorem dX11_turned_30 : decode cX11_turned 30 = .ok (.iaload, 1) := by decide +kernel
theorem dX11_turned_31 : decode cX11_turned 31 = .ok (.irem, 1) := by decide +kernel
theorem dX11_turned_32 : decode cX11_turned 32 = .ok (.isub, 1) := by decide +kernel
theorem dX11_turned_33 : decode cX11_turned 33 = .ok (.ireturn, 1) := by decide +kernel
noncomputable def f_X11_turned (x1 : Int32) (x2 : Int32) (u0 : qM) : Option (Int32 × qM) :=
  q_ck (q_in x1 8) (q_ck (q_nz (u0.1 75 0 (Int32.toNatClampNeg x1))) (q_ck (q_in x1 8) (q_ck (q_in x1 8) (q_ck (q_in x1 8) (q_ck (q_nz (u0.1 75 0 (Int32.toNatClampNeg x1))) (some (((((x2 / (u0.1 75 0 (Int32.toNatClampNeg x1))) * (u0.1 75 0 (Int32.toNatClampNeg x1))) + (u0.1 75 0 (Int32.toNatClampNeg x1))) - 1) - (x2 - x2 / (u0.1 75 0 (Int32.toNatClampNeg x1)) * (u0.1 75 0 (Int32.toNatClampNeg x1))), u0)))))))
set_option maxRecDepth 100000 in
set_option maxHeartbeats 4000000 in
theorem k_X11_turned (l : Launch) (G : qG) (x1 : Int32) (x2 : Int32)  (u0 : qM) : qCt l G m_X11_turned q_cI [.ref (q_ad G 11 0), .int x1, .int x2] u0 (f_X11_turned x1 x2 u0) := by
  refine q_entry pk_X11_turned (Nat.le_of_ble_eq_true rfl) ?_
  show qAW l G m_X11_turned (q_mq G q_cI) 0 [(0, .ref (q_ad G 11 0)), (1, .int x1), (2, .int x2)] [] u0 (f_X11_turned x1 x2 u0)
  unfold f_X11_turned
  refine aw_iload_n (i := 2) dX11_turned_0 1 rfl rfl 2 rfl ?_
  refine aw_aload_n (i := 0) dX11_turned_1 2 rfl rfl 0 rfl ?_
  refine gf_X11_15 dX11_turned_2 5 rfl wd_246 (ok_11 (by decide)) ?_
  refine aw_iload_n (i := 1) dX11_turned_5 6 rfl rfl 1 rfl ?_
  refine aw_iald dX11_turned_6 7 rfl at_75 (al_75 _) (ok_75 (by decide)) (fun h1 => ?_)
  refine aw_ck (fun h2 => ?_)
  refine aw_idiv dX11_turned_7 8 rfl (of_decide_eq_true h2) ?_
  refine aw_aload_n (i := 0) dX11_turned_8 9 rfl rfl 0 rfl ?_
  refine gf_X11_15 dX11_turned_9 12 rfl wd_246 (ok_11 (by decide)) ?_
  refine aw_iload_n (i := 1) dX11_turned_12 13 rfl rfl 1 rfl ?_
  refine aw_iald dX11_turned_13 14 rfl at_75 (al_75 _) (ok_75 (by decide)) (fun h3 => ?_)
  refine aw_imul dX11_turned_14 15 rfl ?_
  refine aw_aload_n (i := 0) dX11_turned_15 16 rfl rfl 0 rfl ?_
  refine gf_X11_15 dX11_turned_16 19 rfl wd_246 (ok_11 (by decide)) ?_
  refine aw_iload_n (i := 1) dX11_turned_19 20 rfl rfl 1 rfl ?_
  refine aw_iald dX11_turned_20 21 rfl at_75 (al_75 _) (ok_75 (by decide)) (fun h4 => ?_)
  refine aw_iadd dX11_turned_21 22 rfl ?_
  refine aw_iconst (x := 1) dX11_turned_22 23 rfl rfl ?_
  refine aw_isub dX11_turned_23 24 rfl ?_
  refine aw_iload_n (i := 2) dX11_turned_24 25 rfl rfl 2 rfl ?_
  refine aw_aload_n (i := 0) dX11_turned_25 26 rfl rfl 0 rfl ?_
  refine gf_X11_15 dX11_turned_26 29 rfl wd_246 (ok_11 (by decide)) ?_
  refine aw_iload_n (i := 1) dX11_turned_29 30 rfl rfl 1 rfl ?_
  refine aw_iald dX11_turned_30 31 rfl at_75 (al_75 _) (ok_75 (by decide)) (fun h5 => ?_)
  refine aw_ck (fun h6 => ?_)
  refine aw_irem dX11_turned_31 32 rfl (of_decide_eq_true h6) ?_
  refine aw_isub dX11_turned_32 33 rfl ?_
  exact aw_iret dX11_turned_33 rfl
theorem dX11_mirror_0 : decode cX11_mirror 0 = .ok (.aload_n 0, 1) := by decide +kernel
theorem dX11_mirror_1 : decode cX11_mirror 1 = .ok (.iload_n 1, 1) := by decide +kernel
theorem dX11_mirror_2 : decode cX11_mirror 2 = .ok (.invokevirtual 237, 3) := by decide +kernel
theorem dX11_mirror_5 : decode cX11_mirror 5 = .ok (.istore_n 2, 1) := by decide +kernel
theorem dX11_mirror_6 : decode cX11_mirror 6 = .ok (.iload_n 2, 1) := by decide +kernel
theorem dX11_mirror_7 : decode cX11_mirror 7 = .ok (.ifCond .ge 5, 3) := by decide +kernel
theorem dX11_mirror_10 : decode cX11_mirror 10 = .ok (.iload_n 2, 1) := by decide +kernel
theorem dX11_mirror_11 : decode cX11_mirror 11 = .ok (.ireturn, 1) := by decide +kernel
theorem dX11_mirror_12 : decode cX11_mirror 12 = .ok (.aload_n 0, 1) := by decide +kernel
theorem dX11_mirror_13 : decode cX11_mirror 13 = .ok (.getfield 38, 3) := by decide +kernel
theorem dX11_mirror_16 : decode cX11_mirror 16 = .ok (.iload_n 1, 1) := by decide +kernel
theorem dX11_mirror_17 : decode cX11_mirror 17 = .ok (.iaload, 1) := by decide +kernel
theorem dX11_mirror_18 : decode cX11_mirror 18 = .ok (.iconst 2, 1) := by decide +kernel
theorem dX11_mirror_19 : decode cX11_mirror 19 = .ok (.if_icmp .ne 9, 3) := by decide +kernel
theorem dX11_mirror_22 : decode cX11_mirror 22 = .ok (.aload_n 0, 1) := by decide +kernel
theorem dX11_mirror_23 : decode cX11_mirror 23 = .ok (.iconst 3, 1) := by decide +kernel
theorem dX11_mirror_24 : decode cX11_mirror 24 = .ok (.invokevirtual 190, 3) := by decide +kernel
theorem dX11_mirror_27 : decode cX11_mirror 27 = .ok (.ireturn, 1) := by decide +kernel
theorem dX11_mirror_28 : decode cX11_mirror 28 = .ok (.iconst 0, 1) := by decide +kernel
theorem dX11_mirror_29 : decode cX11_mirror 29 = .ok (.istore_n 3, 1) := by decide +kernel
theorem dX11_mirror_30 : decode cX11_mirror 30 = .ok (.iload_n 3, 1) := by decide +kernel
theorem dX11_mirror_31 : decode cX11_mirror 31 = .ok (.bipush 6, 2) := by decide +kernel
theorem dX11_mirror_33 : decode cX11_mirror 33 = .ok (.if_icmp .ge 32, 3) := by decide +kernel
theorem dX11_mirror_36 : decode cX11_mirror 36 = .ok (.aload_n 0, 1) := by decide +kernel
theorem dX11_mirror_37 : decode cX11_mirror 37 = .ok (.getfield 38, 3) := by decide +kernel
theorem dX11_mirror_40 : decode cX11_mirror 40 = .ok (.iload_n 3, 1) := by decide +kernel
theorem dX11_mirror_41 : decode cX11_mirror 41 = .ok (.iaload, 1) := by decide +kernel
theorem dX11_mirror_42 : decode cX11_mirror 42 = .ok (.iconst 2, 1) := by decide +kernel
theorem dX11_mirror_43 : decode cX11_mirror 43 = .ok (.if_icmp .ne 16, 3) := by decide +kernel
theorem dX11_mirror_46 : decode cX11_mirror 46 = .ok (.aload_n 0, 1) := by decide +kernel
theorem dX11_mirror_47 : decode cX11_mirror 47 = .ok (.getfield 105, 3) := by decide +kernel
theorem dX11_mirror_50 : decode cX11_mirror 50 = .ok (.iload_n 3, 1) := by decide +kernel
theorem dX11_mirror_51 : decode cX11_mirror 51 = .ok (.iaload, 1) := by decide +kernel
theorem dX11_mirror_52 : decode cX11_mirror 52 = .ok (.iload_n 1, 1) := by decide +kernel
theorem dX11_mirror_53 : decode cX11_mirror 53 = .ok (.if_icmp .ne 6, 3) := by decide +kernel
theorem dX11_mirror_56 : decode cX11_mirror 56 = .ok (.bipush (-4), 2) := by decide +kernel
theorem dX11_mirror_58 : decode cX11_mirror 58 = .ok (.ireturn, 1) := by decide +kernel
theorem dX11_mirror_59 : decode cX11_mirror 59 = .ok (.iinc 3 1, 3) := by decide +kernel
theorem dX11_mirror_62 : decode cX11_mirror 62 = .ok (.goto (-32), 3) := by decide +kernel
theorem dX11_mirror_65 : decode cX11_mirror 65 = .ok (.aload_n 0, 1) := by decide +kernel
theorem dX11_mirror_66 : decode cX11_mirror 66 = .ok (.iload_n 1, 1) := by decide +kernel
theorem dX11_mirror_67 : decode cX11_mirror 67 = .ok (.bipush 6, 2) := by decide +kernel
theorem dX11_mirror_69 : decode cX11_mirror 69 = .ok (.invokevirtual 299, 3) := by decide +kernel
theorem dX11_mirror_72 : decode cX11_mirror 72 = .ok (.iconst 0, 1) := by decide +kernel
theorem dX11_mirror_73 : decode cX11_mirror 73 = .ok (.istore_n 3, 1) := by decide +kernel
theorem dX11_mirror_74 : decode cX11_mirror 74 = .ok (.iload_n 3, 1) := by decide +kernel
theorem dX11_mirror_75 : decode cX11_mirror 75 = .ok (.aload_n 0, 1) := by decide +kernel
theorem dX11_mirror_76 : decode cX11_mirror 76 = .ok (.iload_n 1, 1) := by decide +kernel
theorem dX11_mirror_77 : decode cX11_mirror 77 = .ok (.invokevirtual 223, 3) := by decide +kernel
theorem dX11_mirror_80 : decode cX11_mirror 80 = .ok (.if_icmp .ge 247, 3) := by decide +kernel
theorem dX11_mirror_83 : decode cX11_mirror 83 = .ok (.aload_n 0, 1) := by decide +kernel
theorem dX11_mirror_84 : decode cX11_mirror 84 = .ok (.iload_n 1, 1) := by decide +kernel
theorem dX11_mirror_85 : decode cX11_mirror 85 = .ok (.iload_n 3, 1) := by decide +kernel
theorem dX11_mirror_86 : decode cX11_mirror 86 = .ok (.invokevirtual 302, 3) := by decide +kernel
theorem dX11_mirror_89 : decode cX11_mirror 89 = .ok (.istore 4, 2) := by decide +kernel
theorem dX11_mirror_91 : decode cX11_mirror 91 = .ok (.aload_n 0, 1) := by decide +kernel
theorem dX11_mirror_92 : decode cX11_mirror 92 = .ok (.getfield 89, 3) := by decide +kernel
theorem dX11_mirror_95 : decode cX11_mirror 95 = .ok (.bipush 48, 2) := by decide +kernel
theorem dX11_mirror_97 : decode cX11_mirror 97 = .ok (.iload_n 1, 1) := by decide +kernel
theorem dX11_mirror_98 : decode cX11_mirror 98 = .ok (.imul, 1) := by decide +kernel
theorem dX11_mirror_99 : decode cX11_mirror 99 = .ok (.iload 4, 2) := by decide +kernel
theorem dX11_mirror_101 : decode cX11_mirror 101 = .ok (.iadd, 1) := by decide +kernel
theorem dX11_mirror_102 : decode cX11_mirror 102 = .ok (.aload_n 0, 1) := by decide +kernel
theorem dX11_mirror_103 : decode cX11_mirror 103 = .ok (.getfield 89, 3) := by decide +kernel
theorem dX11_mirror_106 : decode cX11_mirror 106 = .ok (.sipush 288, 3) := by decide +kernel
theorem dX11_mirror_109 : decode cX11_mirror 109 = .ok (.iload_n 3, 1) := by decide +kernel
theorem dX11_mirror_110 : decode cX11_mirror 110 = .ok (.iadd, 1) := by decide +kernel
theorem dX11_mirror_111 : decode cX11_mirror 111 = .ok (.iaload, 1) := by decide +kernel
theorem dX11_mirror_112 : decode cX11_mirror 112 = .ok (.iastore, 1) := by decide +kernel
theorem dX11_mirror_113 : decode cX11_mirror 113 = .ok (.aload_n 0, 1) := by decide +kernel
theorem dX11_mirror_114 : decode cX11_mirror 114 = .ok (.getfield 92, 3) := by decide +kernel
theorem dX11_mirror_117 : decode cX11_mirror 117 = .ok (.bipush 48, 2) := by decide +kernel
theorem dX11_mirror_119 : decode cX11_mirror 119 = .ok (.iload_n 1, 1) := by decide +kernel
theorem dX11_mirror_120 : decode cX11_mirror 120 = .ok (.imul, 1) := by decide +kernel
theorem dX11_mirror_121 : decode cX11_mirror 121 = .ok (.iload 4, 2) := by decide +kernel
theorem dX11_mirror_123 : decode cX11_mirror 123 = .ok (.iadd, 1) := by decide +kernel
theorem dX11_mirror_124 : decode cX11_mirror 124 = .ok (.aload_n 0, 1) := by decide +kernel
theorem dX11_mirror_125 : decode cX11_mirror 125 = .ok (.getfield 92, 3) := by decide +kernel
theorem dX11_mirror_128 : decode cX11_mirror 128 = .ok (.sipush 288, 3) := by decide +kernel
theorem dX11_mirror_131 : decode cX11_mirror 131 = .ok (.iload_n 3, 1) := by decide +kernel
theorem dX11_mirror_132 : decode cX11_mirror 132 = .ok (.iadd, 1) := by decide +kernel
theorem dX11_mirror_133 : decode cX11_mirror 133 = .ok (.iaload, 1) := by decide +kernel
theorem dX11_mirror_134 : decode cX11_mirror 134 = .ok (.iastore, 1) := by decide +kernel
theorem dX11_mirror_135 : decode cX11_mirror 135 = .ok (.iconst 0, 1) := by decide +kernel
theorem dX11_mirror_136 : decode cX11_mirror 136 = .ok (.istore 5, 2) := by decide +kernel
theorem dX11_mirror_138 : decode cX11_mirror 138 = .ok (.iload 5, 2) := by decide +kernel
theorem dX11_mirror_140 : decode cX11_mirror 140 = .ok (.iconst 3, 1) := by decide +kernel
theorem dX11_mirror_141 : decode cX11_mirror 141 = .ok (.if_icmp .ge 44, 3) := by decide +kernel
theorem dX11_mirror_144 : decode cX11_mirror 144 = .ok (.aload_n 0, 1) := by decide +kernel
theorem dX11_mirror_145 : decode cX11_mirror 145 = .ok (.getfield 95, 3) := by decide +kernel
theorem dX11_mirror_148 : decode cX11_mirror 148 = .ok (.sipush 144, 3) := by decide +kernel
theorem dX11_mirror_151 : decode cX11_mirror 151 = .ok (.iload_n 1, 1) := by decide +kernel
theorem dX11_mirror_152 : decode cX11_mirror 152 = .ok (.imul, 1) := by decide +kernel
theorem dX11_mirror_153 : decode cX11_mirror 153 = .ok (.bipush 48, 2) := by decide +kernel
theorem dX11_mirror_155 : decode cX11_mirror 155 = .ok (.iload 5, 2) := by decide +kernel
theorem dX11_mirror_157 : decode cX11_mirror 157 = .ok (.imul, 1) := by decide +kernel
theorem dX11_mirror_158 : decode cX11_mirror 158 = .ok (.iadd, 1) := by decide +kernel
theorem dX11_mirror_159 : decode cX11_mirror 159 = .ok (.iload 4, 2) := by decide +kernel
theorem dX11_mirror_161 : decode cX11_mirror 161 = .ok (.iadd, 1) := by decide +kernel
theorem dX11_mirror_162 : decode cX11_mirror 162 = .ok (.aload_n 0, 1) := by decide +kernel
theorem dX11_mirror_163 : decode cX11_mirror 163 = .ok (.getfield 95, 3) := by decide +kernel
theorem dX11_mirror_166 : decode cX11_mirror 166 = .ok (.sipush 864, 3) := by decide +kernel
theorem dX11_mirror_169 : decode cX11_mirror 169 = .ok (.bipush 48, 2) := by decide +kernel
theorem dX11_mirror_171 : decode cX11_mirror 171 = .ok (.iload 5, 2) := by decide +kernel
theorem dX11_mirror_173 : decode cX11_mirror 173 = .ok (.imul, 1) := by decide +kernel
theorem dX11_mirror_174 : decode cX11_mirror 174 = .ok (.iadd, 1) := by decide +kernel
theorem dX11_mirror_175 : decode cX11_mirror 175 = .ok (.iload_n 3, 1) := by decide +kernel
theorem dX11_mirror_176 : decode cX11_mirror 176 = .ok (.iadd, 1) := by decide +kernel
theorem dX11_mirror_177 : decode cX11_mirror 177 = .ok (.iaload, 1) := by decide +kernel
theorem dX11_mirror_178 : decode cX11_mirror 178 = .ok (.iastore, 1) := by decide +kernel
theorem dX11_mirror_179 : decode cX11_mirror 179 = .ok (.iinc 5 1, 3) := by decide +kernel
theorem dX11_mirror_182 : decode cX11_mirror 182 = .ok (.goto (-44), 3) := by decide +kernel
theorem dX11_mirror_185 : decode cX11_mirror 185 = .ok (.aload_n 0, 1) := by decide +kernel
theorem dX11_mirror_186 : decode cX11_mirror 186 = .ok (.getfield 98, 3) := by decide +kernel
theorem dX11_mirror_189 : decode cX11_mirror 189 = .ok (.bipush 96, 2) := by decide +kernel
theorem dX11_mirror_191 : decode cX11_mirror 191 = .ok (.iload_n 1, 1) := by decide +kernel
theorem dX11_mirror_192 : decode cX11_mirror 192 = .ok (.imul, 1) := by decide +kernel
theorem dX11_mirror_193 : decode cX11_mirror 193 = .ok (.iconst 2, 1) := by decide +kernel
theorem dX11_mirror_194 : decode cX11_mirror 194 = .ok (.iload 4, 2) := by decide +kernel
theorem dX11_mirror_196 : decode cX11_mirror 196 = .ok (.imul, 1) := by decide +kernel
theorem dX11_mirror_197 : decode cX11_mirror 197 = .ok (.iadd, 1) := by decide +kernel
theorem dX11_mirror_198 : decode cX11_mirror 198 = .ok (.iconst 1, 1) := by decide +kernel
theorem dX11_mirror_199 : decode cX11_mirror 199 = .ok (.iadd, 1) := by decide +kernel
theorem dX11_mirror_200 : decode cX11_mirror 200 = .ok (.aload_n 0, 1) := by decide +kernel
theorem dX11_mirror_201 : decode cX11_mirror 201 = .ok (.getfield 98, 3) := by decide +kernel
theorem dX11_mirror_204 : decode cX11_mirror 204 = .ok (.sipush 576, 3) := by decide +kernel
theorem dX11_mirror_207 : decode cX11_mirror 207 = .ok (.iconst 2, 1) := by decide +kernel
theorem dX11_mirror_208 : decode cX11_mirror 208 = .ok (.iload_n 3, 1) := by decide +kernel
theorem dX11_mirror_209 : decode cX11_mirror 209 = .ok (.imul, 1) := by decide +kernel
theorem dX11_mirror_210 : decode cX11_mirror 210 = .ok (.iadd, 1) := by decide +kernel
theorem dX11_mirror_211 : decode cX11_mirror 211 = .ok (.iconst 1, 1) := by decide +kernel
theorem dX11_mirror_212 : decode cX11_mirror 212 = .ok (.iadd, 1) := by decide +kernel
theorem dX11_mirror_213 : decode cX11_mirror 213 = .ok (.iaload, 1) := by decide +kernel
theorem dX11_mirror_214 : decode cX11_mirror 214 = .ok (.iastore, 1) := by decide +kernel
theorem dX11_mirror_215 : decode cX11_mirror 215 = .ok (.aload_n 0, 1) := by decide +kernel
theorem dX11_mirror_216 : decode cX11_mirror 216 = .ok (.getfield 101, 3) := by decide +kernel
theorem dX11_mirror_219 : decode cX11_mirror 219 = .ok (.bipush 96, 2) := by decide +kernel
theorem dX11_mirror_221 : decode cX11_mirror 221 = .ok (.iload_n 1, 1) := by decide +kernel
theorem dX11_mirror_222 : decode cX11_mirror 222 = .ok (.imul, 1) := by decide +kernel
theorem dX11_mirror_223 : decode cX11_mirror 223 = .ok (.iconst 2, 1) := by decide +kernel
theorem dX11_mirror_224 : decode cX11_mirror 224 = .ok (.iload 4, 2) := by decide +kernel
theorem dX11_mirror_226 : decode cX11_mirror 226 = .ok (.imul, 1) := by decide +kernel
theorem dX11_mirror_227 : decode cX11_mirror 227 = .ok (.iadd, 1) := by decide +kernel
theorem dX11_mirror_228 : decode cX11_mirror 228 = .ok (.iconst 1, 1) := by decide +kernel
theorem dX11_mirror_229 : decode cX11_mirror 229 = .ok (.iadd, 1) := by decide +kernel
theorem dX11_mirror_230 : decode cX11_mirror 230 = .ok (.aload_n 0, 1) := by decide +kernel
theorem dX11_mirror_231 : decode cX11_mirror 231 = .ok (.getfield 101, 3) := by decide +kernel
theorem dX11_mirror_234 : decode cX11_mirror 234 = .ok (.sipush 576, 3) := by decide +kernel
theorem dX11_mirror_237 : decode cX11_mirror 237 = .ok (.iconst 2, 1) := by decide +kernel
theorem dX11_mirror_238 : decode cX11_mirror 238 = .ok (.iload_n 3, 1) := by decide +kernel
theorem dX11_mirror_239 : decode cX11_mirror 239 = .ok (.imul, 1) := by decide +kernel
theorem dX11_mirror_240 : decode cX11_mirror 240 = .ok (.iadd, 1) := by decide +kernel
theorem dX11_mirror_241 : decode cX11_mirror 241 = .ok (.iconst 1, 1) := by decide +kernel
theorem dX11_mirror_242 : decode cX11_mirror 242 = .ok (.iadd, 1) := by decide +kernel
theorem dX11_mirror_243 : decode cX11_mirror 243 = .ok (.baload, 1) := by decide +kernel
theorem dX11_mirror_244 : decode cX11_mirror 244 = .ok (.bastore, 1) := by decide +kernel
theorem dX11_mirror_245 : decode cX11_mirror 245 = .ok (.iload_n 3, 1) := by decide +kernel
theorem dX11_mirror_246 : decode cX11_mirror 246 = .ok (.aload_n 0, 1) := by decide +kernel
theorem dX11_mirror_247 : decode cX11_mirror 247 = .ok (.getfield 41, 3) := by decide +kernel
theorem dX11_mirror_250 : decode cX11_mirror 250 = .ok (.iload_n 1, 1) := by decide +kernel
theorem dX11_mirror_251 : decode cX11_mirror 251 = .ok (.iaload, 1) := by decide +kernel
theorem dX11_mirror_252 : decode cX11_mirror 252 = .ok (.irem, 1) := by decide +kernel
theorem dX11_mirror_253 : decode cX11_mirror 253 = .ok (.iconst 1, 1) := by decide +kernel
theorem dX11_mirror_254 : decode cX11_mirror 254 = .ok (.iadd, 1) := by decide +kernel
theorem dX11_mirror_255 : decode cX11_mirror 255 = .ok (.aload_n 0, 1) := by decide +kernel
theorem dX11_mirror_256 : decode cX11_mirror 256 = .ok (.getfield 41, 3) := by decide +kernel
theorem dX11_mirror_259 : decode cX11_mirror 259 = .ok (.iload_n 1, 1) := by decide +kernel
theorem dX11_mirror_260 : decode cX11_mirror 260 = .ok (.iaload, 1) := by decide +kernel
theorem dX11_mirror_261 : decode cX11_mirror 261 = .ok (.if_icmp .ge 60, 3) := by decide +kernel
theorem dX11_mirror_264 : decode cX11_mirror 264 = .ok (.aload_n 0, 1) := by decide +kernel
theorem dX11_mirror_265 : decode cX11_mirror 265 = .ok (.getfield 98, 3) := by decide +kernel
theorem dX11_mirror_268 : decode cX11_mirror 268 = .ok (.bipush 96, 2) := by decide +kernel
theorem dX11_mirror_270 : decode cX11_mirror 270 = .ok (.iload_n 1, 1) := by decide +kernel
theorem dX11_mirror_271 : decode cX11_mirror 271 = .ok (.imul, 1) := by decide +kernel
theorem dX11_mirror_272 : decode cX11_mirror 272 = .ok (.iconst 2, 1) := by decide +kernel
theorem dX11_mirror_273 : decode cX11_mirror 273 = .ok (.iload 4, 2) := by decide +kernel
theorem dX11_mirror_275 : decode cX11_mirror 275 = .ok (.imul, 1) := by decide +kernel
theorem dX11_mirror_276 : decode cX11_mirror 276 = .ok (.iadd, 1) := by decide +kernel
theorem dX11_mirror_277 : decode cX11_mirror 277 = .ok (.iconst 2, 1) := by decide +kernel
theorem dX11_mirror_278 : decode cX11_mirror 278 = .ok (.isub, 1) := by decide +kernel
theorem dX11_mirror_279 : decode cX11_mirror 279 = .ok (.aload_n 0, 1) := by decide +kernel
theorem dX11_mirror_280 : decode cX11_mirror 280 = .ok (.getfield 98, 3) := by decide +kernel
theorem dX11_mirror_283 : decode cX11_mirror 283 = .ok (.sipush 576, 3) := by decide +kernel
theorem dX11_mirror_286 : decode cX11_mirror 286 = .ok (.iconst 2, 1) := by decide +kernel
theorem dX11_mirror_287 : decode cX11_mirror 287 = .ok (.iload_n 3, 1) := by decide +kernel
theorem dX11_mirror_288 : decode cX11_mirror 288 = .ok (.imul, 1) := by decide +kernel
theorem dX11_mirror_289 : decode cX11_mirror 289 = .ok (.iadd, 1) := by decide +kernel
theorem dX11_mirror_290 : decode cX11_mirror 290 = .ok (.iaload, 1) := by decide +kernel
theorem dX11_mirror_291 : decode cX11_mirror 291 = .ok (.ineg, 1) := by decide +kernel
theorem dX11_mirror_292 : decode cX11_mirror 292 = .ok (.iastore, 1) := by decide +kernel
theorem dX11_mirror_293 : decode cX11_mirror 293 = .ok (.aload_n 0, 1) := by decide +kernel
theorem dX11_mirror_294 : decode cX11_mirror 294 = .ok (.getfield 101, 3) := by decide +kernel
theorem dX11_mirror_297 : decode cX11_mirror 297 = .ok (.bipush 96, 2) := by decide +kernel
theorem dX11_mirror_299 : decode cX11_mirror 299 = .ok (.iload_n 1, 1) := by decide +kernel
theorem dX11_mirror_300 : decode cX11_mirror 300 = .ok (.imul, 1) := by decide +kernel
theorem dX11_mirror_301 : decode cX11_mirror 301 = .ok (.iconst 2, 1) := by decide +kernel
theorem dX11_mirror_302 : decode cX11_mirror 302 = .ok (.iload 4, 2) := by decide +kernel
theorem dX11_mirror_304 : decode cX11_mirror 304 = .ok (.imul, 1) := by decide +kernel
theorem dX11_mirror_305 : decode cX11_mirror 305 = .ok (.iadd, 1) := by decide +kernel
theorem dX11_mirror_306 : decode cX11_mirror 306 = .ok (.iconst 2, 1) := by decide +kernel
theorem dX11_mirror_307 : decode cX11_mirror 307 = .ok (.isub, 1) := by decide +kernel
theorem dX11_mirror_308 : decode cX11_mirror 308 = .ok (.aload_n 0, 1) := by decide +kernel
theorem dX11_mirror_309 : decode cX11_mirror 309 = .ok (.getfield 101, 3) := by decide +kernel
theorem dX11_mirror_312 : decode cX11_mirror 312 = .ok (.sipush 576, 3) := by decide +kernel
theorem dX11_mirror_315 : decode cX11_mirror 315 = .ok (.iconst 2, 1) := by decide +kernel
theorem dX11_mirror_316 : decode cX11_mirror 316 = .ok (.iload_n 3, 1) := by decide +kernel
theorem dX11_mirror_317 : decode cX11_mirror 317 = .ok (.imul, 1) := by decide +kernel
theorem dX11_mirror_318 : decode cX11_mirror 318 = .ok (.iadd, 1) := by decide +kernel
theorem dX11_mirror_319 : decode cX11_mirror 319 = .ok (.baload, 1) := by decide +kernel
theorem dX11_mirror_320 : decode cX11_mirror 320 = .ok (.bastore, 1) := by decide +kernel
theorem dX11_mirror_321 : decode cX11_mirror 321 = .ok (.iinc 3 1, 3) := by decide +kernel
theorem dX11_mirror_324 : decode cX11_mirror 324 = .ok (.goto (-250), 3) := by decide +kernel
theorem dX11_mirror_327 : decode cX11_mirror 327 = .ok (.aload_n 0, 1) := by decide +kernel
theorem dX11_mirror_328 : decode cX11_mirror 328 = .ok (.getfield 38, 3) := by decide +kernel
theorem dX11_mirror_331 : decode cX11_mirror 331 = .ok (.bipush 6, 2) := by decide +kernel
theorem dX11_mirror_333 : decode cX11_mirror 333 = .ok (.bipush (-9), 2) := by decide +kernel
theorem dX11_mirror_335 : decode cX11_mirror 335 = .ok (.iastore, 1) := by decide +kernel
theorem dX11_mirror_336 : decode cX11_mirror 336 = .ok (.aload_n 0, 1) := by decide +kernel
theorem dX11_mirror_337 : decode cX11_mirror 337 = .ok (.getfield 53, 3) := by decide +kernel
theorem dX11_mirror_340 : decode cX11_mirror 340 = .ok (.iload_n 1, 1) := by decide +kernel
theorem dX11_mirror_341 : decode cX11_mirror 341 = .ok (.aload_n 0, 1) := by decide +kernel
theorem dX11_mirror_342 : decode cX11_mirror 342 = .ok (.getfield 53, 3) := by decide +kernel
theorem dX11_mirror_345 : decode cX11_mirror 345 = .ok (.iload_n 1, 1) := by decide +kernel
theorem dX11_mirror_346 : decode cX11_mirror 346 = .ok (.iaload, 1) := by decide +kernel
theorem dX11_mirror_347 : decode cX11_mirror 347 = .ok (.ineg, 1) := by decide +kernel
theorem dX11_mirror_348 : decode cX11_mirror 348 = .ok (.iastore, 1) := by decide +kernel
theorem dX11_mirror_349 : decode cX11_mirror 349 = .ok (.iconst 0, 1) := by decide +kernel
theorem dX11_mirror_350 : decode cX11_mirror 350 = .ok (.istore_n 3, 1) := by decide +kernel
theorem dX11_mirror_351 : decode cX11_mirror 351 = .ok (.iload_n 3, 1) := by decide +kernel
theorem dX11_mirror_352 : decode cX11_mirror 352 = .ok (.aload_n 0, 1) := by decide +kernel
theorem dX11_mirror_353 : decode cX11_mirror 353 = .ok (.getfield 74, 3) := by decide +kernel
theorem dX11_mirror_356 : decode cX11_mirror 356 = .ok (.iload_n 1, 1) := by decide +kernel
theorem dX11_mirror_357 : decode cX11_mirror 357 = .ok (.iaload, 1) := by decide +kernel
theorem dX11_mirror_358 : decode cX11_mirror 358 = .ok (.if_icmp .ge 34, 3) := by decide +kernel
theorem dX11_mirror_361 : decode cX11_mirror 361 = .ok (.aload_n 0, 1) := by decide +kernel
theorem dX11_mirror_362 : decode cX11_mirror 362 = .ok (.getfield 77, 3) := by decide +kernel
theorem dX11_mirror_365 : decode cX11_mirror 365 = .ok (.iconst 4, 1) := by decide +kernel
theorem dX11_mirror_366 : decode cX11_mirror 366 = .ok (.iload_n 1, 1) := by decide +kernel
theorem dX11_mirror_367 : decode cX11_mirror 367 = .ok (.imul, 1) := by decide +kernel
theorem dX11_mirror_368 : decode cX11_mirror 368 = .ok (.iload_n 3, 1) := by decide +kernel
theorem dX11_mirror_369 : decode cX11_mirror 369 = .ok (.iadd, 1) := by decide +kernel
theorem dX11_mirror_370 : decode cX11_mirror 370 = .ok (.aload_n 0, 1) := by decide +kernel
theorem dX11_mirror_371 : decode cX11_mirror 371 = .ok (.iload_n 1, 1) := by decide +kernel
theorem dX11_mirror_372 : decode cX11_mirror 372 = .ok (.aload_n 0, 1) := by decide +kernel
theorem dX11_mirror_373 : decode cX11_mirror 373 = .ok (.getfield 77, 3) := by decide +kernel
theorem dX11_mirror_376 : decode cX11_mirror 376 = .ok (.iconst 4, 1) := by decide +kernel
theorem dX11_mirror_377 : decode cX11_mirror 377 = .ok (.iload_n 1, 1) := by decide +kernel
theorem dX11_mirror_378 : decode cX11_mirror 378 = .ok (.imul, 1) := by decide +kernel
theorem dX11_mirror_379 : decode cX11_mirror 379 = .ok (.iload_n 3, 1) := by decide +kernel
theorem dX11_mirror_380 : decode cX11_mirror 380 = .ok (.iadd, 1) := by decide +kernel
theorem dX11_mirror_381 : decode cX11_mirror 381 = .ok (.iaload, 1) := by decide +kernel
theorem dX11_mirror_382 : decode cX11_mirror 382 = .ok (.invokevirtual 302, 3) := by decide +kernel
theorem dX11_mirror_385 : decode cX11_mirror 385 = .ok (.iastore, 1) := by decide +kernel
theorem dX11_mirror_386 : decode cX11_mirror 386 = .ok (.iinc 3 1, 3) := by decide +kernel
theorem dX11_mirror_389 : decode cX11_mirror 389 = .ok (.goto (-38), 3) := by decide +kernel
theorem dX11_mirror_392 : decode cX11_mirror 392 = .ok (.iconst 0, 1) := by decide +kernel
theorem dX11_mirror_393 : decode cX11_mirror 393 = .ok (.istore_n 3, 1) := by decide +kernel
theorem dX11_mirror_394 : decode cX11_mirror 394 = .ok (.iload_n 3, 1) := by decide +kernel
theorem dX11_mirror_395 : decode cX11_mirror 395 = .ok (.bipush 8, 2) := by decide +kernel
theorem dX11_mirror_397 : decode cX11_mirror 397 = .ok (.if_icmp .ge 81, 3) := by decide +kernel
theorem dX11_mirror_400 : decode cX11_mirror 400 = .ok (.aload_n 0, 1) := by decide +kernel
theorem dX11_mirror_401 : decode cX11_mirror 401 = .ok (.getfield 135, 3) := by decide +kernel
theorem dX11_mirror_404 : decode cX11_mirror 404 = .ok (.iload_n 3, 1) := by decide +kernel
theorem dX11_mirror_405 : decode cX11_mirror 405 = .ok (.aload_n 0, 1) := by decide +kernel
theorem dX11_mirror_406 : decode cX11_mirror 406 = .ok (.getfield 132, 3) := by decide +kernel
theorem dX11_mirror_409 : decode cX11_mirror 409 = .ok (.iload_n 3, 1) := by decide +kernel
theorem dX11_mirror_410 : decode cX11_mirror 410 = .ok (.iaload, 1) := by decide +kernel
theorem dX11_mirror_411 : decode cX11_mirror 411 = .ok (.iload_n 1, 1) := by decide +kernel
theorem dX11_mirror_412 : decode cX11_mirror 412 = .ok (.if_icmp .ne 17, 3) := by decide +kernel
theorem dX11_mirror_415 : decode cX11_mirror 415 = .ok (.aload_n 0, 1) := by decide +kernel
theorem dX11_mirror_416 : decode cX11_mirror 416 = .ok (.iload_n 1, 1) := by decide +kernel
theorem dX11_mirror_417 : decode cX11_mirror 417 = .ok (.aload_n 0, 1) := by decide +kernel
theorem dX11_mirror_418 : decode cX11_mirror 418 = .ok (.getfield 135, 3) := by decide +kernel
theorem dX11_mirror_421 : decode cX11_mirror 421 = .ok (.iload_n 3, 1) := by decide +kernel
theorem dX11_mirror_422 : decode cX11_mirror 422 = .ok (.iaload, 1) := by decide +kernel
theorem dX11_mirror_423 : decode cX11_mirror 423 = .ok (.invokevirtual 302, 3) := by decide +kernel
theorem dX11_mirror_426 : decode cX11_mirror 426 = .ok (.goto 9, 3) := by decide +kernel
theorem dX11_mirror_429 : decode cX11_mirror 429 = .ok (.aload_n 0, 1) := by decide +kernel
theorem dX11_mirror_430 : decode cX11_mirror 430 = .ok (.getfield 135, 3) := by decide +kernel
theorem dX11_mirror_433 : decode cX11_mirror 433 = .ok (.iload_n 3, 1) := by decide +kernel
theorem dX11_mirror_434 : decode cX11_mirror 434 = .ok (.iaload, 1) := by decide +kernel
theorem dX11_mirror_435 : decode cX11_mirror 435 = .ok (.iastore, 1) := by decide +kernel
theorem dX11_mirror_436 : decode cX11_mirror 436 = .ok (.aload_n 0, 1) := by decide +kernel
theorem dX11_mirror_437 : decode cX11_mirror 437 = .ok (.getfield 144, 3) := by decide +kernel
theorem dX11_mirror_440 : decode cX11_mirror 440 = .ok (.iload_n 3, 1) := by decide +kernel
theorem dX11_mirror_441 : decode cX11_mirror 441 = .ok (.aload_n 0, 1) := by decide +kernel
theorem dX11_mirror_442 : decode cX11_mirror 442 = .ok (.getfield 141, 3) := by decide +kernel
theorem dX11_mirror_445 : decode cX11_mirror 445 = .ok (.iload_n 3, 1) := by decide +kernel
theorem dX11_mirror_446 : decode cX11_mirror 446 = .ok (.iaload, 1) := by decide +kernel
theorem dX11_mirror_447 : decode cX11_mirror 447 = .ok (.iload_n 1, 1) := by decide +kernel
theorem dX11_mirror_448 : decode cX11_mirror 448 = .ok (.if_icmp .ne 17, 3) := by decide +kernel
theorem dX11_mirror_451 : decode cX11_mirror 451 = .ok (.aload_n 0, 1) := by decide +kernel
theorem dX11_mirror_452 : decode cX11_mirror 452 = .ok (.iload_n 1, 1) := by decide +kernel
theorem dX11_mirror_453 : decode cX11_mirror 453 = .ok (.aload_n 0, 1) := by decide +kernel
theorem dX11_mirror_454 : decode cX11_mirror 454 = .ok (.getfield 144, 3) := by decide +kernel
theorem dX11_mirror_457 : decode cX11_mirror 457 = .ok (.iload_n 3, 1) := by decide +kernel
theorem dX11_mirror_458 : decode cX11_mirror 458 = .ok (.iaload, 1) := by decide +kernel
theorem dX11_mirror_459 : decode cX11_mirror 459 = .ok (.invokevirtual 302, 3) := by decide +kernel
theorem dX11_mirror_462 : decode cX11_mirror 462 = .ok (.goto 9, 3) := by decide +kernel
theorem dX11_mirror_465 : decode cX11_mirror 465 = .ok (.aload_n 0, 1) := by decide +kernel
theorem dX11_mirror_466 : decode cX11_mirror 466 = .ok (.getfield 144, 3) := by decide +kernel
theorem dX11_mirror_469 : decode cX11_mirror 469 = .ok (.iload_n 3, 1) := by decide +kernel
theorem dX11_mirror_470 : decode cX11_mirror 470 = .ok (.iaload, 1) := by decide +kernel
theorem dX11_mirror_471 : decode cX11_mirror 471 = .ok (.iastore, 1) := by decide +kernel
theorem dX11_mirror_472 : decode cX11_mirror 472 = .ok (.iinc 3 1, 3) := by decide +kernel
theorem dX11_mirror_475 : decode cX11_mirror 475 = .ok (.goto (-81), 3) := by decide +kernel
theorem dX11_mirror_478 : decode cX11_mirror 478 = .ok (.iconst 1, 1) := by decide +kernel
theorem dX11_mirror_479 : decode cX11_mirror 479 = .ok (.ireturn, 1) := by decide +kernel
noncomputable def L_X11_mirror_30 (x1 : Int32) : Nat → Int32 → qM → (qM → Option (Int32 × qM)) → (qM → Option (Int32 × qM)) → Option (Int32 × qM)
  | 0, _, _, _, _ => none
  | n + 1, x3, u2, e1, e2 => if 6 ≤ x3 then e1 u2 else q_ck (q_in x3 8) (q_jn (fun  (u3 : qM) => q_lt (x3 + 1) (fun (x4 : Int32) => L_X11_mirror_30 x1 n x4 u3 e1 e2)) (fun j1 => if (u2.1 74 0 (Int32.toNatClampNeg x3)) = 2 then q_ck (q_in x3 8) (if (u2.1 96 0 (Int32.toNatClampNeg x3)) = x1 then e2 u2 else j1 u2) else j1 u2))
noncomputable def L_X11_mirror_138 (x1 : Int32) (x5 : Int32) (x7 : Int32) : Nat → Int32 → qM → (qM → Option (Int32 × qM)) → Option (Int32 × qM)
  | 0, _, _, _ => none
  | n + 1, x8, u11, e1 => if 3 ≤ x8 then e1 u11 else q_ck (q_in ((864 + (48 * x8)) + x5) 1152) (q_ck (q_in (((144 * x1) + (48 * x8)) + x7) 1152) (q_lt (q_si u11 93 0 (Int32.toNatClampNeg (((144 * x1) + (48 * x8)) + x7)) (u11.1 93 0 (Int32.toNatClampNeg ((864 + (48 * x8)) + x5)))) (fun (u12 : qM) => q_lt (x8 + 1) (fun (x9 : Int32) => L_X11_mirror_138 x1 x5 x7 n x9 u12 e1))))
noncomputable def L_X11_mirror_74 (x1 : Int32) : Nat → Int32 → qM → (qM → Option (Int32 × qM)) → Option (Int32 × qM)
  | 0, _, _, _ => none
  | n + 1, x5, u6, e1 => q_bd (f_X11_cells x1 u6) (fun (x6 : Int32) (u7 : qM) => if x6 ≤ x5 then e1 u7 else q_bd (f_X11_turned x1 x5 u7) (fun (x7 : Int32) (u8 : qM) => q_ck (q_in (288 + x5) 384) (q_ck (q_in ((48 * x1) + x7) 384) (q_lt (q_si u8 91 0 (Int32.toNatClampNeg ((48 * x1) + x7)) (u8.1 91 0 (Int32.toNatClampNeg (288 + x5)))) (fun (u9 : qM) => q_ck (q_in (288 + x5) 384) (q_ck (q_in ((48 * x1) + x7) 384) (q_lt (q_si u9 92 0 (Int32.toNatClampNeg ((48 * x1) + x7)) (u9.1 92 0 (Int32.toNatClampNeg (288 + x5)))) (fun (u10 : qM) => L_X11_mirror_138 x1 x5 x7 q_fu 0 u10 (fun u13 => q_ck (q_in ((576 + (2 * x5)) + 1) 768) (q_ck (q_in (((96 * x1) + (2 * x7)) + 1) 768) (q_lt (q_si u13 94 0 (Int32.toNatClampNeg (((96 * x1) + (2 * x7)) + 1)) (u13.1 94 0 (Int32.toNatClampNeg ((576 + (2 * x5)) + 1)))) (fun (u14 : qM) => q_ck (q_in ((576 + (2 * x5)) + 1) 768) (q_ck (q_in (((96 * x1) + (2 * x7)) + 1) 768) (q_lt (q_si u14 95 0 (Int32.toNatClampNeg (((96 * x1) + (2 * x7)) + 1)) (vp_nar .boolean (u14.1 95 0 (Int32.toNatClampNeg ((576 + (2 * x5)) + 1))))) (fun (u15 : qM) => q_ck (q_in x1 8) (q_ck (q_nz (u15.1 75 0 (Int32.toNatClampNeg x1))) (q_ck (q_in x1 8) (q_jn (fun  (u16 : qM) => q_lt (x5 + 1) (fun (x10 : Int32) => L_X11_mirror_74 x1 n x10 u16 e1)) (fun j2 => if (u15.1 75 0 (Int32.toNatClampNeg x1)) ≤ ((x5 - x5 / (u15.1 75 0 (Int32.toNatClampNeg x1)) * (u15.1 75 0 (Int32.toNatClampNeg x1))) + 1) then j2 u15 else q_ck (q_in (576 + (2 * x5)) 768) (q_ck (q_in (((96 * x1) + (2 * x7)) - 2) 768) (q_lt (q_si u15 94 0 (Int32.toNatClampNeg (((96 * x1) + (2 * x7)) - 2)) (-(u15.1 94 0 (Int32.toNatClampNeg (576 + (2 * x5)))))) (fun (u17 : qM) => q_ck (q_in (576 + (2 * x5)) 768) (q_ck (q_in (((96 * x1) + (2 * x7)) - 2) 768) (q_lt (q_si u17 95 0 (Int32.toNatClampNeg (((96 * x1) + (2 * x7)) - 2)) (vp_nar .boolean (u17.1 95 0 (Int32.toNatClampNeg (576 + (2 * x5)))))) (fun (u18 : qM) => j2 u18)))))))))))))))))))))))))
noncomputable def L_X11_mirror_351 (x1 : Int32) : Nat → Int32 → qM → (qM → Option (Int32 × qM)) → Option (Int32 × qM)
  | 0, _, _, _ => none
  | n + 1, x11, u22, e1 => q_ck (q_in x1 8) (if (u22.1 86 0 (Int32.toNatClampNeg x1)) ≤ x11 then e1 u22 else q_ck (q_in ((4 * x1) + x11) 32) (q_bd (f_X11_turned x1 (u22.1 87 0 (Int32.toNatClampNeg ((4 * x1) + x11))) u22) (fun (x12 : Int32) (u23 : qM) => q_ck (q_in ((4 * x1) + x11) 32) (q_lt (q_si u23 87 0 (Int32.toNatClampNeg ((4 * x1) + x11)) x12) (fun (u24 : qM) => q_lt (x11 + 1) (fun (x13 : Int32) => L_X11_mirror_351 x1 n x13 u24 e1))))))
noncomputable def L_X11_mirror_394 (x1 : Int32) : Nat → Int32 → qM → (qM → Option (Int32 × qM)) → Option (Int32 × qM)
  | 0, _, _, _ => none
  | n + 1, x14, u26, e1 => if 8 ≤ x14 then e1 u26 else q_ck (q_in x14 8) (q_jn (fun (x15 : Int32) (u27 : qM) => q_ck (q_in x14 8) (q_lt (q_si u27 106 0 (Int32.toNatClampNeg x14) x15) (fun (u28 : qM) => q_ck (q_in x14 8) (q_jn (fun (x16 : Int32) (u29 : qM) => q_ck (q_in x14 8) (q_lt (q_si u29 109 0 (Int32.toNatClampNeg x14) x16) (fun (u30 : qM) => q_lt (x14 + 1) (fun (x17 : Int32) => L_X11_mirror_394 x1 n x17 u30 e1)))) (fun j4 => if (u28.1 108 0 (Int32.toNatClampNeg x14)) = x1 then q_ck (q_in x14 8) (q_bd (f_X11_turned x1 (u28.1 109 0 (Int32.toNatClampNeg x14)) u28) (fun (x18 : Int32) (u31 : qM) => j4 x18 u31)) else q_ck (q_in x14 8) (j4 (u28.1 109 0 (Int32.toNatClampNeg x14)) u28)))))) (fun j3 => if (u26.1 105 0 (Int32.toNatClampNeg x14)) = x1 then q_ck (q_in x14 8) (q_bd (f_X11_turned x1 (u26.1 106 0 (Int32.toNatClampNeg x14)) u26) (fun (x19 : Int32) (u32 : qM) => j3 x19 u32)) else q_ck (q_in x14 8) (j3 (u26.1 106 0 (Int32.toNatClampNeg x14)) u26)))
noncomputable def f_X11_mirror (x1 : Int32) (u0 : qM) : Option (Int32 × qM) :=
  q_bd (f_X11_askedFor x1 u0) (fun (x2 : Int32) (u1 : qM) => if (0 : Int32) ≤ x2 then q_ck (q_in x1 8) (if (u1.1 74 0 (Int32.toNatClampNeg x1)) = 2 then q_bd (f_X11_meets 3 u1) (fun (x20 : Int32) (u35 : qM) => some (x20, u35)) else L_X11_mirror_30 x1 q_fu 0 u1 (fun u4 => q_bd (f_X11_bring x1 6 u4) (fun (_z : Unit) (u5 : qM) => L_X11_mirror_74 x1 q_fu 0 u5 (fun u19 => q_ck (q_in 6 8) (q_lt (q_si u19 74 0 (Int32.toNatClampNeg 6) (-9)) (fun (u20 : qM) => q_ck (q_in x1 8) (q_ck (q_in x1 8) (q_lt (q_si u20 79 0 (Int32.toNatClampNeg x1) (-(u20.1 79 0 (Int32.toNatClampNeg x1)))) (fun (u21 : qM) => L_X11_mirror_351 x1 q_fu 0 u21 (fun u25 => L_X11_mirror_394 x1 q_fu 0 u25 (fun u33 => some (1, u33))))))))))) (fun u34 => some ((-4), u34))) else some (x2, u1))
set_option maxRecDepth 100000 in
set_option maxHeartbeats 4000000 in
theorem TL_X11_mirror_30 (l : Launch) (G : qG) (x1 : Int32)  (e1 : qM → Option (Int32 × qM)) (e2 : qM → Option (Int32 × qM)) (he1 : ∀  (v : qM), qAW l G m_X11_mirror (q_mq G q_cI) 65 [(0, .ref (q_ad G 11 0)), (1, .int x1)] [] v (e1 v)) (he2 : ∀  (v : qM), qAW l G m_X11_mirror (q_mq G q_cI) 56 [] [] v (e2 v)) : ∀ (n : Nat) (x3 : Int32) (u2 : qM), qAW l G m_X11_mirror (q_mq G q_cI) 30 [(0, .ref (q_ad G 11 0)), (1, .int x1), (3, .int x3)] [] u2 (L_X11_mirror_30 x1 n x3 u2 e1 e2) := by
  intro n
  induction n with
  | zero => intros; exact aw_none
  | succ n ih =>
    intro x3 u2
    unfold L_X11_mirror_30
    refine aw_iload_n (i := 3) dX11_mirror_30 31 rfl rfl 2 rfl ?_
    refine aw_bipush (x := 6) dX11_mirror_31 33 rfl rfl ?_
    refine aw_icmp_ge dX11_mirror_33 36 rfl 65 rfl (fun h4 => ?_) (fun h4 => ?_)
    · exact aw_conv [0, 1] rfl (he1 u2)
    · refine aw_aload_n (i := 0) dX11_mirror_36 37 rfl rfl 0 rfl ?_
      refine gf_X11_14 dX11_mirror_37 40 rfl wd_250 (ok_11 (by decide)) ?_
      refine aw_iload_n (i := 3) dX11_mirror_40 41 rfl rfl 2 rfl ?_
      refine aw_iald dX11_mirror_41 42 rfl at_74 (al_74 _) (ok_74 (by decide)) (fun h5 => ?_)
      refine aw_iconst (x := 2) dX11_mirror_42 43 rfl rfl ?_
      refine aw_jn (fun k => ∀  (u3 : qM), qAW l G m_X11_mirror (q_mq G q_cI) 59 [(0, .ref (q_ad G 11 0)), (1, .int x1), (3, .int x3)] [] u3 (k u3)) ?_ ?_
      · intro u3
        refine aw_iincx (i := 3) dX11_mirror_59 62 rfl 2 rfl 1 rfl (fun x4 => [(3, .int x4), (0, .ref (q_ad G 11 0)), (1, .int x1)]) (by decide) (fun _ => rfl) (fun x4 => ?_)
        refine aw_goto dX11_mirror_62 30 rfl ?_
        exact aw_conv [1, 2, 0] rfl (ih x4 u3)
      · intro j1 hj1
        refine aw_icmp_ne dX11_mirror_43 46 rfl 59 rfl (fun h6 => ?_) (fun h6 => ?_)
        · exact hj1 u2
        · refine aw_aload_n (i := 0) dX11_mirror_46 47 rfl rfl 0 rfl ?_
          refine gf_X11_36 dX11_mirror_47 50 rfl wd_253 (ok_11 (by decide)) ?_
          refine aw_iload_n (i := 3) dX11_mirror_50 51 rfl rfl 2 rfl ?_
          refine aw_iald dX11_mirror_51 52 rfl at_96 (al_96 _) (ok_96 (by decide)) (fun h7 => ?_)
          refine aw_iload_n (i := 1) dX11_mirror_52 53 rfl rfl 1 rfl ?_
          refine aw_icmp_ne dX11_mirror_53 56 rfl 59 rfl (fun h8 => ?_) (fun h8 => ?_)
          · exact hj1 u2
          · exact aw_conv [] rfl (he2 u2)
set_option maxRecDepth 100000 in
set_option maxHeartbeats 4000000 in
theorem TL_X11_mirror_138 (l : Launch) (G : qG) (x1 : Int32) (x5 : Int32) (x7 : Int32)  (e1 : qM → Option (Int32 × qM)) (he1 : ∀  (v : qM), qAW l G m_X11_mirror (q_mq G q_cI) 185 [(0, .ref (q_ad G 11 0)), (1, .int x1), (3, .int x5), (4, .int x7)] [] v (e1 v)) : ∀ (n : Nat) (x8 : Int32) (u11 : qM), qAW l G m_X11_mirror (q_mq G q_cI) 138 [(0, .ref (q_ad G 11 0)), (1, .int x1), (3, .int x5), (4, .int x7), (5, .int x8)] [] u11 (L_X11_mirror_138 x1 x5 x7 n x8 u11 e1) := by
  intro n
  induction n with
  | zero => intros; exact aw_none
  | succ n ih =>
    intro x8 u11
    unfold L_X11_mirror_138
    refine aw_iload (i := 5) dX11_mirror_138 140 rfl 4 rfl ?_
    refine aw_iconst (x := 3) dX11_mirror_140 141 rfl rfl ?_
    refine aw_icmp_ge dX11_mirror_141 144 rfl 185 rfl (fun h14 => ?_) (fun h14 => ?_)
    · exact aw_conv [0, 1, 2, 3] rfl (he1 u11)
    · refine aw_aload_n (i := 0) dX11_mirror_144 145 rfl rfl 0 rfl ?_
      refine gf_X11_33 dX11_mirror_145 148 rfl wd_269 (ok_11 (by decide)) ?_
      refine aw_sipush (x := 144) dX11_mirror_148 151 rfl rfl ?_
      refine aw_iload_n (i := 1) dX11_mirror_151 152 rfl rfl 1 rfl ?_
      refine aw_imul dX11_mirror_152 153 rfl ?_
      refine aw_bipush (x := 48) dX11_mirror_153 155 rfl rfl ?_
      refine aw_iload (i := 5) dX11_mirror_155 157 rfl 4 rfl ?_
      refine aw_imul dX11_mirror_157 158 rfl ?_
      refine aw_iadd dX11_mirror_158 159 rfl ?_
      refine aw_iload (i := 4) dX11_mirror_159 161 rfl 3 rfl ?_
      refine aw_iadd dX11_mirror_161 162 rfl ?_
      refine aw_aload_n (i := 0) dX11_mirror_162 163 rfl rfl 0 rfl ?_
      refine gf_X11_33 dX11_mirror_163 166 rfl wd_269 (ok_11 (by decide)) ?_
      refine aw_sipush (x := 864) dX11_mirror_166 169 rfl rfl ?_
      refine aw_bipush (x := 48) dX11_mirror_169 171 rfl rfl ?_
      refine aw_iload (i := 5) dX11_mirror_171 173 rfl 4 rfl ?_
      refine aw_imul dX11_mirror_173 174 rfl ?_
      refine aw_iadd dX11_mirror_174 175 rfl ?_
      refine aw_iload_n (i := 3) dX11_mirror_175 176 rfl rfl 2 rfl ?_
      refine aw_iadd dX11_mirror_176 177 rfl ?_
      refine aw_iald dX11_mirror_177 178 rfl at_93 (al_93 _) (ok_93 (by decide)) (fun h15 => ?_)
      refine aw_iast dX11_mirror_178 179 rfl at_93 (al_93 _) (ok_93 (by decide)) (fun h16 => ?_)
      refine aw_ltm (fun u12 => ?_)
      refine aw_iincx (i := 5) dX11_mirror_179 182 rfl 4 rfl 1 rfl (fun x9 => [(5, .int x9), (0, .ref (q_ad G 11 0)), (1, .int x1), (3, .int x5), (4, .int x7)]) (by decide) (fun _ => rfl) (fun x9 => ?_)
      refine aw_goto dX11_mirror_182 138 rfl ?_
      exact aw_conv [1, 2, 3, 4, 0] rfl (ih x9 u12)
set_option maxRecDepth 100000 in
set_option maxHeartbeats 4000000 in
theorem TL_X11_mirror_74 (l : Launch) (G : qG) (x1 : Int32)  (e1 : qM → Option (Int32 × qM)) (he1 : ∀  (v : qM), qAW l G m_X11_mirror (q_mq G q_cI) 327 [(0, .ref (q_ad G 11 0)), (1, .int x1)] [] v (e1 v)) : ∀ (n : Nat) (x5 : Int32) (u6 : qM), qAW l G m_X11_mirror (q_mq G q_cI) 74 [(0, .ref (q_ad G 11 0)), (1, .int x1), (3, .int x5)] [] u6 (L_X11_mirror_74 x1 n x5 u6 e1) := by
  intro n
  induction n with
  | zero => intros; exact aw_none
  | succ n ih =>
    intro x5 u6
    unfold L_X11_mirror_74
    refine aw_iload_n (i := 3) dX11_mirror_74 75 rfl rfl 2 rfl ?_
    refine aw_aload_n (i := 0) dX11_mirror_75 76 rfl rfl 0 rfl ?_
    refine aw_iload_n (i := 1) dX11_mirror_76 77 rfl rfl 1 rfl ?_
    refine aw_callV (M2 := m_X11_cells) (cv := q_cI) dX11_mirror_77 80 rfl (k_X11_cells l G x1  u6) wd_251 wv_X11_cells pk_X11_cells rfl rfl ⟨by decide, by decide⟩ ⟨Nat.zero_le _, Nat.zero_le _⟩ at_11 (ok_11 (by decide)) rfl rfl rfl (Nat.le_of_ble_eq_true rfl) (fun x6 u7 => ?_)
    show qAW l G m_X11_mirror (q_mq G q_cI) 80 [(0, .ref (q_ad G 11 0)), (1, .int x1), (3, .int x5)] [.int x6, .int x5] u7 _
    refine aw_icmp_ge dX11_mirror_80 83 rfl 327 rfl (fun h9 => ?_) (fun h9 => ?_)
    · exact aw_conv [0, 1] rfl (he1 u7)
    · refine aw_aload_n (i := 0) dX11_mirror_83 84 rfl rfl 0 rfl ?_
      refine aw_iload_n (i := 1) dX11_mirror_84 85 rfl rfl 1 rfl ?_
      refine aw_iload_n (i := 3) dX11_mirror_85 86 rfl rfl 2 rfl ?_
      refine aw_callV (M2 := m_X11_turned) (cv := q_cI) dX11_mirror_86 89 rfl (k_X11_turned l G x1 x5  u7) wd_308 wv_X11_turned pk_X11_turned rfl rfl ⟨by decide, by decide⟩ ⟨Nat.zero_le _, Nat.zero_le _⟩ at_11 (ok_11 (by decide)) rfl rfl rfl (Nat.le_of_ble_eq_true rfl) (fun x7 u8 => ?_)
      show qAW l G m_X11_mirror (q_mq G q_cI) 89 [(0, .ref (q_ad G 11 0)), (1, .int x1), (3, .int x5)] [.int x7] u8 _
      refine aw_istore dX11_mirror_89 91 rfl [(4, .int x7), (0, .ref (q_ad G 11 0)), (1, .int x1), (3, .int x5)] (by decide) rfl ?_
      refine aw_aload_n (i := 0) dX11_mirror_91 92 rfl rfl 1 rfl ?_
      refine gf_X11_31 dX11_mirror_92 95 rfl wd_248 (ok_11 (by decide)) ?_
      refine aw_bipush (x := 48) dX11_mirror_95 97 rfl rfl ?_
      refine aw_iload_n (i := 1) dX11_mirror_97 98 rfl rfl 2 rfl ?_
      refine aw_imul dX11_mirror_98 99 rfl ?_
      refine aw_iload (i := 4) dX11_mirror_99 101 rfl 0 rfl ?_
      refine aw_iadd dX11_mirror_101 102 rfl ?_
      refine aw_aload_n (i := 0) dX11_mirror_102 103 rfl rfl 1 rfl ?_
      refine gf_X11_31 dX11_mirror_103 106 rfl wd_248 (ok_11 (by decide)) ?_
      refine aw_sipush (x := 288) dX11_mirror_106 109 rfl rfl ?_
      refine aw_iload_n (i := 3) dX11_mirror_109 110 rfl rfl 3 rfl ?_
      refine aw_iadd dX11_mirror_110 111 rfl ?_
      refine aw_iald dX11_mirror_111 112 rfl at_91 (al_91 _) (ok_91 (by decide)) (fun h10 => ?_)
      refine aw_iast dX11_mirror_112 113 rfl at_91 (al_91 _) (ok_91 (by decide)) (fun h11 => ?_)
      refine aw_ltm (fun u9 => ?_)
      refine aw_aload_n (i := 0) dX11_mirror_113 114 rfl rfl 1 rfl ?_
      refine gf_X11_32 dX11_mirror_114 117 rfl wd_249 (ok_11 (by decide)) ?_
      refine aw_bipush (x := 48) dX11_mirror_117 119 rfl rfl ?_
      refine aw_iload_n (i := 1) dX11_mirror_119 120 rfl rfl 2 rfl ?_
      refine aw_imul dX11_mirror_120 121 rfl ?_
      refine aw_iload (i := 4) dX11_mirror_121 123 rfl 0 rfl ?_
      refine aw_iadd dX11_mirror_123 124 rfl ?_
      refine aw_aload_n (i := 0) dX11_mirror_124 125 rfl rfl 1 rfl ?_
      refine gf_X11_32 dX11_mirror_125 128 rfl wd_249 (ok_11 (by decide)) ?_
      refine aw_sipush (x := 288) dX11_mirror_128 131 rfl rfl ?_
      refine aw_iload_n (i := 3) dX11_mirror_131 132 rfl rfl 3 rfl ?_
      refine aw_iadd dX11_mirror_132 133 rfl ?_
      refine aw_iald dX11_mirror_133 134 rfl at_92 (al_92 _) (ok_92 (by decide)) (fun h12 => ?_)
      refine aw_iast dX11_mirror_134 135 rfl at_92 (al_92 _) (ok_92 (by decide)) (fun h13 => ?_)
      refine aw_ltm (fun u10 => ?_)
      refine aw_iconst (x := 0) dX11_mirror_135 136 rfl rfl ?_
      refine aw_istore dX11_mirror_136 138 rfl [(5, .int 0), (4, .int x7), (0, .ref (q_ad G 11 0)), (1, .int x1), (3, .int x5)] (by decide) rfl ?_
      refine aw_conv [2, 3, 4, 1, 0] rfl (TL_X11_mirror_138 l G x1 x5 x7  _ ?_ _ 0 u10)
      · intro u13
        refine aw_aload_n (i := 0) dX11_mirror_185 186 rfl rfl 0 rfl ?_
        refine gf_X11_34 dX11_mirror_186 189 rfl wd_270 (ok_11 (by decide)) ?_
        refine aw_bipush (x := 96) dX11_mirror_189 191 rfl rfl ?_
        refine aw_iload_n (i := 1) dX11_mirror_191 192 rfl rfl 1 rfl ?_
        refine aw_imul dX11_mirror_192 193 rfl ?_
        refine aw_iconst (x := 2) dX11_mirror_193 194 rfl rfl ?_
        refine aw_iload (i := 4) dX11_mirror_194 196 rfl 3 rfl ?_
        refine aw_imul dX11_mirror_196 197 rfl ?_
        refine aw_iadd dX11_mirror_197 198 rfl ?_
        refine aw_iconst (x := 1) dX11_mirror_198 199 rfl rfl ?_
        refine aw_iadd dX11_mirror_199 200 rfl ?_
        refine aw_aload_n (i := 0) dX11_mirror_200 201 rfl rfl 0 rfl ?_
        refine gf_X11_34 dX11_mirror_201 204 rfl wd_270 (ok_11 (by decide)) ?_
        refine aw_sipush (x := 576) dX11_mirror_204 207 rfl rfl ?_
        refine aw_iconst (x := 2) dX11_mirror_207 208 rfl rfl ?_
        refine aw_iload_n (i := 3) dX11_mirror_208 209 rfl rfl 2 rfl ?_
        refine aw_imul dX11_mirror_209 210 rfl ?_
        refine aw_iadd dX11_mirror_210 211 rfl ?_
        refine aw_iconst (x := 1) dX11_mirror_211 212 rfl rfl ?_
        refine aw_iadd dX11_mirror_212 213 rfl ?_
        refine aw_iald dX11_mirror_213 214 rfl at_94 (al_94 _) (ok_94 (by decide)) (fun h17 => ?_)
        refine aw_iast dX11_mirror_214 215 rfl at_94 (al_94 _) (ok_94 (by decide)) (fun h18 => ?_)
        refine aw_ltm (fun u14 => ?_)
        refine aw_aload_n (i := 0) dX11_mirror_215 216 rfl rfl 0 rfl ?_
        refine gf_X11_35 dX11_mirror_216 219 rfl wd_271 (ok_11 (by decide)) ?_
        refine aw_bipush (x := 96) dX11_mirror_219 221 rfl rfl ?_
        refine aw_iload_n (i := 1) dX11_mirror_221 222 rfl rfl 1 rfl ?_
        refine aw_imul dX11_mirror_222 223 rfl ?_
        refine aw_iconst (x := 2) dX11_mirror_223 224 rfl rfl ?_
        refine aw_iload (i := 4) dX11_mirror_224 226 rfl 3 rfl ?_
        refine aw_imul dX11_mirror_226 227 rfl ?_
        refine aw_iadd dX11_mirror_227 228 rfl ?_
        refine aw_iconst (x := 1) dX11_mirror_228 229 rfl rfl ?_
        refine aw_iadd dX11_mirror_229 230 rfl ?_
        refine aw_aload_n (i := 0) dX11_mirror_230 231 rfl rfl 0 rfl ?_
        refine gf_X11_35 dX11_mirror_231 234 rfl wd_271 (ok_11 (by decide)) ?_
        refine aw_sipush (x := 576) dX11_mirror_234 237 rfl rfl ?_
        refine aw_iconst (x := 2) dX11_mirror_237 238 rfl rfl ?_
        refine aw_iload_n (i := 3) dX11_mirror_238 239 rfl rfl 2 rfl ?_
        refine aw_imul dX11_mirror_239 240 rfl ?_
        refine aw_iadd dX11_mirror_240 241 rfl ?_
        refine aw_iconst (x := 1) dX11_mirror_241 242 rfl rfl ?_
        refine aw_iadd dX11_mirror_242 243 rfl ?_
        refine aw_zald dX11_mirror_243 244 rfl at_95 (al_95 _) (ok_95 (by decide)) (fun h19 => ?_)
        refine aw_zast dX11_mirror_244 245 rfl at_95 (al_95 _) (ok_95 (by decide)) (fun h20 => ?_)
        refine aw_ltm (fun u15 => ?_)
        refine aw_iload_n (i := 3) dX11_mirror_245 246 rfl rfl 2 rfl ?_
        refine aw_aload_n (i := 0) dX11_mirror_246 247 rfl rfl 0 rfl ?_
        refine gf_X11_15 dX11_mirror_247 250 rfl wd_246 (ok_11 (by decide)) ?_
        refine aw_iload_n (i := 1) dX11_mirror_250 251 rfl rfl 1 rfl ?_
        refine aw_iald dX11_mirror_251 252 rfl at_75 (al_75 _) (ok_75 (by decide)) (fun h21 => ?_)
        refine aw_ck (fun h22 => ?_)
        refine aw_irem dX11_mirror_252 253 rfl (of_decide_eq_true h22) ?_
        refine aw_iconst (x := 1) dX11_mirror_253 254 rfl rfl ?_
        refine aw_iadd dX11_mirror_254 255 rfl ?_
        refine aw_aload_n (i := 0) dX11_mirror_255 256 rfl rfl 0 rfl ?_
        refine gf_X11_15 dX11_mirror_256 259 rfl wd_246 (ok_11 (by decide)) ?_
        refine aw_iload_n (i := 1) dX11_mirror_259 260 rfl rfl 1 rfl ?_
        refine aw_iald dX11_mirror_260 261 rfl at_75 (al_75 _) (ok_75 (by decide)) (fun h23 => ?_)
        refine aw_jn (fun k => ∀  (u16 : qM), qAW l G m_X11_mirror (q_mq G q_cI) 321 [(0, .ref (q_ad G 11 0)), (1, .int x1), (3, .int x5)] [] u16 (k u16)) ?_ ?_
        · intro u16
          refine aw_iincx (i := 3) dX11_mirror_321 324 rfl 2 rfl 1 rfl (fun x10 => [(3, .int x10), (0, .ref (q_ad G 11 0)), (1, .int x1)]) (by decide) (fun _ => rfl) (fun x10 => ?_)
          refine aw_goto dX11_mirror_324 74 rfl ?_
          exact aw_conv [1, 2, 0] rfl (ih x10 u16)
        · intro j2 hj2
          refine aw_icmp_ge dX11_mirror_261 264 rfl 321 rfl (fun h24 => ?_) (fun h24 => ?_)
          · exact aw_conv [0, 1, 2] rfl (hj2 u15)
          · refine aw_aload_n (i := 0) dX11_mirror_264 265 rfl rfl 0 rfl ?_
            refine gf_X11_34 dX11_mirror_265 268 rfl wd_270 (ok_11 (by decide)) ?_
            refine aw_bipush (x := 96) dX11_mirror_268 270 rfl rfl ?_
            refine aw_iload_n (i := 1) dX11_mirror_270 271 rfl rfl 1 rfl ?_
            refine aw_imul dX11_mirror_271 272 rfl ?_
            refine aw_iconst (x := 2) dX11_mirror_272 273 rfl rfl ?_
            refine aw_iload (i := 4) dX11_mirror_273 275 rfl 3 rfl ?_
            refine aw_imul dX11_mirror_275 276 rfl ?_
            refine aw_iadd dX11_mirror_276 277 rfl ?_
            refine aw_iconst (x := 2) dX11_mirror_277 278 rfl rfl ?_
            refine aw_isub dX11_mirror_278 279 rfl ?_
            refine aw_aload_n (i := 0) dX11_mirror_279 280 rfl rfl 0 rfl ?_
            refine gf_X11_34 dX11_mirror_280 283 rfl wd_270 (ok_11 (by decide)) ?_
            refine aw_sipush (x := 576) dX11_mirror_283 286 rfl rfl ?_
            refine aw_iconst (x := 2) dX11_mirror_286 287 rfl rfl ?_
            refine aw_iload_n (i := 3) dX11_mirror_287 288 rfl rfl 2 rfl ?_
            refine aw_imul dX11_mirror_288 289 rfl ?_
            refine aw_iadd dX11_mirror_289 290 rfl ?_
            refine aw_iald dX11_mirror_290 291 rfl at_94 (al_94 _) (ok_94 (by decide)) (fun h25 => ?_)
            refine aw_ineg dX11_mirror_291 292 rfl ?_
            refine aw_iast dX11_mirror_292 293 rfl at_94 (al_94 _) (ok_94 (by decide)) (fun h26 => ?_)
            refine aw_ltm (fun u17 => ?_)
            refine aw_aload_n (i := 0) dX11_mirror_293 294 rfl rfl 0 rfl ?_
            refine gf_X11_35 dX11_mirror_294 297 rfl wd_271 (ok_11 (by decide)) ?_
            refine aw_bipush (x := 96) dX11_mirror_297 299 rfl rfl ?_
            refine aw_iload_n (i := 1) dX11_mirror_299 300 rfl rfl 1 rfl ?_
            refine aw_imul dX11_mirror_300 301 rfl ?_
            refine aw_iconst (x := 2) dX11_mirror_301 302 rfl rfl ?_
            refine aw_iload (i := 4) dX11_mirror_302 304 rfl 3 rfl ?_
            refine aw_imul dX11_mirror_304 305 rfl ?_
            refine aw_iadd dX11_mirror_305 306 rfl ?_
            refine aw_iconst (x := 2) dX11_mirror_306 307 rfl rfl ?_
            refine aw_isub dX11_mirror_307 308 rfl ?_
            refine aw_aload_n (i := 0) dX11_mirror_308 309 rfl rfl 0 rfl ?_
            refine gf_X11_35 dX11_mirror_309 312 rfl wd_271 (ok_11 (by decide)) ?_
            refine aw_sipush (x := 576) dX11_mirror_312 315 rfl rfl ?_
            refine aw_iconst (x := 2) dX11_mirror_315 316 rfl rfl ?_
            refine aw_iload_n (i := 3) dX11_mirror_316 317 rfl rfl 2 rfl ?_
            refine aw_imul dX11_mirror_317 318 rfl ?_
            refine aw_iadd dX11_mirror_318 319 rfl ?_
            refine aw_zald dX11_mirror_319 320 rfl at_95 (al_95 _) (ok_95 (by decide)) (fun h27 => ?_)
            refine aw_zast dX11_mirror_320 321 rfl at_95 (al_95 _) (ok_95 (by decide)) (fun h28 => ?_)
            refine aw_ltm (fun u18 => ?_)
            exact aw_conv [0, 1, 2] rfl (hj2 u18)
set_option maxRecDepth 100000 in
set_option maxHeartbeats 4000000 in
theorem TL_X11_mirror_351 (l : Launch) (G : qG) (x1 : Int32)  (e1 : qM → Option (Int32 × qM)) (he1 : ∀  (v : qM), qAW l G m_X11_mirror (q_mq G q_cI) 392 [(0, .ref (q_ad G 11 0)), (1, .int x1)] [] v (e1 v)) : ∀ (n : Nat) (x11 : Int32) (u22 : qM), qAW l G m_X11_mirror (q_mq G q_cI) 351 [(0, .ref (q_ad G 11 0)), (1, .int x1), (3, .int x11)] [] u22 (L_X11_mirror_351 x1 n x11 u22 e1) := by
  intro n
  induction n with
  | zero => intros; exact aw_none
  | succ n ih =>
    intro x11 u22
    unfold L_X11_mirror_351
    refine aw_iload_n (i := 3) dX11_mirror_351 352 rfl rfl 2 rfl ?_
    refine aw_aload_n (i := 0) dX11_mirror_352 353 rfl rfl 0 rfl ?_
    refine gf_X11_26 dX11_mirror_353 356 rfl wd_265 (ok_11 (by decide)) ?_
    refine aw_iload_n (i := 1) dX11_mirror_356 357 rfl rfl 1 rfl ?_
    refine aw_iald dX11_mirror_357 358 rfl at_86 (al_86 _) (ok_86 (by decide)) (fun h32 => ?_)
    refine aw_icmp_ge dX11_mirror_358 361 rfl 392 rfl (fun h33 => ?_) (fun h33 => ?_)
    · exact aw_conv [0, 1] rfl (he1 u22)
    · refine aw_aload_n (i := 0) dX11_mirror_361 362 rfl rfl 0 rfl ?_
      refine gf_X11_27 dX11_mirror_362 365 rfl wd_279 (ok_11 (by decide)) ?_
      refine aw_iconst (x := 4) dX11_mirror_365 366 rfl rfl ?_
      refine aw_iload_n (i := 1) dX11_mirror_366 367 rfl rfl 1 rfl ?_
      refine aw_imul dX11_mirror_367 368 rfl ?_
      refine aw_iload_n (i := 3) dX11_mirror_368 369 rfl rfl 2 rfl ?_
      refine aw_iadd dX11_mirror_369 370 rfl ?_
      refine aw_aload_n (i := 0) dX11_mirror_370 371 rfl rfl 0 rfl ?_
      refine aw_iload_n (i := 1) dX11_mirror_371 372 rfl rfl 1 rfl ?_
      refine aw_aload_n (i := 0) dX11_mirror_372 373 rfl rfl 0 rfl ?_
      refine gf_X11_27 dX11_mirror_373 376 rfl wd_279 (ok_11 (by decide)) ?_
      refine aw_iconst (x := 4) dX11_mirror_376 377 rfl rfl ?_
      refine aw_iload_n (i := 1) dX11_mirror_377 378 rfl rfl 1 rfl ?_
      refine aw_imul dX11_mirror_378 379 rfl ?_
      refine aw_iload_n (i := 3) dX11_mirror_379 380 rfl rfl 2 rfl ?_
      refine aw_iadd dX11_mirror_380 381 rfl ?_
      refine aw_iald dX11_mirror_381 382 rfl at_87 (al_87 _) (ok_87 (by decide)) (fun h34 => ?_)
      refine aw_callV (M2 := m_X11_turned) (cv := q_cI) dX11_mirror_382 385 rfl (k_X11_turned l G x1 (u22.1 87 0 (Int32.toNatClampNeg ((4 * x1) + x11)))  u22) wd_308 wv_X11_turned pk_X11_turned rfl rfl ⟨by decide, by decide⟩ ⟨Nat.zero_le _, Nat.zero_le _⟩ at_11 (ok_11 (by decide)) rfl rfl rfl (Nat.le_of_ble_eq_true rfl) (fun x12 u23 => ?_)
      show qAW l G m_X11_mirror (q_mq G q_cI) 385 [(0, .ref (q_ad G 11 0)), (1, .int x1), (3, .int x11)] [.int x12, .int ((4 * x1) + x11), .ref (q_ad G 87 0)] u23 _
      refine aw_iast dX11_mirror_385 386 rfl at_87 (al_87 _) (ok_87 (by decide)) (fun h35 => ?_)
      refine aw_ltm (fun u24 => ?_)
      refine aw_iincx (i := 3) dX11_mirror_386 389 rfl 2 rfl 1 rfl (fun x13 => [(3, .int x13), (0, .ref (q_ad G 11 0)), (1, .int x1)]) (by decide) (fun _ => rfl) (fun x13 => ?_)
      refine aw_goto dX11_mirror_389 351 rfl ?_
      exact aw_conv [1, 2, 0] rfl (ih x13 u24)
set_option maxRecDepth 100000 in
set_option maxHeartbeats 4000000 in
theorem TL_X11_mirror_394 (l : Launch) (G : qG) (x1 : Int32)  (e1 : qM → Option (Int32 × qM)) (he1 : ∀  (v : qM), qAW l G m_X11_mirror (q_mq G q_cI) 478 [] [] v (e1 v)) : ∀ (n : Nat) (x14 : Int32) (u26 : qM), qAW l G m_X11_mirror (q_mq G q_cI) 394 [(0, .ref (q_ad G 11 0)), (1, .int x1), (3, .int x14)] [] u26 (L_X11_mirror_394 x1 n x14 u26 e1) := by
  intro n
  induction n with
  | zero => intros; exact aw_none
  | succ n ih =>
    intro x14 u26
    unfold L_X11_mirror_394
    refine aw_iload_n (i := 3) dX11_mirror_394 395 rfl rfl 2 rfl ?_
    refine aw_bipush (x := 8) dX11_mirror_395 397 rfl rfl ?_
    refine aw_icmp_ge dX11_mirror_397 400 rfl 478 rfl (fun h36 => ?_) (fun h36 => ?_)
    · exact aw_conv [] rfl (he1 u26)
    · refine aw_aload_n (i := 0) dX11_mirror_400 401 rfl rfl 0 rfl ?_
      refine gf_X11_46 dX11_mirror_401 404 rfl wd_295 (ok_11 (by decide)) ?_
      refine aw_iload_n (i := 3) dX11_mirror_404 405 rfl rfl 2 rfl ?_
      refine aw_aload_n (i := 0) dX11_mirror_405 406 rfl rfl 0 rfl ?_
      refine gf_X11_45 dX11_mirror_406 409 rfl wd_254 (ok_11 (by decide)) ?_
      refine aw_iload_n (i := 3) dX11_mirror_409 410 rfl rfl 2 rfl ?_
      refine aw_iald dX11_mirror_410 411 rfl at_105 (al_105 _) (ok_105 (by decide)) (fun h37 => ?_)
      refine aw_iload_n (i := 1) dX11_mirror_411 412 rfl rfl 1 rfl ?_
      refine aw_jn (fun k => ∀ (x15 : Int32) (u27 : qM), qAW l G m_X11_mirror (q_mq G q_cI) 435 [(0, .ref (q_ad G 11 0)), (1, .int x1), (3, .int x14)] [.int x15, .int x14, .ref (q_ad G 106 0)] u27 (k x15 u27)) ?_ ?_
      · intro x15 u27
        refine aw_iast dX11_mirror_435 436 rfl at_106 (al_106 _) (ok_106 (by decide)) (fun h39 => ?_)
        refine aw_ltm (fun u28 => ?_)
        refine aw_aload_n (i := 0) dX11_mirror_436 437 rfl rfl 0 rfl ?_
        refine gf_X11_49 dX11_mirror_437 440 rfl wd_298 (ok_11 (by decide)) ?_
        refine aw_iload_n (i := 3) dX11_mirror_440 441 rfl rfl 2 rfl ?_
        refine aw_aload_n (i := 0) dX11_mirror_441 442 rfl rfl 0 rfl ?_
        refine gf_X11_48 dX11_mirror_442 445 rfl wd_255 (ok_11 (by decide)) ?_
        refine aw_iload_n (i := 3) dX11_mirror_445 446 rfl rfl 2 rfl ?_
        refine aw_iald dX11_mirror_446 447 rfl at_108 (al_108 _) (ok_108 (by decide)) (fun h40 => ?_)
        refine aw_iload_n (i := 1) dX11_mirror_447 448 rfl rfl 1 rfl ?_
        refine aw_jn (fun k => ∀ (x16 : Int32) (u29 : qM), qAW l G m_X11_mirror (q_mq G q_cI) 471 [(0, .ref (q_ad G 11 0)), (1, .int x1), (3, .int x14)] [.int x16, .int x14, .ref (q_ad G 109 0)] u29 (k x16 u29)) ?_ ?_
        · intro x16 u29
          refine aw_iast dX11_mirror_471 472 rfl at_109 (al_109 _) (ok_109 (by decide)) (fun h42 => ?_)
          refine aw_ltm (fun u30 => ?_)
          refine aw_iincx (i := 3) dX11_mirror_472 475 rfl 2 rfl 1 rfl (fun x17 => [(3, .int x17), (0, .ref (q_ad G 11 0)), (1, .int x1)]) (by decide) (fun _ => rfl) (fun x17 => ?_)
          refine aw_goto dX11_mirror_475 394 rfl ?_
          exact aw_conv [1, 2, 0] rfl (ih x17 u30)
        · intro j4 hj4
          refine aw_icmp_ne dX11_mirror_448 451 rfl 465 rfl (fun h41 => ?_) (fun h41 => ?_)
          · refine aw_aload_n (i := 0) dX11_mirror_465 466 rfl rfl 0 rfl ?_
            refine gf_X11_49 dX11_mirror_466 469 rfl wd_298 (ok_11 (by decide)) ?_
            refine aw_iload_n (i := 3) dX11_mirror_469 470 rfl rfl 2 rfl ?_
            refine aw_iald dX11_mirror_470 471 rfl at_109 (al_109 _) (ok_109 (by decide)) (fun h43 => ?_)
            exact hj4 (u28.1 109 0 (Int32.toNatClampNeg x14)) u28
          · refine aw_aload_n (i := 0) dX11_mirror_451 452 rfl rfl 0 rfl ?_
            refine aw_iload_n (i := 1) dX11_mirror_452 453 rfl rfl 1 rfl ?_
            refine aw_aload_n (i := 0) dX11_mirror_453 454 rfl rfl 0 rfl ?_
            refine gf_X11_49 dX11_mirror_454 457 rfl wd_298 (ok_11 (by decide)) ?_
            refine aw_iload_n (i := 3) dX11_mirror_457 458 rfl rfl 2 rfl ?_
            refine aw_iald dX11_mirror_458 459 rfl at_109 (al_109 _) (ok_109 (by decide)) (fun h44 => ?_)
            refine aw_callV (M2 := m_X11_turned) (cv := q_cI) dX11_mirror_459 462 rfl (k_X11_turned l G x1 (u28.1 109 0 (Int32.toNatClampNeg x14))  u28) wd_308 wv_X11_turned pk_X11_turned rfl rfl ⟨by decide, by decide⟩ ⟨Nat.zero_le _, Nat.zero_le _⟩ at_11 (ok_11 (by decide)) rfl rfl rfl (Nat.le_of_ble_eq_true rfl) (fun x18 u31 => ?_)
            show qAW l G m_X11_mirror (q_mq G q_cI) 462 [(0, .ref (q_ad G 11 0)), (1, .int x1), (3, .int x14)] [.int x18, .int x14, .ref (q_ad G 109 0)] u31 _
            refine aw_goto dX11_mirror_462 471 rfl ?_
            exact hj4 x18 u31
      · intro j3 hj3
        refine aw_icmp_ne dX11_mirror_412 415 rfl 429 rfl (fun h38 => ?_) (fun h38 => ?_)
        · refine aw_aload_n (i := 0) dX11_mirror_429 430 rfl rfl 0 rfl ?_
          refine gf_X11_46 dX11_mirror_430 433 rfl wd_295 (ok_11 (by decide)) ?_
          refine aw_iload_n (i := 3) dX11_mirror_433 434 rfl rfl 2 rfl ?_
          refine aw_iald dX11_mirror_434 435 rfl at_106 (al_106 _) (ok_106 (by decide)) (fun h45 => ?_)
          exact hj3 (u26.1 106 0 (Int32.toNatClampNeg x14)) u26
        · refine aw_aload_n (i := 0) dX11_mirror_415 416 rfl rfl 0 rfl ?_
          refine aw_iload_n (i := 1) dX11_mirror_416 417 rfl rfl 1 rfl ?_
          refine aw_aload_n (i := 0) dX11_mirror_417 418 rfl rfl 0 rfl ?_
          refine gf_X11_46 dX11_mirror_418 421 rfl wd_295 (ok_11 (by decide)) ?_
          refine aw_iload_n (i := 3) dX11_mirror_421 422 rfl rfl 2 rfl ?_
          refine aw_iald dX11_mirror_422 423 rfl at_106 (al_106 _) (ok_106 (by decide)) (fun h46 => ?_)
          refine aw_callV (M2 := m_X11_turned) (cv := q_cI) dX11_mirror_423 426 rfl (k_X11_turned l G x1 (u26.1 106 0 (Int32.toNatClampNeg x14))  u26) wd_308 wv_X11_turned pk_X11_turned rfl rfl ⟨by decide, by decide⟩ ⟨Nat.zero_le _, Nat.zero_le _⟩ at_11 (ok_11 (by decide)) rfl rfl rfl (Nat.le_of_ble_eq_true rfl) (fun x19 u32 => ?_)
          show qAW l G m_X11_mirror (q_mq G q_cI) 426 [(0, .ref (q_ad G 11 0)), (1, .int x1), (3, .int x14)] [.int x19, .int x14, .ref (q_ad G 106 0)] u32 _
          refine aw_goto dX11_mirror_426 435 rfl ?_
          exact hj3 x19 u32
set_option maxRecDepth 100000 in
set_option maxHeartbeats 4000000 in
theorem k_X11_mirror (l : Launch) (G : qG) (x1 : Int32)  (u0 : qM) : qCt l G m_X11_mirror q_cI [.ref (q_ad G 11 0), .int x1] u0 (f_X11_mirror x1 u0) := by
  refine q_entry pk_X11_mirror (Nat.le_of_ble_eq_true rfl) ?_
  show qAW l G m_X11_mirror (q_mq G q_cI) 0 [(0, .ref (q_ad G 11 0)), (1, .int x1)] [] u0 (f_X11_mirror x1 u0)
  unfold f_X11_mirror
  refine aw_aload_n (i := 0) dX11_mirror_0 1 rfl rfl 0 rfl ?_
  refine aw_iload_n (i := 1) dX11_mirror_1 2 rfl rfl 1 rfl ?_
  refine aw_callV (M2 := m_X11_askedFor) (cv := q_cI) dX11_mirror_2 5 rfl (k_X11_askedFor l G x1  u0) wd_274 wv_X11_askedFor pk_X11_askedFor rfl rfl ⟨by decide, by decide⟩ ⟨Nat.zero_le _, Nat.zero_le _⟩ at_11 (ok_11 (by decide)) rfl rfl rfl (Nat.le_of_ble_eq_true rfl) (fun x2 u1 => ?_)
  show qAW l G m_X11_mirror (q_mq G q_cI) 5 [(0, .ref (q_ad G 11 0)), (1, .int x1)] [.int x2] u1 _
  refine aw_istore_n dX11_mirror_5 6 rfl rfl [(2, .int x2), (0, .ref (q_ad G 11 0)), (1, .int x1)] (by decide) rfl ?_
  refine aw_iload_n (i := 2) dX11_mirror_6 7 rfl rfl 0 rfl ?_
  refine aw_if_ge dX11_mirror_7 10 rfl 12 rfl (fun h1 => ?_) (fun h1 => ?_)
  · refine aw_aload_n (i := 0) dX11_mirror_12 13 rfl rfl 1 rfl ?_
    refine gf_X11_14 dX11_mirror_13 16 rfl wd_250 (ok_11 (by decide)) ?_
    refine aw_iload_n (i := 1) dX11_mirror_16 17 rfl rfl 2 rfl ?_
    refine aw_iald dX11_mirror_17 18 rfl at_74 (al_74 _) (ok_74 (by decide)) (fun h2 => ?_)
    refine aw_iconst (x := 2) dX11_mirror_18 19 rfl rfl ?_
    refine aw_icmp_ne dX11_mirror_19 22 rfl 28 rfl (fun h3 => ?_) (fun h3 => ?_)
    · refine aw_iconst (x := 0) dX11_mirror_28 29 rfl rfl ?_
      refine aw_istore_n dX11_mirror_29 30 rfl rfl [(3, .int 0), (2, .int x2), (0, .ref (q_ad G 11 0)), (1, .int x1)] (by decide) rfl ?_
      refine aw_conv [2, 3, 0] rfl (TL_X11_mirror_30 l G x1  _ _ ?_ ?_ _ 0 u1)
      · intro u4
        refine aw_aload_n (i := 0) dX11_mirror_65 66 rfl rfl 0 rfl ?_
        refine aw_iload_n (i := 1) dX11_mirror_66 67 rfl rfl 1 rfl ?_
        refine aw_bipush (x := 6) dX11_mirror_67 69 rfl rfl ?_
        refine aw_callV (M2 := m_X11_bring) (cv := q_cU) dX11_mirror_69 72 rfl (k_X11_bring l G x1 6  u4) wd_307 wv_X11_bring pk_X11_bring rfl rfl ⟨by decide, by decide⟩ ⟨Nat.zero_le _, Nat.zero_le _⟩ at_11 (ok_11 (by decide)) rfl rfl rfl (Nat.le_of_ble_eq_true rfl) (fun _z u5 => ?_)
        show qAW l G m_X11_mirror (q_mq G q_cI) 72 [(0, .ref (q_ad G 11 0)), (1, .int x1)] [] u5 _
        refine aw_iconst (x := 0) dX11_mirror_72 73 rfl rfl ?_
        refine aw_istore_n dX11_mirror_73 74 rfl rfl [(3, .int 0), (0, .ref (q_ad G 11 0)), (1, .int x1)] (by decide) rfl ?_
        refine aw_conv [1, 2, 0] rfl (TL_X11_mirror_74 l G x1  _ ?_ _ 0 u5)
        · intro u19
          refine aw_aload_n (i := 0) dX11_mirror_327 328 rfl rfl 0 rfl ?_
          refine gf_X11_14 dX11_mirror_328 331 rfl wd_250 (ok_11 (by decide)) ?_
          refine aw_bipush (x := 6) dX11_mirror_331 333 rfl rfl ?_
          refine aw_bipush (x := (-9)) dX11_mirror_333 335 rfl rfl ?_
          refine aw_iast dX11_mirror_335 336 rfl at_74 (al_74 _) (ok_74 (by decide)) (fun h29 => ?_)
          refine aw_ltm (fun u20 => ?_)
          refine aw_aload_n (i := 0) dX11_mirror_336 337 rfl rfl 0 rfl ?_
          refine gf_X11_19 dX11_mirror_337 340 rfl wd_258 (ok_11 (by decide)) ?_
          refine aw_iload_n (i := 1) dX11_mirror_340 341 rfl rfl 1 rfl ?_
          refine aw_aload_n (i := 0) dX11_mirror_341 342 rfl rfl 0 rfl ?_
          refine gf_X11_19 dX11_mirror_342 345 rfl wd_258 (ok_11 (by decide)) ?_
          refine aw_iload_n (i := 1) dX11_mirror_345 346 rfl rfl 1 rfl ?_
          refine aw_iald dX11_mirror_346 347 rfl at_79 (al_79 _) (ok_79 (by decide)) (fun h30 => ?_)
          refine aw_ineg dX11_mirror_347 348 rfl ?_
          refine aw_iast dX11_mirror_348 349 rfl at_79 (al_79 _) (ok_79 (by decide)) (fun h31 => ?_)
          refine aw_ltm (fun u21 => ?_)
          refine aw_iconst (x := 0) dX11_mirror_349 350 rfl rfl ?_
          refine aw_istore_n dX11_mirror_350 351 rfl rfl [(3, .int 0), (0, .ref (q_ad G 11 0)), (1, .int x1)] (by decide) rfl ?_
          refine aw_conv [1, 2, 0] rfl (TL_X11_mirror_351 l G x1  _ ?_ _ 0 u21)
          · intro u25
            refine aw_iconst (x := 0) dX11_mirror_392 393 rfl rfl ?_
            refine aw_istore_n dX11_mirror_393 394 rfl rfl [(3, .int 0), (0, .ref (q_ad G 11 0)), (1, .int x1)] (by decide) rfl ?_
            refine aw_conv [1, 2, 0] rfl (TL_X11_mirror_394 l G x1  _ ?_ _ 0 u25)
            · intro u33
              refine aw_iconst (x := 1) dX11_mirror_478 479 rfl rfl ?_
              exact aw_iret dX11_mirror_479 rfl
      · intro u34
        refine aw_bipush (x := (-4)) dX11_mirror_56 58 rfl rfl ?_
        exact aw_iret dX11_mirror_58 rfl
    · refine aw_aload_n (i := 0) dX11_mirror_22 23 rfl rfl 1 rfl ?_
      refine aw_iconst (x := 3) dX11_mirror_23 24 rfl rfl ?_
      refine aw_callV (M2 := m_X11_meets) (cv := q_cI) dX11_mirror_24 27 rfl (k_X11_meets l G 3  u1) wd_229 wv_X11_meets pk_X11_meets rfl rfl ⟨by decide, by decide⟩ ⟨Nat.zero_le _, Nat.zero_le _⟩ at_11 (ok_11 (by decide)) rfl rfl rfl (Nat.le_of_ble_eq_true rfl) (fun x20 u35 => ?_)
      show qAW l G m_X11_mirror (q_mq G q_cI) 27 [(2, .int x2), (0, .ref (q_ad G 11 0)), (1, .int x1)] [.int x20] u35 _
      exact aw_iret dX11_mirror_27 rfl
  · refine aw_iload_n (i := 2) dX11_mirror_10 11 rfl rfl 0 rfl ?_
    exact aw_iret dX11_mirror_11 rfl
theorem dX11_isEight_0 : decode cX11_isEight 0 = .ok (.iload_n 0, 1) := by decide +kernel
theorem dX11_isEight_1 : decode cX11_isEight 1 = .ok (.iconst 0, 1) := by decide +kernel
theorem dX11_isEight_2 : decode cX11_isEight 2 = .ok (.bipush 7, 2) := by decide +kernel
theorem dX11_isEight_4 : decode cX11_isEight 4 = .ok (.invokestatic 182, 3) := by decide +kernel
theorem dX11_isEight_7 : decode cX11_isEight 7 = .ok (.ireturn, 1) := by decide +kernel
noncomputable def f_X11_isEight (x1 : Int32) (u0 : qM) : Option (Int32 × qM) :=
  q_bd (f_X11_in x1 0 7 u0) (fun (x2 : Int32) (u1 : qM) => q_ck (q_b x2) (some (x2, u1)))
set_option maxRecDepth 100000 in
set_option maxHeartbeats 4000000 in
theorem k_X11_isEight (l : Launch) (G : qG) (x1 : Int32)  (u0 : qM) : qCt l G m_X11_isEight q_cI [.int x1] u0 (f_X11_isEight x1 u0) := by
  refine q_entry pk_X11_isEight (Nat.le_of_ble_eq_true rfl) ?_
  show qAW l G m_X11_isEight (q_mq G q_cI) 0 [(0, .int x1)] [] u0 (f_X11_isEight x1 u0)
  unfold f_X11_isEight
  refine aw_iload_n (i := 0) dX11_isEight_0 1 rfl rfl 0 rfl ?_
  refine aw_iconst (x := 0) dX11_isEight_1 2 rfl rfl ?_
  refine aw_bipush (x := 7) dX11_isEight_2 4 rfl rfl ?_
  refine aw_callS (M2 := m_X11_in) (cv := q_cI) dX11_isEight_4 7 rfl (k_X11_in l G x1 0 7  u0) wd_226 wv_X11_in pk_X11_in rfl ⟨by decide, by decide⟩ ⟨Nat.zero_le _, Nat.zero_le _⟩ rfl (Nat.le_of_ble_eq_true rfl) (fun x2 u1 => ?_)
  show qAW l G m_X11_isEight (q_mq G q_cI) 7 [(0, .int x1)] [.int x2] u1 _
  refine aw_ck (fun h1 => ?_)
  exact aw_zret dX11_isEight_7 rfl h1
theorem dX11_boat_0 : decode cX11_boat 0 = .ok (.iload_n 1, 1) := by decide +kernel
theorem dX11_boat_1 : decode cX11_boat 1 = .ok (.invokestatic 305, 3) := by decide +kernel
theorem dX11_boat_4 : decode cX11_boat 4 = .ok (.ifCond .eq 15, 3) := by decide +kernel
theorem dX11_boat_7 : decode cX11_boat 7 = .ok (.iload 4, 2) := by decide +kernel
theorem dX11_boat_9 : decode cX11_boat 9 = .ok (.iconst 1, 1) := by decide +kernel
theorem dX11_boat_10 : decode cX11_boat 10 = .ok (.sipush 1000, 3) := by decide +kernel
theorem dX11_boat_13 : decode cX11_boat 13 = .ok (.invokestatic 182, 3) := by decide +kernel
theorem dX11_boat_16 : decode cX11_boat 16 = .ok (.ifCond .ne 5, 3) := by decide +kernel
theorem dX11_boat_19 : decode cX11_boat 19 = .ok (.iconst (-1), 1) := by decide +kernel
theorem dX11_boat_20 : decode cX11_boat 20 = .ok (.ireturn, 1) := by decide +kernel
theorem dX11_boat_21 : decode cX11_boat 21 = .ok (.aload_n 0, 1) := by decide +kernel
theorem dX11_boat_22 : decode cX11_boat 22 = .ok (.iload_n 2, 1) := by decide +kernel
theorem dX11_boat_23 : decode cX11_boat 23 = .ok (.iload_n 3, 1) := by decide +kernel
theorem dX11_boat_24 : decode cX11_boat 24 = .ok (.invokevirtual 240, 3) := by decide +kernel
theorem dX11_boat_27 : decode cX11_boat 27 = .ok (.istore 5, 2) := by decide +kernel
theorem dX11_boat_29 : decode cX11_boat 29 = .ok (.iload 5, 2) := by decide +kernel
theorem dX11_boat_31 : decode cX11_boat 31 = .ok (.ifCond .ge 6, 3) := by decide +kernel
theorem dX11_boat_34 : decode cX11_boat 34 = .ok (.iload 5, 2) := by decide +kernel
theorem dX11_boat_36 : decode cX11_boat 36 = .ok (.ireturn, 1) := by decide +kernel
theorem dX11_boat_37 : decode cX11_boat 37 = .ok (.aload_n 0, 1) := by decide +kernel
theorem dX11_boat_38 : decode cX11_boat 38 = .ok (.getfield 132, 3) := by decide +kernel
theorem dX11_boat_41 : decode cX11_boat 41 = .ok (.iload_n 1, 1) := by decide +kernel
theorem dX11_boat_42 : decode cX11_boat 42 = .ok (.iaload, 1) := by decide +kernel
theorem dX11_boat_43 : decode cX11_boat 43 = .ok (.ifCond .ge 7, 3) := by decide +kernel
theorem dX11_boat_46 : decode cX11_boat 46 = .ok (.iconst 0, 1) := by decide +kernel
theorem dX11_boat_47 : decode cX11_boat 47 = .ok (.goto 4, 3) := by decide +kernel
theorem dX11_boat_50 : decode cX11_boat 50 = .ok (.iconst 1, 1) := by decide +kernel
theorem dX11_boat_51 : decode cX11_boat 51 = .ok (.istore 6, 2) := by decide +kernel
theorem dX11_boat_53 : decode cX11_boat 53 = .ok (.aload_n 0, 1) := by decide +kernel
theorem dX11_boat_54 : decode cX11_boat 54 = .ok (.getfield 132, 3) := by decide +kernel
theorem dX11_boat_57 : decode cX11_boat 57 = .ok (.iload_n 1, 1) := by decide +kernel
theorem dX11_boat_58 : decode cX11_boat 58 = .ok (.iload_n 2, 1) := by decide +kernel
theorem dX11_boat_59 : decode cX11_boat 59 = .ok (.iastore, 1) := by decide +kernel
theorem dX11_boat_60 : decode cX11_boat 60 = .ok (.aload_n 0, 1) := by decide +kernel
theorem dX11_boat_61 : decode cX11_boat 61 = .ok (.getfield 135, 3) := by decide +kernel
theorem dX11_boat_64 : decode cX11_boat 64 = .ok (.iload_n 1, 1) := by decide +kernel
theorem dX11_boat_65 : decode cX11_boat 65 = .ok (.iload_n 3, 1) := by decide +kernel
theorem dX11_boat_66 : decode cX11_boat 66 = .ok (.iastore, 1) := by decide +kernel
theorem dX11_boat_67 : decode cX11_boat 67 = .ok (.aload_n 0, 1) := by decide +kernel
theorem dX11_boat_68 : decode cX11_boat 68 = .ok (.getfield 138, 3) := by decide +kernel
theorem dX11_boat_71 : decode cX11_boat 71 = .ok (.iload_n 1, 1) := by decide +kernel
theorem dX11_boat_72 : decode cX11_boat 72 = .ok (.iload 4, 2) := by decide +kernel
theorem dX11_boat_74 : decode cX11_boat 74 = .ok (.iastore, 1) := by decide +kernel
theorem dX11_boat_75 : decode cX11_boat 75 = .ok (.iload 6, 2) := by decide +kernel
theorem dX11_boat_77 : decode cX11_boat 77 = .ok (.ireturn, 1) := by decide +kernel
noncomputable def f_X11_boat (x1 : Int32) (x2 : Int32) (x3 : Int32) (x4 : Int32) (u0 : qM) : Option (Int32 × qM) :=
  q_bd (f_X11_isEight x1 u0) (fun (x5 : Int32) (u1 : qM) => q_jn (fun  (u2 : qM) => some ((-1), u2)) (fun j1 => if x5 = 0 then j1 u1 else q_bd (f_X11_in x4 1 1000 u1) (fun (x6 : Int32) (u3 : qM) => if x6 = 0 then j1 u3 else q_bd (f_X11_askedCell x2 x3 u3) (fun (x7 : Int32) (u4 : qM) => if (0 : Int32) ≤ x7 then q_ck (q_in x1 8) (q_jn (fun (x8 : Int32) (u5 : qM) => q_ck (q_in x1 8) (q_lt (q_si u5 105 0 (Int32.toNatClampNeg x1) x2) (fun (u6 : qM) => q_ck (q_in x1 8) (q_lt (q_si u6 106 0 (Int32.toNatClampNeg x1) x3) (fun (u7 : qM) => q_ck (q_in x1 8) (q_lt (q_si u7 107 0 (Int32.toNatClampNeg x1) x4) (fun (u8 : qM) => some (x8, u8)))))))) (fun j2 => if (0 : Int32) ≤ (u4.1 105 0 (Int32.toNatClampNeg x1)) then j2 1 u4 else j2 0 u4)) else some (x7, u4)))))
set_option maxRecDepth 100000 in
set_option maxHeartbeats 4000000 in
theorem k_X11_boat (l : Launch) (G : qG) (x1 : Int32) (x2 : Int32) (x3 : Int32) (x4 : Int32)  (u0 : qM) : qCt l G m_X11_boat q_cI [.ref (q_ad G 11 0), .int x1, .int x2, .int x3, .int x4] u0 (f_X11_boat x1 x2 x3 x4 u0) := by
  refine q_entry pk_X11_boat (Nat.le_of_ble_eq_true rfl) ?_
  show qAW l G m_X11_boat (q_mq G q_cI) 0 [(0, .ref (q_ad G 11 0)), (1, .int x1), (2, .int x2), (3, .int x3), (4, .int x4)] [] u0 (f_X11_boat x1 x2 x3 x4 u0)
  unfold f_X11_boat
  refine aw_iload_n (i := 1) dX11_boat_0 1 rfl rfl 1 rfl ?_
  refine aw_callS (M2 := m_X11_isEight) (cv := q_cI) dX11_boat_1 4 rfl (k_X11_isEight l G x1  u0) wd_309 wv_X11_isEight pk_X11_isEight rfl ⟨by decide, by decide⟩ ⟨Nat.zero_le _, Nat.zero_le _⟩ rfl (Nat.le_of_ble_eq_true rfl) (fun x5 u1 => ?_)
  show qAW l G m_X11_boat (q_mq G q_cI) 4 [(0, .ref (q_ad G 11 0)), (1, .int x1), (2, .int x2), (3, .int x3), (4, .int x4)] [.int x5] u1 _
  refine aw_jn (fun k => ∀  (u2 : qM), qAW l G m_X11_boat (q_mq G q_cI) 19 [] [] u2 (k u2)) ?_ ?_
  · intro u2
    refine aw_iconst (x := (-1)) dX11_boat_19 20 rfl rfl ?_
    exact aw_iret dX11_boat_20 rfl
  · intro j1 hj1
    refine aw_if_eq dX11_boat_4 7 rfl 19 rfl (fun h1 => ?_) (fun h1 => ?_)
    · exact aw_conv [] rfl (hj1 u1)
    · refine aw_iload (i := 4) dX11_boat_7 9 rfl 4 rfl ?_
      refine aw_iconst (x := 1) dX11_boat_9 10 rfl rfl ?_
      refine aw_sipush (x := 1000) dX11_boat_10 13 rfl rfl ?_
      refine aw_callS (M2 := m_X11_in) (cv := q_cI) dX11_boat_13 16 rfl (k_X11_in l G x4 1 1000  u1) wd_226 wv_X11_in pk_X11_in rfl ⟨by decide, by decide⟩ ⟨Nat.zero_le _, Nat.zero_le _⟩ rfl (Nat.le_of_ble_eq_true rfl) (fun x6 u3 => ?_)
      show qAW l G m_X11_boat (q_mq G q_cI) 16 [(0, .ref (q_ad G 11 0)), (1, .int x1), (2, .int x2), (3, .int x3), (4, .int x4)] [.int x6] u3 _
      refine aw_if_ne dX11_boat_16 19 rfl 21 rfl (fun h2 => ?_) (fun h2 => ?_)
      · refine aw_aload_n (i := 0) dX11_boat_21 22 rfl rfl 0 rfl ?_
        refine aw_iload_n (i := 2) dX11_boat_22 23 rfl rfl 2 rfl ?_
        refine aw_iload_n (i := 3) dX11_boat_23 24 rfl rfl 3 rfl ?_
        refine aw_callV (M2 := m_X11_askedCell) (cv := q_cI) dX11_boat_24 27 rfl (k_X11_askedCell l G x2 x3  u3) wd_275 wv_X11_askedCell pk_X11_askedCell rfl rfl ⟨by decide, by decide⟩ ⟨Nat.zero_le _, Nat.zero_le _⟩ at_11 (ok_11 (by decide)) rfl rfl rfl (Nat.le_of_ble_eq_true rfl) (fun x7 u4 => ?_)
        show qAW l G m_X11_boat (q_mq G q_cI) 27 [(0, .ref (q_ad G 11 0)), (1, .int x1), (2, .int x2), (3, .int x3), (4, .int x4)] [.int x7] u4 _
        refine aw_istore dX11_boat_27 29 rfl [(5, .int x7), (0, .ref (q_ad G 11 0)), (1, .int x1), (2, .int x2), (3, .int x3), (4, .int x4)] (by decide) rfl ?_
        refine aw_iload (i := 5) dX11_boat_29 31 rfl 0 rfl ?_
        refine aw_if_ge dX11_boat_31 34 rfl 37 rfl (fun h3 => ?_) (fun h3 => ?_)
        · refine aw_aload_n (i := 0) dX11_boat_37 38 rfl rfl 1 rfl ?_
          refine gf_X11_45 dX11_boat_38 41 rfl wd_254 (ok_11 (by decide)) ?_
          refine aw_iload_n (i := 1) dX11_boat_41 42 rfl rfl 2 rfl ?_
          refine aw_iald dX11_boat_42 43 rfl at_105 (al_105 _) (ok_105 (by decide)) (fun h4 => ?_)
          refine aw_jn (fun k => ∀ (x8 : Int32) (u5 : qM), qAW l G m_X11_boat (q_mq G q_cI) 51 [(0, .ref (q_ad G 11 0)), (1, .int x1), (2, .int x2), (3, .int x3), (4, .int x4)] [.int x8] u5 (k x8 u5)) ?_ ?_
          · intro x8 u5
            refine aw_istore dX11_boat_51 53 rfl [(6, .int x8), (0, .ref (q_ad G 11 0)), (1, .int x1), (2, .int x2), (3, .int x3), (4, .int x4)] (by decide) rfl ?_
            refine aw_aload_n (i := 0) dX11_boat_53 54 rfl rfl 1 rfl ?_
            refine gf_X11_45 dX11_boat_54 57 rfl wd_254 (ok_11 (by decide)) ?_
            refine aw_iload_n (i := 1) dX11_boat_57 58 rfl rfl 2 rfl ?_
            refine aw_iload_n (i := 2) dX11_boat_58 59 rfl rfl 3 rfl ?_
            refine aw_iast dX11_boat_59 60 rfl at_105 (al_105 _) (ok_105 (by decide)) (fun h6 => ?_)
            refine aw_ltm (fun u6 => ?_)
            refine aw_aload_n (i := 0) dX11_boat_60 61 rfl rfl 1 rfl ?_
            refine gf_X11_46 dX11_boat_61 64 rfl wd_295 (ok_11 (by decide)) ?_
            refine aw_iload_n (i := 1) dX11_boat_64 65 rfl rfl 2 rfl ?_
            refine aw_iload_n (i := 3) dX11_boat_65 66 rfl rfl 4 rfl ?_
            refine aw_iast dX11_boat_66 67 rfl at_106 (al_106 _) (ok_106 (by decide)) (fun h7 => ?_)
            refine aw_ltm (fun u7 => ?_)
            refine aw_aload_n (i := 0) dX11_boat_67 68 rfl rfl 1 rfl ?_
            refine gf_X11_47 dX11_boat_68 71 rfl wd_296 (ok_11 (by decide)) ?_
            refine aw_iload_n (i := 1) dX11_boat_71 72 rfl rfl 2 rfl ?_
            refine aw_iload (i := 4) dX11_boat_72 74 rfl 5 rfl ?_
            refine aw_iast dX11_boat_74 75 rfl at_107 (al_107 _) (ok_107 (by decide)) (fun h8 => ?_)
            refine aw_ltm (fun u8 => ?_)
            refine aw_iload (i := 6) dX11_boat_75 77 rfl 0 rfl ?_
            exact aw_iret dX11_boat_77 rfl
          · intro j2 hj2
            refine aw_if_ge dX11_boat_43 46 rfl 50 rfl (fun h5 => ?_) (fun h5 => ?_)
            · refine aw_iconst (x := 1) dX11_boat_50 51 rfl rfl ?_
              exact aw_conv [1, 2, 3, 4, 5] rfl (hj2 1 u4)
            · refine aw_iconst (x := 0) dX11_boat_46 47 rfl rfl ?_
              refine aw_goto dX11_boat_47 51 rfl ?_
              exact aw_conv [1, 2, 3, 4, 5] rfl (hj2 0 u4)
        · refine aw_iload (i := 5) dX11_boat_34 36 rfl 0 rfl ?_
          exact aw_iret dX11_boat_36 rfl
      · exact aw_conv [] rfl (hj1 u3)
theorem dX11_where_0 : decode cX11_where 0 = .ok (.iload_n 1, 1) := by decide +kernel
theorem dX11_where_1 : decode cX11_where 1 = .ok (.invokestatic 305, 3) := by decide +kernel
theorem dX11_where_4 : decode cX11_where 4 = .ok (.ifCond .ne 7, 3) := by decide +kernel
theorem dX11_where_7 : decode cX11_where 7 = .ok (.iconst (-1), 1) := by decide +kernel
theorem dX11_where_8 : decode cX11_where 8 = .ok (.goto 23, 3) := by decide +kernel
theorem dX11_where_11 : decode cX11_where 11 = .ok (.aload_n 0, 1) := by decide +kernel
theorem dX11_where_12 : decode cX11_where 12 = .ok (.getfield 132, 3) := by decide +kernel
theorem dX11_where_15 : decode cX11_where 15 = .ok (.iload_n 1, 1) := by decide +kernel
theorem dX11_where_16 : decode cX11_where 16 = .ok (.iaload, 1) := by decide +kernel
theorem dX11_where_17 : decode cX11_where 17 = .ok (.ifCond .ge 8, 3) := by decide +kernel
theorem dX11_where_20 : decode cX11_where 20 = .ok (.bipush (-9), 2) := by decide +kernel
theorem dX11_where_22 : decode cX11_where 22 = .ok (.goto 9, 3) := by decide +kernel
theorem dX11_where_25 : decode cX11_where 25 = .ok (.aload_n 0, 1) := by decide +kernel
theorem dX11_where_26 : decode cX11_where 26 = .ok (.getfield 135, 3) := by decide +kernel
theorem dX11_where_29 : decode cX11_where 29 = .ok (.iload_n 1, 1) := by decide +kernel
theorem dX11_where_30 : decode cX11_where 30 = .ok (.iaload, 1) := by decide +kernel
theorem dX11_where_31 : decode cX11_where 31 = .ok (.ireturn, 1) := by decide +kernel
noncomputable def f_X11_where (x1 : Int32) (u0 : qM) : Option (Int32 × qM) :=
  q_bd (f_X11_isEight x1 u0) (fun (x2 : Int32) (u1 : qM) => q_jn (fun (x3 : Int32) (u2 : qM) => some (x3, u2)) (fun j1 => if x2 = 0 then j1 (-1) u1 else q_ck (q_in x1 8) (if (0 : Int32) ≤ (u1.1 105 0 (Int32.toNatClampNeg x1)) then q_ck (q_in x1 8) (j1 (u1.1 106 0 (Int32.toNatClampNeg x1)) u1) else j1 (-9) u1)))
set_option maxRecDepth 100000 in
set_option maxHeartbeats 4000000 in
theorem k_X11_where (l : Launch) (G : qG) (x1 : Int32)  (u0 : qM) : qCt l G m_X11_where q_cI [.ref (q_ad G 11 0), .int x1] u0 (f_X11_where x1 u0) := by
  refine q_entry pk_X11_where (Nat.le_of_ble_eq_true rfl) ?_
  show qAW l G m_X11_where (q_mq G q_cI) 0 [(0, .ref (q_ad G 11 0)), (1, .int x1)] [] u0 (f_X11_where x1 u0)
  unfold f_X11_where
  refine aw_iload_n (i := 1) dX11_where_0 1 rfl rfl 1 rfl ?_
  refine aw_callS (M2 := m_X11_isEight) (cv := q_cI) dX11_where_1 4 rfl (k_X11_isEight l G x1  u0) wd_309 wv_X11_isEight pk_X11_isEight rfl ⟨by decide, by decide⟩ ⟨Nat.zero_le _, Nat.zero_le _⟩ rfl (Nat.le_of_ble_eq_true rfl) (fun x2 u1 => ?_)
  show qAW l G m_X11_where (q_mq G q_cI) 4 [(0, .ref (q_ad G 11 0)), (1, .int x1)] [.int x2] u1 _
  refine aw_jn (fun k => ∀ (x3 : Int32) (u2 : qM), qAW l G m_X11_where (q_mq G q_cI) 31 [] [.int x3] u2 (k x3 u2)) ?_ ?_
  · intro x3 u2
    exact aw_iret dX11_where_31 rfl
  · intro j1 hj1
    refine aw_if_ne dX11_where_4 7 rfl 11 rfl (fun h1 => ?_) (fun h1 => ?_)
    · refine aw_aload_n (i := 0) dX11_where_11 12 rfl rfl 0 rfl ?_
      refine gf_X11_45 dX11_where_12 15 rfl wd_254 (ok_11 (by decide)) ?_
      refine aw_iload_n (i := 1) dX11_where_15 16 rfl rfl 1 rfl ?_
      refine aw_iald dX11_where_16 17 rfl at_105 (al_105 _) (ok_105 (by decide)) (fun h2 => ?_)
      refine aw_if_ge dX11_where_17 20 rfl 25 rfl (fun h3 => ?_) (fun h3 => ?_)
      · refine aw_aload_n (i := 0) dX11_where_25 26 rfl rfl 0 rfl ?_
        refine gf_X11_46 dX11_where_26 29 rfl wd_295 (ok_11 (by decide)) ?_
        refine aw_iload_n (i := 1) dX11_where_29 30 rfl rfl 1 rfl ?_
        refine aw_iald dX11_where_30 31 rfl at_106 (al_106 _) (ok_106 (by decide)) (fun h4 => ?_)
        exact aw_conv [] rfl (hj1 (u1.1 106 0 (Int32.toNatClampNeg x1)) u1)
      · refine aw_bipush (x := (-9)) dX11_where_20 22 rfl rfl ?_
        refine aw_goto dX11_where_22 31 rfl ?_
        exact aw_conv [] rfl (hj1 (-9) u1)
    · refine aw_iconst (x := (-1)) dX11_where_7 8 rfl rfl ?_
      refine aw_goto dX11_where_8 31 rfl ?_
      exact aw_conv [] rfl (hj1 (-1) u1)
theorem dX11_gauge_0 : decode cX11_gauge 0 = .ok (.iload_n 1, 1) := by decide +kernel
theorem dX11_gauge_1 : decode cX11_gauge 1 = .ok (.invokestatic 305, 3) := by decide +kernel
theorem dX11_gauge_4 : decode cX11_gauge 4 = .ok (.ifCond .ne 5, 3) := by decide +kernel
theorem dX11_gauge_7 : decode cX11_gauge 7 = .ok (.iconst (-1), 1) := by decide +kernel
theorem dX11_gauge_8 : decode cX11_gauge 8 = .ok (.ireturn, 1) := by decide +kernel
theorem dX11_gauge_9 : decode cX11_gauge 9 = .ok (.aload_n 0, 1) := by decide +kernel
theorem dX11_gauge_10 : decode cX11_gauge 10 = .ok (.iload_n 2, 1) := by decide +kernel
theorem dX11_gauge_11 : decode cX11_gauge 11 = .ok (.iload_n 3, 1) := by decide +kernel
theorem dX11_gauge_12 : decode cX11_gauge 12 = .ok (.invokevirtual 240, 3) := by decide +kernel
theorem dX11_gauge_15 : decode cX11_gauge 15 = .ok (.istore 4, 2) := by decide +kernel
theorem dX11_gauge_17 : decode cX11_gauge 17 = .ok (.iload 4, 2) := by decide +kernel
theorem dX11_gauge_19 : decode cX11_gauge 19 = .ok (.ifCond .ge 6, 3) := by decide +kernel
theorem dX11_gauge_22 : decode cX11_gauge 22 = .ok (.iload 4, 2) := by decide +kernel
theorem dX11_gauge_24 : decode cX11_gauge 24 = .ok (.ireturn, 1) := by decide +kernel
theorem dX11_gauge_25 : decode cX11_gauge 25 = .ok (.aload_n 0, 1) := by decide +kernel
theorem dX11_gauge_26 : decode cX11_gauge 26 = .ok (.getfield 141, 3) := by decide +kernel
theorem dX11_gauge_29 : decode cX11_gauge 29 = .ok (.iload_n 1, 1) := by decide +kernel
theorem dX11_gauge_30 : decode cX11_gauge 30 = .ok (.iaload, 1) := by decide +kernel
theorem dX11_gauge_31 : decode cX11_gauge 31 = .ok (.ifCond .ge 7, 3) := by decide +kernel
theorem dX11_gauge_34 : decode cX11_gauge 34 = .ok (.iconst 0, 1) := by decide +kernel
theorem dX11_gauge_35 : decode cX11_gauge 35 = .ok (.goto 4, 3) := by decide +kernel
theorem dX11_gauge_38 : decode cX11_gauge 38 = .ok (.iconst 1, 1) := by decide +kernel
theorem dX11_gauge_39 : decode cX11_gauge 39 = .ok (.istore 5, 2) := by decide +kernel
theorem dX11_gauge_41 : decode cX11_gauge 41 = .ok (.aload_n 0, 1) := by decide +kernel
theorem dX11_gauge_42 : decode cX11_gauge 42 = .ok (.getfield 141, 3) := by decide +kernel
theorem dX11_gauge_45 : decode cX11_gauge 45 = .ok (.iload_n 1, 1) := by decide +kernel
theorem dX11_gauge_46 : decode cX11_gauge 46 = .ok (.iload_n 2, 1) := by decide +kernel
theorem dX11_gauge_47 : decode cX11_gauge 47 = .ok (.iastore, 1) := by decide +kernel
theorem dX11_gauge_48 : decode cX11_gauge 48 = .ok (.aload_n 0, 1) := by decide +kernel
theorem dX11_gauge_49 : decode cX11_gauge 49 = .ok (.getfield 144, 3) := by decide +kernel
theorem dX11_gauge_52 : decode cX11_gauge 52 = .ok (.iload_n 1, 1) := by decide +kernel
theorem dX11_gauge_53 : decode cX11_gauge 53 = .ok (.iload_n 3, 1) := by decide +kernel
theorem dX11_gauge_54 : decode cX11_gauge 54 = .ok (.iastore, 1) := by decide +kernel
theorem dX11_gauge_55 : decode cX11_gauge 55 = .ok (.aload_n 0, 1) := by decide +kernel
theorem dX11_gauge_56 : decode cX11_gauge 56 = .ok (.getfield 147, 3) := by decide +kernel
theorem dX11_gauge_59 : decode cX11_gauge 59 = .ok (.iload_n 1, 1) := by decide +kernel
theorem dX11_gauge_60 : decode cX11_gauge 60 = .ok (.iconst 0, 1) := by decide +kernel
theorem dX11_gauge_61 : decode cX11_gauge 61 = .ok (.iastore, 1) := by decide +kernel
theorem dX11_gauge_62 : decode cX11_gauge 62 = .ok (.iload 5, 2) := by decide +kernel
theorem dX11_gauge_64 : decode cX11_gauge 64 = .ok (.ireturn, 1) := by decide +kernel
noncomputable def f_X11_gauge (x1 : Int32) (x2 : Int32) (x3 : Int32) (u0 : qM) : Option (Int32 × qM) :=
  q_bd (f_X11_isEight x1 u0) (fun (x4 : Int32) (u1 : qM) => if x4 = 0 then some ((-1), u1) else q_bd (f_X11_askedCell x2 x3 u1) (fun (x5 : Int32) (u2 : qM) => if (0 : Int32) ≤ x5 then q_ck (q_in x1 8) (q_jn (fun (x6 : Int32) (u3 : qM) => q_ck (q_in x1 8) (q_lt (q_si u3 108 0 (Int32.toNatClampNeg x1) x2) (fun (u4 : qM) => q_ck (q_in x1 8) (q_lt (q_si u4 109 0 (Int32.toNatClampNeg x1) x3) (fun (u5 : qM) => q_ck (q_in x1 8) (q_lt (q_si u5 110 0 (Int32.toNatClampNeg x1) 0) (fun (u6 : qM) => some (x6, u6)))))))) (fun j1 => if (0 : Int32) ≤ (u2.1 108 0 (Int32.toNatClampNeg x1)) then j1 1 u2 else j1 0 u2)) else some (x5, u2)))
set_option maxRecDepth 100000 in
set_option maxHeartbeats 4000000 in
theorem k_X11_gauge (l : Launch) (G : qG) (x1 : Int32) (x2 : Int32) (x3 : Int32)  (u0 : qM) : qCt l G m_X11_gauge q_cI [.ref (q_ad G 11 0), .int x1, .int x2, .int x3] u0 (f_X11_gauge x1 x2 x3 u0) := by
  refine q_entry pk_X11_gauge (Nat.le_of_ble_eq_true rfl) ?_
  show qAW l G m_X11_gauge (q_mq G q_cI) 0 [(0, .ref (q_ad G 11 0)), (1, .int x1), (2, .int x2), (3, .int x3)] [] u0 (f_X11_gauge x1 x2 x3 u0)
  unfold f_X11_gauge
  refine aw_iload_n (i := 1) dX11_gauge_0 1 rfl rfl 1 rfl ?_
  refine aw_callS (M2 := m_X11_isEight) (cv := q_cI) dX11_gauge_1 4 rfl (k_X11_isEight l G x1  u0) wd_309 wv_X11_isEight pk_X11_isEight rfl ⟨by decide, by decide⟩ ⟨Nat.zero_le _, Nat.zero_le _⟩ rfl (Nat.le_of_ble_eq_true rfl) (fun x4 u1 => ?_)
  show qAW l G m_X11_gauge (q_mq G q_cI) 4 [(0, .ref (q_ad G 11 0)), (1, .int x1), (2, .int x2), (3, .int x3)] [.int x4] u1 _
  refine aw_if_ne dX11_gauge_4 7 rfl 9 rfl (fun h1 => ?_) (fun h1 => ?_)
  · refine aw_aload_n (i := 0) dX11_gauge_9 10 rfl rfl 0 rfl ?_
    refine aw_iload_n (i := 2) dX11_gauge_10 11 rfl rfl 2 rfl ?_
    refine aw_iload_n (i := 3) dX11_gauge_11 12 rfl rfl 3 rfl ?_
    refine aw_callV (M2 := m_X11_askedCell) (cv := q_cI) dX11_gauge_12 15 rfl (k_X11_askedCell l G x2 x3  u1) wd_275 wv_X11_askedCell pk_X11_askedCell rfl rfl ⟨by decide, by decide⟩ ⟨Nat.zero_le _, Nat.zero_le _⟩ at_11 (ok_11 (by decide)) rfl rfl rfl (Nat.le_of_ble_eq_true rfl) (fun x5 u2 => ?_)
    show qAW l G m_X11_gauge (q_mq G q_cI) 15 [(0, .ref (q_ad G 11 0)), (1, .int x1), (2, .int x2), (3, .int x3)] [.int x5] u2 _
    refine aw_istore dX11_gauge_15 17 rfl [(4, .int x5), (0, .ref (q_ad G 11 0)), (1, .int x1), (2, .int x2), (3, .int x3)] (by decide) rfl ?_
    refine aw_iload (i := 4) dX11_gauge_17 19 rfl 0 rfl ?_
    refine aw_if_ge dX11_gauge_19 22 rfl 25 rfl (fun h2 => ?_) (fun h2 => ?_)
    · refine aw_aload_n (i := 0) dX11_gauge_25 26 rfl rfl 1 rfl ?_
      refine gf_X11_48 dX11_gauge_26 29 rfl wd_255 (ok_11 (by decide)) ?_
      refine aw_iload_n (i := 1) dX11_gauge_29 30 rfl rfl 2 rfl ?_
      refine aw_iald dX11_gauge_30 31 rfl at_108 (al_108 _) (ok_108 (by decide)) (fun h3 => ?_)
      refine aw_jn (fun k => ∀ (x6 : Int32) (u3 : qM), qAW l G m_X11_gauge (q_mq G q_cI) 39 [(0, .ref (q_ad G 11 0)), (1, .int x1), (2, .int x2), (3, .int x3)] [.int x6] u3 (k x6 u3)) ?_ ?_
      · intro x6 u3
        refine aw_istore dX11_gauge_39 41 rfl [(5, .int x6), (0, .ref (q_ad G 11 0)), (1, .int x1), (2, .int x2), (3, .int x3)] (by decide) rfl ?_
        refine aw_aload_n (i := 0) dX11_gauge_41 42 rfl rfl 1 rfl ?_
        refine gf_X11_48 dX11_gauge_42 45 rfl wd_255 (ok_11 (by decide)) ?_
        refine aw_iload_n (i := 1) dX11_gauge_45 46 rfl rfl 2 rfl ?_
        refine aw_iload_n (i := 2) dX11_gauge_46 47 rfl rfl 3 rfl ?_
        refine aw_iast dX11_gauge_47 48 rfl at_108 (al_108 _) (ok_108 (by decide)) (fun h5 => ?_)
        refine aw_ltm (fun u4 => ?_)
        refine aw_aload_n (i := 0) dX11_gauge_48 49 rfl rfl 1 rfl ?_
        refine gf_X11_49 dX11_gauge_49 52 rfl wd_298 (ok_11 (by decide)) ?_
        refine aw_iload_n (i := 1) dX11_gauge_52 53 rfl rfl 2 rfl ?_
        refine aw_iload_n (i := 3) dX11_gauge_53 54 rfl rfl 4 rfl ?_
        refine aw_iast dX11_gauge_54 55 rfl at_109 (al_109 _) (ok_109 (by decide)) (fun h6 => ?_)
        refine aw_ltm (fun u5 => ?_)
        refine aw_aload_n (i := 0) dX11_gauge_55 56 rfl rfl 1 rfl ?_
        refine gf_X11_50 dX11_gauge_56 59 rfl wd_289 (ok_11 (by decide)) ?_
        refine aw_iload_n (i := 1) dX11_gauge_59 60 rfl rfl 2 rfl ?_
        refine aw_iconst (x := 0) dX11_gauge_60 61 rfl rfl ?_
        refine aw_iast dX11_gauge_61 62 rfl at_110 (al_110 _) (ok_110 (by decide)) (fun h7 => ?_)
        refine aw_ltm (fun u6 => ?_)
        refine aw_iload (i := 5) dX11_gauge_62 64 rfl 0 rfl ?_
        exact aw_iret dX11_gauge_64 rfl
      · intro j1 hj1
        refine aw_if_ge dX11_gauge_31 34 rfl 38 rfl (fun h4 => ?_) (fun h4 => ?_)
        · refine aw_iconst (x := 1) dX11_gauge_38 39 rfl rfl ?_
          exact aw_conv [1, 2, 3, 4] rfl (hj1 1 u2)
        · refine aw_iconst (x := 0) dX11_gauge_34 35 rfl rfl ?_
          refine aw_goto dX11_gauge_35 39 rfl ?_
          exact aw_conv [1, 2, 3, 4] rfl (hj1 0 u2)
    · refine aw_iload (i := 4) dX11_gauge_22 24 rfl 0 rfl ?_
      exact aw_iret dX11_gauge_24 rfl
  · refine aw_iconst (x := (-1)) dX11_gauge_7 8 rfl rfl ?_
    exact aw_iret dX11_gauge_8 rfl
theorem dX11_has_0 : decode cX11_has 0 = .ok (.aload_n 0, 1) := by decide +kernel
theorem dX11_has_1 : decode cX11_has 1 = .ok (.getfield 141, 3) := by decide +kernel
theorem dX11_has_4 : decode cX11_has 4 = .ok (.iload_n 1, 1) := by decide +kernel
theorem dX11_has_5 : decode cX11_has 5 = .ok (.iaload, 1) := by decide +kernel
theorem dX11_has_6 : decode cX11_has 6 = .ok (.ifCond .lt 46, 3) := by decide +kernel
theorem dX11_has_9 : decode cX11_has 9 = .ok (.iload_n 2, 1) := by decide +kernel
theorem dX11_has_10 : decode cX11_has 10 = .ok (.iconst 0, 1) := by decide +kernel
theorem dX11_has_11 : decode cX11_has 11 = .ok (.aload_n 0, 1) := by decide +kernel
theorem dX11_has_12 : decode cX11_has 12 = .ok (.getfield 147, 3) := by decide +kernel
theorem dX11_has_15 : decode cX11_has 15 = .ok (.iload_n 1, 1) := by decide +kernel
theorem dX11_has_16 : decode cX11_has 16 = .ok (.iaload, 1) := by decide +kernel
theorem dX11_has_17 : decode cX11_has 17 = .ok (.iconst 1, 1) := by decide +kernel
theorem dX11_has_18 : decode cX11_has 18 = .ok (.isub, 1) := by decide +kernel
theorem dX11_has_19 : decode cX11_has 19 = .ok (.invokestatic 182, 3) := by decide +kernel
theorem dX11_has_22 : decode cX11_has 22 = .ok (.ifCond .eq 30, 3) := by decide +kernel
theorem dX11_has_25 : decode cX11_has 25 = .ok (.aload_n 0, 1) := by decide +kernel
theorem dX11_has_26 : decode cX11_has 26 = .ok (.getfield 153, 3) := by decide +kernel
theorem dX11_has_29 : decode cX11_has 29 = .ok (.bipush 48, 2) := by decide +kernel
theorem dX11_has_31 : decode cX11_has 31 = .ok (.iload_n 1, 1) := by decide +kernel
theorem dX11_has_32 : decode cX11_has 32 = .ok (.imul, 1) := by decide +kernel
theorem dX11_has_33 : decode cX11_has 33 = .ok (.aload_n 0, 1) := by decide +kernel
theorem dX11_has_34 : decode cX11_has 34 = .ok (.getfield 147, 3) := by decide +kernel
theorem dX11_has_37 : decode cX11_has 37 = .ok (.iload_n 1, 1) := by decide +kernel
theorem dX11_has_38 : decode cX11_has 38 = .ok (.iaload, 1) := by decide +kernel
theorem dX11_has_39 : decode cX11_has 39 = .ok (.iadd, 1) := by decide +kernel
theorem dX11_has_40 : decode cX11_has 40 = .ok (.iconst 1, 1) := by decide +kernel
theorem dX11_has_41 : decode cX11_has 41 = .ok (.isub, 1) := by decide +kernel
theorem dX11_has_42 : decode cX11_has 42 = .ok (.iload_n 2, 1) := by decide +kernel
theorem dX11_has_43 : decode cX11_has 43 = .ok (.isub, 1) := by decide +kernel
theorem dX11_has_44 : decode cX11_has 44 = .ok (.baload, 1) := by decide +kernel
theorem dX11_has_45 : decode cX11_has 45 = .ok (.ifCond .ne 7, 3) := by decide +kernel
theorem dX11_has_48 : decode cX11_has 48 = .ok (.iconst 1, 1) := by decide +kernel
theorem dX11_has_49 : decode cX11_has 49 = .ok (.goto 4, 3) := by decide +kernel
theorem dX11_has_52 : decode cX11_has 52 = .ok (.iconst 0, 1) := by decide +kernel
theorem dX11_has_53 : decode cX11_has 53 = .ok (.ireturn, 1) := by decide +kernel
noncomputable def f_X11_has (x1 : Int32) (x2 : Int32) (u0 : qM) : Option (Int32 × qM) :=
  q_ck (q_in x1 8) (q_jn (fun (x3 : Int32) (u1 : qM) => q_ck (q_b x3) (some (x3, u1))) (fun j1 => q_jn (fun  (u2 : qM) => j1 0 u2) (fun j2 => if (u0.1 108 0 (Int32.toNatClampNeg x1)) < 0 then j2 u0 else q_ck (q_in x1 8) (q_bd (f_X11_in x2 0 ((u0.1 110 0 (Int32.toNatClampNeg x1)) - 1) u0) (fun (x4 : Int32) (u3 : qM) => if x4 = 0 then j2 u3 else q_ck (q_in x1 8) (q_ck (q_in ((((48 * x1) + (u3.1 110 0 (Int32.toNatClampNeg x1))) - 1) - x2) 384) (if (u3.1 112 0 (Int32.toNatClampNeg ((((48 * x1) + (u3.1 110 0 (Int32.toNatClampNeg x1))) - 1) - x2))) = 0 then j1 1 u3 else j2 u3)))))))
set_option maxRecDepth 100000 in
set_option maxHeartbeats 4000000 in
theorem k_X11_has (l : Launch) (G : qG) (x1 : Int32) (x2 : Int32)  (u0 : qM) : qCt l G m_X11_has q_cI [.ref (q_ad G 11 0), .int x1, .int x2] u0 (f_X11_has x1 x2 u0) := by
  refine q_entry pk_X11_has (Nat.le_of_ble_eq_true rfl) ?_
  show qAW l G m_X11_has (q_mq G q_cI) 0 [(0, .ref (q_ad G 11 0)), (1, .int x1), (2, .int x2)] [] u0 (f_X11_has x1 x2 u0)
  unfold f_X11_has
  refine aw_aload_n (i := 0) dX11_has_0 1 rfl rfl 0 rfl ?_
  refine gf_X11_48 dX11_has_1 4 rfl wd_255 (ok_11 (by decide)) ?_
  refine aw_iload_n (i := 1) dX11_has_4 5 rfl rfl 1 rfl ?_
  refine aw_iald dX11_has_5 6 rfl at_108 (al_108 _) (ok_108 (by decide)) (fun h1 => ?_)
  refine aw_jn (fun k => ∀ (x3 : Int32) (u1 : qM), qAW l G m_X11_has (q_mq G q_cI) 53 [] [.int x3] u1 (k x3 u1)) ?_ ?_
  · intro x3 u1
    refine aw_ck (fun h3 => ?_)
    exact aw_zret dX11_has_53 rfl h3
  · intro j1 hj1
    refine aw_jn (fun k => ∀  (u2 : qM), qAW l G m_X11_has (q_mq G q_cI) 52 [] [] u2 (k u2)) ?_ ?_
    · intro u2
      refine aw_iconst (x := 0) dX11_has_52 53 rfl rfl ?_
      exact hj1 0 u2
    · intro j2 hj2
      refine aw_if_lt dX11_has_6 9 rfl 52 rfl (fun h2 => ?_) (fun h2 => ?_)
      · exact aw_conv [] rfl (hj2 u0)
      · refine aw_iload_n (i := 2) dX11_has_9 10 rfl rfl 2 rfl ?_
        refine aw_iconst (x := 0) dX11_has_10 11 rfl rfl ?_
        refine aw_aload_n (i := 0) dX11_has_11 12 rfl rfl 0 rfl ?_
        refine gf_X11_50 dX11_has_12 15 rfl wd_289 (ok_11 (by decide)) ?_
        refine aw_iload_n (i := 1) dX11_has_15 16 rfl rfl 1 rfl ?_
        refine aw_iald dX11_has_16 17 rfl at_110 (al_110 _) (ok_110 (by decide)) (fun h4 => ?_)
        refine aw_iconst (x := 1) dX11_has_17 18 rfl rfl ?_
        refine aw_isub dX11_has_18 19 rfl ?_
        refine aw_callS (M2 := m_X11_in) (cv := q_cI) dX11_has_19 22 rfl (k_X11_in l G x2 0 ((u0.1 110 0 (Int32.toNatClampNeg x1)) - 1)  u0) wd_226 wv_X11_in pk_X11_in rfl ⟨by decide, by decide⟩ ⟨Nat.zero_le _, Nat.zero_le _⟩ rfl (Nat.le_of_ble_eq_true rfl) (fun x4 u3 => ?_)
        show qAW l G m_X11_has (q_mq G q_cI) 22 [(0, .ref (q_ad G 11 0)), (1, .int x1), (2, .int x2)] [.int x4] u3 _
        refine aw_if_eq dX11_has_22 25 rfl 52 rfl (fun h5 => ?_) (fun h5 => ?_)
        · exact aw_conv [] rfl (hj2 u3)
        · refine aw_aload_n (i := 0) dX11_has_25 26 rfl rfl 0 rfl ?_
          refine gf_X11_52 dX11_has_26 29 rfl wd_291 (ok_11 (by decide)) ?_
          refine aw_bipush (x := 48) dX11_has_29 31 rfl rfl ?_
          refine aw_iload_n (i := 1) dX11_has_31 32 rfl rfl 1 rfl ?_
          refine aw_imul dX11_has_32 33 rfl ?_
          refine aw_aload_n (i := 0) dX11_has_33 34 rfl rfl 0 rfl ?_
          refine gf_X11_50 dX11_has_34 37 rfl wd_289 (ok_11 (by decide)) ?_
          refine aw_iload_n (i := 1) dX11_has_37 38 rfl rfl 1 rfl ?_
          refine aw_iald dX11_has_38 39 rfl at_110 (al_110 _) (ok_110 (by decide)) (fun h6 => ?_)
          refine aw_iadd dX11_has_39 40 rfl ?_
          refine aw_iconst (x := 1) dX11_has_40 41 rfl rfl ?_
          refine aw_isub dX11_has_41 42 rfl ?_
          refine aw_iload_n (i := 2) dX11_has_42 43 rfl rfl 2 rfl ?_
          refine aw_isub dX11_has_43 44 rfl ?_
          refine aw_zald dX11_has_44 45 rfl at_112 (al_112 _) (ok_112 (by decide)) (fun h7 => ?_)
          refine aw_if_ne dX11_has_45 48 rfl 52 rfl (fun h8 => ?_) (fun h8 => ?_)
          · exact aw_conv [] rfl (hj2 u3)
          · refine aw_iconst (x := 1) dX11_has_48 49 rfl rfl ?_
            refine aw_goto dX11_has_49 53 rfl ?_
            exact aw_conv [] rfl (hj1 1 u3)
theorem dX11_reading_0 : decode cX11_reading 0 = .ok (.iload_n 1, 1) := by decide +kernel
theorem dX11_reading_1 : decode cX11_reading 1 = .ok (.invokestatic 305, 3) := by decide +kernel
theorem dX11_reading_4 : decode cX11_reading 4 = .ok (.ifCond .ne 7, 3) := by decide +kernel
theorem dX11_reading_7 : decode cX11_reading 7 = .ok (.iconst (-1), 1) := by decide +kernel
theorem dX11_reading_8 : decode cX11_reading 8 = .ok (.goto 42, 3) := by decide +kernel
theorem dX11_reading_11 : decode cX11_reading 11 = .ok (.aload_n 0, 1) := by decide +kernel
theorem dX11_reading_12 : decode cX11_reading 12 = .ok (.iload_n 1, 1) := by decide +kernel
theorem dX11_reading_13 : decode cX11_reading 13 = .ok (.iload_n 2, 1) := by decide +kernel
theorem dX11_reading_14 : decode cX11_reading 14 = .ok (.invokevirtual 308, 3) := by decide +kernel
theorem dX11_reading_17 : decode cX11_reading 17 = .ok (.ifCond .eq 31, 3) := by decide +kernel
theorem dX11_reading_20 : decode cX11_reading 20 = .ok (.aload_n 0, 1) := by decide +kernel
theorem dX11_reading_21 : decode cX11_reading 21 = .ok (.aload_n 0, 1) := by decide +kernel
theorem dX11_reading_22 : decode cX11_reading 22 = .ok (.getfield 150, 3) := by decide +kernel
theorem dX11_reading_25 : decode cX11_reading 25 = .ok (.bipush 48, 2) := by decide +kernel
theorem dX11_reading_27 : decode cX11_reading 27 = .ok (.iload_n 1, 1) := by decide +kernel
theorem dX11_reading_28 : decode cX11_reading 28 = .ok (.imul, 1) := by decide +kernel
theorem dX11_reading_29 : decode cX11_reading 29 = .ok (.aload_n 0, 1) := by decide +kernel
theorem dX11_reading_30 : decode cX11_reading 30 = .ok (.getfield 147, 3) := by decide +kernel
theorem dX11_reading_33 : decode cX11_reading 33 = .ok (.iload_n 1, 1) := by decide +kernel
theorem dX11_reading_34 : decode cX11_reading 34 = .ok (.iaload, 1) := by decide +kernel
theorem dX11_reading_35 : decode cX11_reading 35 = .ok (.iadd, 1) := by decide +kernel
theorem dX11_reading_36 : decode cX11_reading 36 = .ok (.iconst 1, 1) := by decide +kernel
theorem dX11_reading_37 : decode cX11_reading 37 = .ok (.isub, 1) := by decide +kernel
theorem dX11_reading_38 : decode cX11_reading 38 = .ok (.iload_n 2, 1) := by decide +kernel
theorem dX11_reading_39 : decode cX11_reading 39 = .ok (.isub, 1) := by decide +kernel
theorem dX11_reading_40 : decode cX11_reading 40 = .ok (.iaload, 1) := by decide +kernel
theorem dX11_reading_41 : decode cX11_reading 41 = .ok (.iconst 1, 1) := by decide +kernel
theorem dX11_reading_42 : decode cX11_reading 42 = .ok (.invokevirtual 202, 3) := by decide +kernel
theorem dX11_reading_45 : decode cX11_reading 45 = .ok (.goto 5, 3) := by decide +kernel
theorem dX11_reading_48 : decode cX11_reading 48 = .ok (.bipush (-9), 2) := by decide +kernel
theorem dX11_reading_50 : decode cX11_reading 50 = .ok (.ireturn, 1) := by decide +kernel
noncomputable def f_X11_reading (x1 : Int32) (x2 : Int32) (u0 : qM) : Option (Int32 × qM) :=
  q_bd (f_X11_isEight x1 u0) (fun (x3 : Int32) (u1 : qM) => q_jn (fun (x4 : Int32) (u2 : qM) => some (x4, u2)) (fun j1 => if x3 = 0 then j1 (-1) u1 else q_bd (f_X11_has x1 x2 u1) (fun (x5 : Int32) (u3 : qM) => if x5 = 0 then j1 (-9) u3 else q_ck (q_in x1 8) (q_ck (q_in ((((48 * x1) + (u3.1 110 0 (Int32.toNatClampNeg x1))) - 1) - x2) 384) (q_bd (f_X11_ask (u3.1 111 0 (Int32.toNatClampNeg ((((48 * x1) + (u3.1 110 0 (Int32.toNatClampNeg x1))) - 1) - x2))) 1 u3) (fun (x6 : Int32) (u4 : qM) => j1 x6 u4))))))
set_option maxRecDepth 100000 in
set_option maxHeartbeats 4000000 in
theorem k_X11_reading (l : Launch) (G : qG) (x1 : Int32) (x2 : Int32)  (u0 : qM) : qCt l G m_X11_reading q_cI [.ref (q_ad G 11 0), .int x1, .int x2] u0 (f_X11_reading x1 x2 u0) := by
  refine q_entry pk_X11_reading (Nat.le_of_ble_eq_true rfl) ?_
  show qAW l G m_X11_reading (q_mq G q_cI) 0 [(0, .ref (q_ad G 11 0)), (1, .int x1), (2, .int x2)] [] u0 (f_X11_reading x1 x2 u0)
  unfold f_X11_reading
  refine aw_iload_n (i := 1) dX11_reading_0 1 rfl rfl 1 rfl ?_
  refine aw_callS (M2 := m_X11_isEight) (cv := q_cI) dX11_reading_1 4 rfl (k_X11_isEight l G x1  u0) wd_309 wv_X11_isEight pk_X11_isEight rfl ⟨by decide, by decide⟩ ⟨Nat.zero_le _, Nat.zero_le _⟩ rfl (Nat.le_of_ble_eq_true rfl) (fun x3 u1 => ?_)
  show qAW l G m_X11_reading (q_mq G q_cI) 4 [(0, .ref (q_ad G 11 0)), (1, .int x1), (2, .int x2)] [.int x3] u1 _
  refine aw_jn (fun k => ∀ (x4 : Int32) (u2 : qM), qAW l G m_X11_reading (q_mq G q_cI) 50 [] [.int x4] u2 (k x4 u2)) ?_ ?_
  · intro x4 u2
    exact aw_iret dX11_reading_50 rfl
  · intro j1 hj1
    refine aw_if_ne dX11_reading_4 7 rfl 11 rfl (fun h1 => ?_) (fun h1 => ?_)
    · refine aw_aload_n (i := 0) dX11_reading_11 12 rfl rfl 0 rfl ?_
      refine aw_iload_n (i := 1) dX11_reading_12 13 rfl rfl 1 rfl ?_
      refine aw_iload_n (i := 2) dX11_reading_13 14 rfl rfl 2 rfl ?_
      refine aw_callV (M2 := m_X11_has) (cv := q_cI) dX11_reading_14 17 rfl (k_X11_has l G x1 x2  u1) wd_310 wv_X11_has pk_X11_has rfl rfl ⟨by decide, by decide⟩ ⟨Nat.zero_le _, Nat.zero_le _⟩ at_11 (ok_11 (by decide)) rfl rfl rfl (Nat.le_of_ble_eq_true rfl) (fun x5 u3 => ?_)
      show qAW l G m_X11_reading (q_mq G q_cI) 17 [(0, .ref (q_ad G 11 0)), (1, .int x1), (2, .int x2)] [.int x5] u3 _
      refine aw_if_eq dX11_reading_17 20 rfl 48 rfl (fun h2 => ?_) (fun h2 => ?_)
      · refine aw_bipush (x := (-9)) dX11_reading_48 50 rfl rfl ?_
        exact aw_conv [] rfl (hj1 (-9) u3)
      · refine aw_aload_n (i := 0) dX11_reading_20 21 rfl rfl 0 rfl ?_
        refine aw_aload_n (i := 0) dX11_reading_21 22 rfl rfl 0 rfl ?_
        refine gf_X11_51 dX11_reading_22 25 rfl wd_290 (ok_11 (by decide)) ?_
        refine aw_bipush (x := 48) dX11_reading_25 27 rfl rfl ?_
        refine aw_iload_n (i := 1) dX11_reading_27 28 rfl rfl 1 rfl ?_
        refine aw_imul dX11_reading_28 29 rfl ?_
        refine aw_aload_n (i := 0) dX11_reading_29 30 rfl rfl 0 rfl ?_
        refine gf_X11_50 dX11_reading_30 33 rfl wd_289 (ok_11 (by decide)) ?_
        refine aw_iload_n (i := 1) dX11_reading_33 34 rfl rfl 1 rfl ?_
        refine aw_iald dX11_reading_34 35 rfl at_110 (al_110 _) (ok_110 (by decide)) (fun h3 => ?_)
        refine aw_iadd dX11_reading_35 36 rfl ?_
        refine aw_iconst (x := 1) dX11_reading_36 37 rfl rfl ?_
        refine aw_isub dX11_reading_37 38 rfl ?_
        refine aw_iload_n (i := 2) dX11_reading_38 39 rfl rfl 2 rfl ?_
        refine aw_isub dX11_reading_39 40 rfl ?_
        refine aw_iald dX11_reading_40 41 rfl at_111 (al_111 _) (ok_111 (by decide)) (fun h4 => ?_)
        refine aw_iconst (x := 1) dX11_reading_41 42 rfl rfl ?_
        refine aw_callV (M2 := m_X11_ask) (cv := q_cI) dX11_reading_42 45 rfl (k_X11_ask l G (u3.1 111 0 (Int32.toNatClampNeg ((((48 * x1) + (u3.1 110 0 (Int32.toNatClampNeg x1))) - 1) - x2))) 1  u3) wd_236 wv_X11_ask pk_X11_ask rfl rfl ⟨by decide, by decide⟩ ⟨Nat.zero_le _, Nat.zero_le _⟩ at_11 (ok_11 (by decide)) rfl rfl rfl (Nat.le_of_ble_eq_true rfl) (fun x6 u4 => ?_)
        show qAW l G m_X11_reading (q_mq G q_cI) 45 [(0, .ref (q_ad G 11 0)), (1, .int x1), (2, .int x2)] [.int x6] u4 _
        refine aw_goto dX11_reading_45 50 rfl ?_
        exact aw_conv [] rfl (hj1 x6 u4)
    · refine aw_iconst (x := (-1)) dX11_reading_7 8 rfl rfl ?_
      refine aw_goto dX11_reading_8 50 rfl ?_
      exact aw_conv [] rfl (hj1 (-1) u1)
