theorem dX11_lookedText_0 : decode cX11_lookedText 0 = .ok (.iload_n 1, 1) := by decide +kernel
theorem dX11_lookedText_1 : decode cX11_lookedText 1 = .ok (.invokestatic 186, 3) := by decide +kernel
theorem dX11_lookedText_4 : decode cX11_lookedText 4 = .ok (.ifCond .ne 7, 3) := by decide +kernel
theorem dX11_lookedText_7 : decode cX11_lookedText 7 = .ok (.iconst (-1), 1) := by decide +kernel
theorem dX11_lookedText_8 : decode cX11_lookedText 8 = .ok (.goto 21, 3) := by decide +kernel
theorem dX11_lookedText_11 : decode cX11_lookedText 11 = .ok (.aload_n 0, 1) := by decide +kernel
theorem dX11_lookedText_12 : decode cX11_lookedText 12 = .ok (.getfield 26, 3) := by decide +kernel
theorem dX11_lookedText_15 : decode cX11_lookedText 15 = .ok (.iload_n 1, 1) := by decide +kernel
theorem dX11_lookedText_16 : decode cX11_lookedText 16 = .ok (.iaload, 1) := by decide +kernel
theorem dX11_lookedText_17 : decode cX11_lookedText 17 = .ok (.ifCond .ge 11, 3) := by decide +kernel
theorem dX11_lookedText_20 : decode cX11_lookedText 20 = .ok (.aload_n 0, 1) := by decide +kernel
theorem dX11_lookedText_21 : decode cX11_lookedText 21 = .ok (.iconst 1, 1) := by decide +kernel
theorem dX11_lookedText_22 : decode cX11_lookedText 22 = .ok (.invokevirtual 190, 3) := by decide +kernel
theorem dX11_lookedText_25 : decode cX11_lookedText 25 = .ok (.goto 4, 3) := by decide +kernel
theorem dX11_lookedText_28 : decode cX11_lookedText 28 = .ok (.iconst 0, 1) := by decide +kernel
theorem dX11_lookedText_29 : decode cX11_lookedText 29 = .ok (.ireturn, 1) := by decide +kernel
noncomputable def f_X11_lookedText (x1 : Int32) (u0 : qM) : Option (Int32 × qM) :=
  q_bd (f_X11_isSix x1 u0) (fun (x2 : Int32) (u1 : qM) => q_jn (fun (x3 : Int32) (u2 : qM) => some (x3, u2)) (fun j1 => if x2 = 0 then j1 (-1) u1 else q_ck (q_in x1 6) (if (0 : Int32) ≤ (u1.1 69 0 (Int32.toNatClampNeg x1)) then j1 0 u1 else q_bd (f_X11_meets 1 u1) (fun (x4 : Int32) (u3 : qM) => j1 x4 u3))))
set_option maxRecDepth 100000 in
set_option maxHeartbeats 4000000 in
theorem k_X11_lookedText (l : Launch) (G : qG) (x1 : Int32)  (u0 : qM) : qCt l G m_X11_lookedText q_cI [.ref (q_ad G 11 0), .int x1] u0 (f_X11_lookedText x1 u0) := by
  refine q_entry pk_X11_lookedText (Nat.le_of_ble_eq_true rfl) ?_
  show qAW l G m_X11_lookedText (q_mq G q_cI) 0 [(0, .ref (q_ad G 11 0)), (1, .int x1)] [] u0 (f_X11_lookedText x1 u0)
  unfold f_X11_lookedText
  refine aw_iload_n (i := 1) dX11_lookedText_0 1 rfl rfl 1 rfl ?_
  refine aw_callS (M2 := m_X11_isSix) (cv := q_cI) dX11_lookedText_1 4 rfl (k_X11_isSix l G x1  u0) wd_227 wv_X11_isSix pk_X11_isSix rfl ⟨by decide, by decide⟩ ⟨Nat.zero_le _, Nat.zero_le _⟩ rfl (Nat.le_of_ble_eq_true rfl) (fun x2 u1 => ?_)
  show qAW l G m_X11_lookedText (q_mq G q_cI) 4 [(0, .ref (q_ad G 11 0)), (1, .int x1)] [.int x2] u1 _
  refine aw_jn (fun k => ∀ (x3 : Int32) (u2 : qM), qAW l G m_X11_lookedText (q_mq G q_cI) 29 [] [.int x3] u2 (k x3 u2)) ?_ ?_
  · intro x3 u2
    exact aw_iret dX11_lookedText_29 rfl
  · intro j1 hj1
    refine aw_if_ne dX11_lookedText_4 7 rfl 11 rfl (fun h1 => ?_) (fun h1 => ?_)
    · refine aw_aload_n (i := 0) dX11_lookedText_11 12 rfl rfl 0 rfl ?_
      refine gf_X11_9 dX11_lookedText_12 15 rfl wd_237 (ok_11 (by decide)) ?_
      refine aw_iload_n (i := 1) dX11_lookedText_15 16 rfl rfl 1 rfl ?_
      refine aw_iald dX11_lookedText_16 17 rfl at_69 (al_69 _) (ok_69 (by decide)) (fun h2 => ?_)
      refine aw_if_ge dX11_lookedText_17 20 rfl 28 rfl (fun h3 => ?_) (fun h3 => ?_)
      · refine aw_iconst (x := 0) dX11_lookedText_28 29 rfl rfl ?_
        exact aw_conv [] rfl (hj1 0 u1)
      · refine aw_aload_n (i := 0) dX11_lookedText_20 21 rfl rfl 0 rfl ?_
        refine aw_iconst (x := 1) dX11_lookedText_21 22 rfl rfl ?_
        refine aw_callV (M2 := m_X11_meets) (cv := q_cI) dX11_lookedText_22 25 rfl (k_X11_meets l G 1  u1) wd_229 wv_X11_meets pk_X11_meets rfl rfl ⟨by decide, by decide⟩ ⟨Nat.zero_le _, Nat.zero_le _⟩ at_11 (ok_11 (by decide)) rfl rfl rfl (Nat.le_of_ble_eq_true rfl) (fun x4 u3 => ?_)
        show qAW l G m_X11_lookedText (q_mq G q_cI) 25 [(0, .ref (q_ad G 11 0)), (1, .int x1)] [.int x4] u3 _
        refine aw_goto dX11_lookedText_25 29 rfl ?_
        exact aw_conv [] rfl (hj1 x4 u3)
    · refine aw_iconst (x := (-1)) dX11_lookedText_7 8 rfl rfl ?_
      refine aw_goto dX11_lookedText_8 29 rfl ?_
      exact aw_conv [] rfl (hj1 (-1) u1)
theorem dX11_text_0 : decode cX11_text 0 = .ok (.iload_n 1, 1) := by decide +kernel
theorem dX11_text_1 : decode cX11_text 1 = .ok (.invokestatic 186, 3) := by decide +kernel
theorem dX11_text_4 : decode cX11_text 4 = .ok (.ifCond .eq 9, 3) := by decide +kernel
theorem dX11_text_7 : decode cX11_text 7 = .ok (.iload_n 2, 1) := by decide +kernel
theorem dX11_text_8 : decode cX11_text 8 = .ok (.bipush 40, 2) := by decide +kernel
theorem dX11_text_10 : decode cX11_text 10 = .ok (.if_icmp .le 5, 3) := by decide +kernel
theorem dX11_text_13 : decode cX11_text 13 = .ok (.iconst (-1), 1) := by decide +kernel
theorem dX11_text_14 : decode cX11_text 14 = .ok (.ireturn, 1) := by decide +kernel
theorem dX11_text_15 : decode cX11_text 15 = .ok (.iload_n 2, 1) := by decide +kernel
theorem dX11_text_16 : decode cX11_text 16 = .ok (.ifCond .ge 9, 3) := by decide +kernel
theorem dX11_text_19 : decode cX11_text 19 = .ok (.aload_n 0, 1) := by decide +kernel
theorem dX11_text_20 : decode cX11_text 20 = .ok (.iconst 5, 1) := by decide +kernel
theorem dX11_text_21 : decode cX11_text 21 = .ok (.invokevirtual 190, 3) := by decide +kernel
theorem dX11_text_24 : decode cX11_text 24 = .ok (.ireturn, 1) := by decide +kernel
theorem dX11_text_25 : decode cX11_text 25 = .ok (.aload_n 0, 1) := by decide +kernel
theorem dX11_text_26 : decode cX11_text 26 = .ok (.getfield 26, 3) := by decide +kernel
theorem dX11_text_29 : decode cX11_text 29 = .ok (.iload_n 1, 1) := by decide +kernel
theorem dX11_text_30 : decode cX11_text 30 = .ok (.iload_n 2, 1) := by decide +kernel
theorem dX11_text_31 : decode cX11_text 31 = .ok (.iastore, 1) := by decide +kernel
theorem dX11_text_32 : decode cX11_text 32 = .ok (.iconst 0, 1) := by decide +kernel
theorem dX11_text_33 : decode cX11_text 33 = .ok (.istore_n 3, 1) := by decide +kernel
theorem dX11_text_34 : decode cX11_text 34 = .ok (.iload_n 3, 1) := by decide +kernel
theorem dX11_text_35 : decode cX11_text 35 = .ok (.bipush 40, 2) := by decide +kernel
theorem dX11_text_37 : decode cX11_text 37 = .ok (.if_icmp .ge 22, 3) := by decide +kernel
theorem dX11_text_40 : decode cX11_text 40 = .ok (.aload_n 0, 1) := by decide +kernel
theorem dX11_text_41 : decode cX11_text 41 = .ok (.getfield 29, 3) := by decide +kernel
theorem dX11_text_44 : decode cX11_text 44 = .ok (.bipush 40, 2) := by decide +kernel
theorem dX11_text_46 : decode cX11_text 46 = .ok (.iload_n 1, 1) := by decide +kernel
theorem dX11_text_47 : decode cX11_text 47 = .ok (.imul, 1) := by decide +kernel
theorem dX11_text_48 : decode cX11_text 48 = .ok (.iload_n 3, 1) := by decide +kernel
theorem dX11_text_49 : decode cX11_text 49 = .ok (.iadd, 1) := by decide +kernel
theorem dX11_text_50 : decode cX11_text 50 = .ok (.bipush 32, 2) := by decide +kernel
theorem dX11_text_52 : decode cX11_text 52 = .ok (.iastore, 1) := by decide +kernel
theorem dX11_text_53 : decode cX11_text 53 = .ok (.iinc 3 1, 3) := by decide +kernel
theorem dX11_text_56 : decode cX11_text 56 = .ok (.goto (-22), 3) := by decide +kernel
theorem dX11_text_59 : decode cX11_text 59 = .ok (.iload_n 2, 1) := by decide +kernel
theorem dX11_text_60 : decode cX11_text 60 = .ok (.ireturn, 1) := by decide +kernel
noncomputable def L_X11_text_34 (x1 : Int32) (x2 : Int32) : Nat → Int32 → qM → (qM → Option (Int32 × qM)) → Option (Int32 × qM)
  | 0, _, _, _ => none
  | n + 1, x4, u4, e1 => if 40 ≤ x4 then e1 u4 else q_ck (q_in ((40 * x1) + x4) 240) (q_lt (q_si u4 70 0 (Int32.toNatClampNeg ((40 * x1) + x4)) 32) (fun (u5 : qM) => q_lt (x4 + 1) (fun (x5 : Int32) => L_X11_text_34 x1 x2 n x5 u5 e1)))
noncomputable def f_X11_text (x1 : Int32) (x2 : Int32) (u0 : qM) : Option (Int32 × qM) :=
  q_bd (f_X11_isSix x1 u0) (fun (x3 : Int32) (u1 : qM) => q_jn (fun  (u2 : qM) => some ((-1), u2)) (fun j1 => if x3 = 0 then j1 u1 else if x2 ≤ 40 then if (0 : Int32) ≤ x2 then q_ck (q_in x1 6) (q_lt (q_si u1 69 0 (Int32.toNatClampNeg x1) x2) (fun (u3 : qM) => L_X11_text_34 x1 x2 q_fu 0 u3 (fun u6 => some (x2, u6)))) else q_bd (f_X11_meets 5 u1) (fun (x6 : Int32) (u7 : qM) => some (x6, u7)) else j1 u1))
set_option maxRecDepth 100000 in
set_option maxHeartbeats 4000000 in
theorem TL_X11_text_34 (l : Launch) (G : qG) (x1 : Int32) (x2 : Int32)  (e1 : qM → Option (Int32 × qM)) (he1 : ∀  (v : qM), qAW l G m_X11_text (q_mq G q_cI) 59 [(2, .int x2)] [] v (e1 v)) : ∀ (n : Nat) (x4 : Int32) (u4 : qM), qAW l G m_X11_text (q_mq G q_cI) 34 [(0, .ref (q_ad G 11 0)), (1, .int x1), (2, .int x2), (3, .int x4)] [] u4 (L_X11_text_34 x1 x2 n x4 u4 e1) := by
  intro n
  induction n with
  | zero => intros; exact aw_none
  | succ n ih =>
    intro x4 u4
    unfold L_X11_text_34
    refine aw_iload_n (i := 3) dX11_text_34 35 rfl rfl 3 rfl ?_
    refine aw_bipush (x := 40) dX11_text_35 37 rfl rfl ?_
    refine aw_icmp_ge dX11_text_37 40 rfl 59 rfl (fun h5 => ?_) (fun h5 => ?_)
    · exact aw_conv [2] rfl (he1 u4)
    · refine aw_aload_n (i := 0) dX11_text_40 41 rfl rfl 0 rfl ?_
      refine gf_X11_10 dX11_text_41 44 rfl wd_238 (ok_11 (by decide)) ?_
      refine aw_bipush (x := 40) dX11_text_44 46 rfl rfl ?_
      refine aw_iload_n (i := 1) dX11_text_46 47 rfl rfl 1 rfl ?_
      refine aw_imul dX11_text_47 48 rfl ?_
      refine aw_iload_n (i := 3) dX11_text_48 49 rfl rfl 3 rfl ?_
      refine aw_iadd dX11_text_49 50 rfl ?_
      refine aw_bipush (x := 32) dX11_text_50 52 rfl rfl ?_
      refine aw_iast dX11_text_52 53 rfl at_70 (al_70 _) (ok_70 (by decide)) (fun h6 => ?_)
      refine aw_ltm (fun u5 => ?_)
      refine aw_iincx (i := 3) dX11_text_53 56 rfl 3 rfl 1 rfl (fun x5 => [(3, .int x5), (0, .ref (q_ad G 11 0)), (1, .int x1), (2, .int x2)]) (by decide) (fun _ => rfl) (fun x5 => ?_)
      refine aw_goto dX11_text_56 34 rfl ?_
      exact aw_conv [1, 2, 3, 0] rfl (ih x5 u5)
set_option maxRecDepth 100000 in
set_option maxHeartbeats 4000000 in
theorem k_X11_text (l : Launch) (G : qG) (x1 : Int32) (x2 : Int32)  (u0 : qM) : qCt l G m_X11_text q_cI [.ref (q_ad G 11 0), .int x1, .int x2] u0 (f_X11_text x1 x2 u0) := by
  refine q_entry pk_X11_text (Nat.le_of_ble_eq_true rfl) ?_
  show qAW l G m_X11_text (q_mq G q_cI) 0 [(0, .ref (q_ad G 11 0)), (1, .int x1), (2, .int x2)] [] u0 (f_X11_text x1 x2 u0)
  unfold f_X11_text
  refine aw_iload_n (i := 1) dX11_text_0 1 rfl rfl 1 rfl ?_
  refine aw_callS (M2 := m_X11_isSix) (cv := q_cI) dX11_text_1 4 rfl (k_X11_isSix l G x1  u0) wd_227 wv_X11_isSix pk_X11_isSix rfl ⟨by decide, by decide⟩ ⟨Nat.zero_le _, Nat.zero_le _⟩ rfl (Nat.le_of_ble_eq_true rfl) (fun x3 u1 => ?_)
  show qAW l G m_X11_text (q_mq G q_cI) 4 [(0, .ref (q_ad G 11 0)), (1, .int x1), (2, .int x2)] [.int x3] u1 _
  refine aw_jn (fun k => ∀  (u2 : qM), qAW l G m_X11_text (q_mq G q_cI) 13 [] [] u2 (k u2)) ?_ ?_
  · intro u2
    refine aw_iconst (x := (-1)) dX11_text_13 14 rfl rfl ?_
    exact aw_iret dX11_text_14 rfl
  · intro j1 hj1
    refine aw_if_eq dX11_text_4 7 rfl 13 rfl (fun h1 => ?_) (fun h1 => ?_)
    · exact aw_conv [] rfl (hj1 u1)
    · refine aw_iload_n (i := 2) dX11_text_7 8 rfl rfl 2 rfl ?_
      refine aw_bipush (x := 40) dX11_text_8 10 rfl rfl ?_
      refine aw_icmp_le dX11_text_10 13 rfl 15 rfl (fun h2 => ?_) (fun h2 => ?_)
      · refine aw_iload_n (i := 2) dX11_text_15 16 rfl rfl 2 rfl ?_
        refine aw_if_ge dX11_text_16 19 rfl 25 rfl (fun h3 => ?_) (fun h3 => ?_)
        · refine aw_aload_n (i := 0) dX11_text_25 26 rfl rfl 0 rfl ?_
          refine gf_X11_9 dX11_text_26 29 rfl wd_237 (ok_11 (by decide)) ?_
          refine aw_iload_n (i := 1) dX11_text_29 30 rfl rfl 1 rfl ?_
          refine aw_iload_n (i := 2) dX11_text_30 31 rfl rfl 2 rfl ?_
          refine aw_iast dX11_text_31 32 rfl at_69 (al_69 _) (ok_69 (by decide)) (fun h4 => ?_)
          refine aw_ltm (fun u3 => ?_)
          refine aw_iconst (x := 0) dX11_text_32 33 rfl rfl ?_
          refine aw_istore_n dX11_text_33 34 rfl rfl [(3, .int 0), (0, .ref (q_ad G 11 0)), (1, .int x1), (2, .int x2)] (by decide) rfl ?_
          refine aw_conv [1, 2, 3, 0] rfl (TL_X11_text_34 l G x1 x2  _ ?_ _ 0 u3)
          · intro u6
            refine aw_iload_n (i := 2) dX11_text_59 60 rfl rfl 0 rfl ?_
            exact aw_iret dX11_text_60 rfl
        · refine aw_aload_n (i := 0) dX11_text_19 20 rfl rfl 0 rfl ?_
          refine aw_iconst (x := 5) dX11_text_20 21 rfl rfl ?_
          refine aw_callV (M2 := m_X11_meets) (cv := q_cI) dX11_text_21 24 rfl (k_X11_meets l G 5  u1) wd_229 wv_X11_meets pk_X11_meets rfl rfl ⟨by decide, by decide⟩ ⟨Nat.zero_le _, Nat.zero_le _⟩ at_11 (ok_11 (by decide)) rfl rfl rfl (Nat.le_of_ble_eq_true rfl) (fun x6 u7 => ?_)
          show qAW l G m_X11_text (q_mq G q_cI) 24 [(0, .ref (q_ad G 11 0)), (1, .int x1), (2, .int x2)] [.int x6] u7 _
          exact aw_iret dX11_text_24 rfl
      · exact aw_conv [] rfl (hj1 u1)
theorem dX11_put_0 : decode cX11_put 0 = .ok (.aload_n 0, 1) := by decide +kernel
theorem dX11_put_1 : decode cX11_put 1 = .ok (.iload_n 1, 1) := by decide +kernel
theorem dX11_put_2 : decode cX11_put 2 = .ok (.invokevirtual 206, 3) := by decide +kernel
theorem dX11_put_5 : decode cX11_put 5 = .ok (.istore 4, 2) := by decide +kernel
theorem dX11_put_7 : decode cX11_put 7 = .ok (.iload 4, 2) := by decide +kernel
theorem dX11_put_9 : decode cX11_put 9 = .ok (.ifCond .ge 6, 3) := by decide +kernel
theorem dX11_put_12 : decode cX11_put 12 = .ok (.iload 4, 2) := by decide +kernel
theorem dX11_put_14 : decode cX11_put 14 = .ok (.ireturn, 1) := by decide +kernel
theorem dX11_put_15 : decode cX11_put 15 = .ok (.iload_n 2, 1) := by decide +kernel
theorem dX11_put_16 : decode cX11_put 16 = .ok (.iconst 0, 1) := by decide +kernel
theorem dX11_put_17 : decode cX11_put 17 = .ok (.aload_n 0, 1) := by decide +kernel
theorem dX11_put_18 : decode cX11_put 18 = .ok (.getfield 26, 3) := by decide +kernel
theorem dX11_put_21 : decode cX11_put 21 = .ok (.iload_n 1, 1) := by decide +kernel
theorem dX11_put_22 : decode cX11_put 22 = .ok (.iaload, 1) := by decide +kernel
theorem dX11_put_23 : decode cX11_put 23 = .ok (.iconst 1, 1) := by decide +kernel
theorem dX11_put_24 : decode cX11_put 24 = .ok (.isub, 1) := by decide +kernel
theorem dX11_put_25 : decode cX11_put 25 = .ok (.invokestatic 182, 3) := by decide +kernel
theorem dX11_put_28 : decode cX11_put 28 = .ok (.ifCond .ne 9, 3) := by decide +kernel
theorem dX11_put_31 : decode cX11_put 31 = .ok (.aload_n 0, 1) := by decide +kernel
theorem dX11_put_32 : decode cX11_put 32 = .ok (.iconst 2, 1) := by decide +kernel
theorem dX11_put_33 : decode cX11_put 33 = .ok (.invokevirtual 190, 3) := by decide +kernel
theorem dX11_put_36 : decode cX11_put 36 = .ok (.ireturn, 1) := by decide +kernel
theorem dX11_put_37 : decode cX11_put 37 = .ok (.aload_n 0, 1) := by decide +kernel
theorem dX11_put_38 : decode cX11_put 38 = .ok (.getfield 29, 3) := by decide +kernel
theorem dX11_put_41 : decode cX11_put 41 = .ok (.bipush 40, 2) := by decide +kernel
theorem dX11_put_43 : decode cX11_put 43 = .ok (.iload_n 1, 1) := by decide +kernel
theorem dX11_put_44 : decode cX11_put 44 = .ok (.imul, 1) := by decide +kernel
theorem dX11_put_45 : decode cX11_put 45 = .ok (.iload_n 2, 1) := by decide +kernel
theorem dX11_put_46 : decode cX11_put 46 = .ok (.iadd, 1) := by decide +kernel
theorem dX11_put_47 : decode cX11_put 47 = .ok (.iaload, 1) := by decide +kernel
theorem dX11_put_48 : decode cX11_put 48 = .ok (.istore 5, 2) := by decide +kernel
theorem dX11_put_50 : decode cX11_put 50 = .ok (.aload_n 0, 1) := by decide +kernel
theorem dX11_put_51 : decode cX11_put 51 = .ok (.getfield 29, 3) := by decide +kernel
theorem dX11_put_54 : decode cX11_put 54 = .ok (.bipush 40, 2) := by decide +kernel
theorem dX11_put_56 : decode cX11_put 56 = .ok (.iload_n 1, 1) := by decide +kernel
theorem dX11_put_57 : decode cX11_put 57 = .ok (.imul, 1) := by decide +kernel
theorem dX11_put_58 : decode cX11_put 58 = .ok (.iload_n 2, 1) := by decide +kernel
theorem dX11_put_59 : decode cX11_put 59 = .ok (.iadd, 1) := by decide +kernel
theorem dX11_put_60 : decode cX11_put 60 = .ok (.iload_n 3, 1) := by decide +kernel
theorem dX11_put_61 : decode cX11_put 61 = .ok (.i2b, 1) := by decide +kernel
theorem dX11_put_62 : decode cX11_put 62 = .ok (.iastore, 1) := by decide +kernel
theorem dX11_put_63 : decode cX11_put 63 = .ok (.iload 5, 2) := by decide +kernel
theorem dX11_put_65 : decode cX11_put 65 = .ok (.sipush 1000, 3) := by decide +kernel
theorem dX11_put_68 : decode cX11_put 68 = .ok (.iadd, 1) := by decide +kernel
theorem dX11_put_69 : decode cX11_put 69 = .ok (.ireturn, 1) := by decide +kernel
noncomputable def f_X11_put (x1 : Int32) (x2 : Int32) (x3 : Int32) (u0 : qM) : Option (Int32 × qM) :=
  q_bd (f_X11_lookedText x1 u0) (fun (x4 : Int32) (u1 : qM) => if (0 : Int32) ≤ x4 then q_ck (q_in x1 6) (q_bd (f_X11_in x2 0 ((u1.1 69 0 (Int32.toNatClampNeg x1)) - 1) u1) (fun (x5 : Int32) (u2 : qM) => if x5 = 0 then q_bd (f_X11_meets 2 u2) (fun (x7 : Int32) (u4 : qM) => some (x7, u4)) else q_ck (q_in ((40 * x1) + x2) 240) (q_lt (u2.1 70 0 (Int32.toNatClampNeg ((40 * x1) + x2))) (fun (x6 : Int32) => q_ck (q_in ((40 * x1) + x2) 240) (q_lt (q_si u2 70 0 (Int32.toNatClampNeg ((40 * x1) + x2)) (Int8.toInt32 (Int32.toInt8 x3))) (fun (u3 : qM) => some (x6 + 1000, u3))))))) else some (x4, u1))
set_option maxRecDepth 100000 in
set_option maxHeartbeats 4000000 in
theorem k_X11_put (l : Launch) (G : qG) (x1 : Int32) (x2 : Int32) (x3 : Int32)  (u0 : qM) : qCt l G m_X11_put q_cI [.ref (q_ad G 11 0), .int x1, .int x2, .int x3] u0 (f_X11_put x1 x2 x3 u0) := by
  refine q_entry pk_X11_put (Nat.le_of_ble_eq_true rfl) ?_
  show qAW l G m_X11_put (q_mq G q_cI) 0 [(0, .ref (q_ad G 11 0)), (1, .int x1), (2, .int x2), (3, .int x3)] [] u0 (f_X11_put x1 x2 x3 u0)
  unfold f_X11_put
  refine aw_aload_n (i := 0) dX11_put_0 1 rfl rfl 0 rfl ?_
  refine aw_iload_n (i := 1) dX11_put_1 2 rfl rfl 1 rfl ?_
  refine aw_callV (M2 := m_X11_lookedText) (cv := q_cI) dX11_put_2 5 rfl (k_X11_lookedText l G x1  u0) wd_239 wv_X11_lookedText pk_X11_lookedText rfl rfl ⟨by decide, by decide⟩ ⟨Nat.zero_le _, Nat.zero_le _⟩ at_11 (ok_11 (by decide)) rfl rfl rfl (Nat.le_of_ble_eq_true rfl) (fun x4 u1 => ?_)
  show qAW l G m_X11_put (q_mq G q_cI) 5 [(0, .ref (q_ad G 11 0)), (1, .int x1), (2, .int x2), (3, .int x3)] [.int x4] u1 _
  refine aw_istore dX11_put_5 7 rfl [(4, .int x4), (0, .ref (q_ad G 11 0)), (1, .int x1), (2, .int x2), (3, .int x3)] (by decide) rfl ?_
  refine aw_iload (i := 4) dX11_put_7 9 rfl 0 rfl ?_
  refine aw_if_ge dX11_put_9 12 rfl 15 rfl (fun h1 => ?_) (fun h1 => ?_)
  · refine aw_iload_n (i := 2) dX11_put_15 16 rfl rfl 3 rfl ?_
    refine aw_iconst (x := 0) dX11_put_16 17 rfl rfl ?_
    refine aw_aload_n (i := 0) dX11_put_17 18 rfl rfl 1 rfl ?_
    refine gf_X11_9 dX11_put_18 21 rfl wd_237 (ok_11 (by decide)) ?_
    refine aw_iload_n (i := 1) dX11_put_21 22 rfl rfl 2 rfl ?_
    refine aw_iald dX11_put_22 23 rfl at_69 (al_69 _) (ok_69 (by decide)) (fun h2 => ?_)
    refine aw_iconst (x := 1) dX11_put_23 24 rfl rfl ?_
    refine aw_isub dX11_put_24 25 rfl ?_
    refine aw_callS (M2 := m_X11_in) (cv := q_cI) dX11_put_25 28 rfl (k_X11_in l G x2 0 ((u1.1 69 0 (Int32.toNatClampNeg x1)) - 1)  u1) wd_226 wv_X11_in pk_X11_in rfl ⟨by decide, by decide⟩ ⟨Nat.zero_le _, Nat.zero_le _⟩ rfl (Nat.le_of_ble_eq_true rfl) (fun x5 u2 => ?_)
    show qAW l G m_X11_put (q_mq G q_cI) 28 [(4, .int x4), (0, .ref (q_ad G 11 0)), (1, .int x1), (2, .int x2), (3, .int x3)] [.int x5] u2 _
    refine aw_if_ne dX11_put_28 31 rfl 37 rfl (fun h3 => ?_) (fun h3 => ?_)
    · refine aw_aload_n (i := 0) dX11_put_37 38 rfl rfl 1 rfl ?_
      refine gf_X11_10 dX11_put_38 41 rfl wd_238 (ok_11 (by decide)) ?_
      refine aw_bipush (x := 40) dX11_put_41 43 rfl rfl ?_
      refine aw_iload_n (i := 1) dX11_put_43 44 rfl rfl 2 rfl ?_
      refine aw_imul dX11_put_44 45 rfl ?_
      refine aw_iload_n (i := 2) dX11_put_45 46 rfl rfl 3 rfl ?_
      refine aw_iadd dX11_put_46 47 rfl ?_
      refine aw_iald dX11_put_47 48 rfl at_70 (al_70 _) (ok_70 (by decide)) (fun h4 => ?_)
      refine aw_lti (fun x6 => ?_)
      refine aw_istore dX11_put_48 50 rfl [(5, .int x6), (4, .int x4), (0, .ref (q_ad G 11 0)), (1, .int x1), (2, .int x2), (3, .int x3)] (by decide) rfl ?_
      refine aw_aload_n (i := 0) dX11_put_50 51 rfl rfl 2 rfl ?_
      refine gf_X11_10 dX11_put_51 54 rfl wd_238 (ok_11 (by decide)) ?_
      refine aw_bipush (x := 40) dX11_put_54 56 rfl rfl ?_
      refine aw_iload_n (i := 1) dX11_put_56 57 rfl rfl 3 rfl ?_
      refine aw_imul dX11_put_57 58 rfl ?_
      refine aw_iload_n (i := 2) dX11_put_58 59 rfl rfl 4 rfl ?_
      refine aw_iadd dX11_put_59 60 rfl ?_
      refine aw_iload_n (i := 3) dX11_put_60 61 rfl rfl 5 rfl ?_
      refine aw_i2b dX11_put_61 62 rfl ?_
      refine aw_iast dX11_put_62 63 rfl at_70 (al_70 _) (ok_70 (by decide)) (fun h5 => ?_)
      refine aw_ltm (fun u3 => ?_)
      refine aw_iload (i := 5) dX11_put_63 65 rfl 0 rfl ?_
      refine aw_sipush (x := 1000) dX11_put_65 68 rfl rfl ?_
      refine aw_iadd dX11_put_68 69 rfl ?_
      exact aw_iret dX11_put_69 rfl
    · refine aw_aload_n (i := 0) dX11_put_31 32 rfl rfl 1 rfl ?_
      refine aw_iconst (x := 2) dX11_put_32 33 rfl rfl ?_
      refine aw_callV (M2 := m_X11_meets) (cv := q_cI) dX11_put_33 36 rfl (k_X11_meets l G 2  u2) wd_229 wv_X11_meets pk_X11_meets rfl rfl ⟨by decide, by decide⟩ ⟨Nat.zero_le _, Nat.zero_le _⟩ at_11 (ok_11 (by decide)) rfl rfl rfl (Nat.le_of_ble_eq_true rfl) (fun x7 u4 => ?_)
      show qAW l G m_X11_put (q_mq G q_cI) 36 [(4, .int x4), (0, .ref (q_ad G 11 0)), (1, .int x1), (2, .int x2), (3, .int x3)] [.int x7] u4 _
      exact aw_iret dX11_put_36 rfl
  · refine aw_iload (i := 4) dX11_put_12 14 rfl 0 rfl ?_
    exact aw_iret dX11_put_14 rfl
theorem dX11_burn_0 : decode cX11_burn 0 = .ok (.aload_n 0, 1) := by decide +kernel
theorem dX11_burn_1 : decode cX11_burn 1 = .ok (.iload_n 1, 1) := by decide +kernel
theorem dX11_burn_2 : decode cX11_burn 2 = .ok (.invokevirtual 206, 3) := by decide +kernel
theorem dX11_burn_5 : decode cX11_burn 5 = .ok (.istore_n 2, 1) := by decide +kernel
theorem dX11_burn_6 : decode cX11_burn 6 = .ok (.iload_n 2, 1) := by decide +kernel
theorem dX11_burn_7 : decode cX11_burn 7 = .ok (.ifCond .ge 5, 3) := by decide +kernel
theorem dX11_burn_10 : decode cX11_burn 10 = .ok (.iload_n 2, 1) := by decide +kernel
theorem dX11_burn_11 : decode cX11_burn 11 = .ok (.ireturn, 1) := by decide +kernel
theorem dX11_burn_12 : decode cX11_burn 12 = .ok (.aload_n 0, 1) := by decide +kernel
theorem dX11_burn_13 : decode cX11_burn 13 = .ok (.getfield 26, 3) := by decide +kernel
theorem dX11_burn_16 : decode cX11_burn 16 = .ok (.iload_n 1, 1) := by decide +kernel
theorem dX11_burn_17 : decode cX11_burn 17 = .ok (.bipush (-9), 2) := by decide +kernel
theorem dX11_burn_19 : decode cX11_burn 19 = .ok (.iastore, 1) := by decide +kernel
theorem dX11_burn_20 : decode cX11_burn 20 = .ok (.iconst 1, 1) := by decide +kernel
theorem dX11_burn_21 : decode cX11_burn 21 = .ok (.ireturn, 1) := by decide +kernel
noncomputable def f_X11_burn (x1 : Int32) (u0 : qM) : Option (Int32 × qM) :=
  q_bd (f_X11_lookedText x1 u0) (fun (x2 : Int32) (u1 : qM) => if (0 : Int32) ≤ x2 then q_ck (q_in x1 6) (q_lt (q_si u1 69 0 (Int32.toNatClampNeg x1) (-9)) (fun (u2 : qM) => some (1, u2))) else some (x2, u1))
set_option maxRecDepth 100000 in
set_option maxHeartbeats 4000000 in
theorem k_X11_burn (l : Launch) (G : qG) (x1 : Int32)  (u0 : qM) : qCt l G m_X11_burn q_cI [.ref (q_ad G 11 0), .int x1] u0 (f_X11_burn x1 u0) := by
  refine q_entry pk_X11_burn (Nat.le_of_ble_eq_true rfl) ?_
  show qAW l G m_X11_burn (q_mq G q_cI) 0 [(0, .ref (q_ad G 11 0)), (1, .int x1)] [] u0 (f_X11_burn x1 u0)
  unfold f_X11_burn
  refine aw_aload_n (i := 0) dX11_burn_0 1 rfl rfl 0 rfl ?_
  refine aw_iload_n (i := 1) dX11_burn_1 2 rfl rfl 1 rfl ?_
  refine aw_callV (M2 := m_X11_lookedText) (cv := q_cI) dX11_burn_2 5 rfl (k_X11_lookedText l G x1  u0) wd_239 wv_X11_lookedText pk_X11_lookedText rfl rfl ⟨by decide, by decide⟩ ⟨Nat.zero_le _, Nat.zero_le _⟩ at_11 (ok_11 (by decide)) rfl rfl rfl (Nat.le_of_ble_eq_true rfl) (fun x2 u1 => ?_)
  show qAW l G m_X11_burn (q_mq G q_cI) 5 [(0, .ref (q_ad G 11 0)), (1, .int x1)] [.int x2] u1 _
  refine aw_istore_n dX11_burn_5 6 rfl rfl [(2, .int x2), (0, .ref (q_ad G 11 0)), (1, .int x1)] (by decide) rfl ?_
  refine aw_iload_n (i := 2) dX11_burn_6 7 rfl rfl 0 rfl ?_
  refine aw_if_ge dX11_burn_7 10 rfl 12 rfl (fun h1 => ?_) (fun h1 => ?_)
  · refine aw_aload_n (i := 0) dX11_burn_12 13 rfl rfl 1 rfl ?_
    refine gf_X11_9 dX11_burn_13 16 rfl wd_237 (ok_11 (by decide)) ?_
    refine aw_iload_n (i := 1) dX11_burn_16 17 rfl rfl 2 rfl ?_
    refine aw_bipush (x := (-9)) dX11_burn_17 19 rfl rfl ?_
    refine aw_iast dX11_burn_19 20 rfl at_69 (al_69 _) (ok_69 (by decide)) (fun h2 => ?_)
    refine aw_ltm (fun u2 => ?_)
    refine aw_iconst (x := 1) dX11_burn_20 21 rfl rfl ?_
    exact aw_iret dX11_burn_21 rfl
  · refine aw_iload_n (i := 2) dX11_burn_10 11 rfl rfl 0 rfl ?_
    exact aw_iret dX11_burn_11 rfl
theorem dX11_isLetter_0 : decode cX11_isLetter 0 = .ok (.iload_n 0, 1) := by decide +kernel
theorem dX11_isLetter_1 : decode cX11_isLetter 1 = .ok (.bipush 87, 2) := by decide +kernel
theorem dX11_isLetter_3 : decode cX11_isLetter 3 = .ok (.if_icmp .eq 39, 3) := by decide +kernel
theorem dX11_isLetter_6 : decode cX11_isLetter 6 = .ok (.iload_n 0, 1) := by decide +kernel
theorem dX11_isLetter_7 : decode cX11_isLetter 7 = .ok (.bipush 86, 2) := by decide +kernel
theorem dX11_isLetter_9 : decode cX11_isLetter 9 = .ok (.if_icmp .eq 33, 3) := by decide +kernel
theorem dX11_isLetter_12 : decode cX11_isLetter 12 = .ok (.iload_n 0, 1) := by decide +kernel
theorem dX11_isLetter_13 : decode cX11_isLetter 13 = .ok (.bipush 83, 2) := by decide +kernel
theorem dX11_isLetter_15 : decode cX11_isLetter 15 = .ok (.if_icmp .eq 27, 3) := by decide +kernel
theorem dX11_isLetter_18 : decode cX11_isLetter 18 = .ok (.iload_n 0, 1) := by decide +kernel
theorem dX11_isLetter_19 : decode cX11_isLetter 19 = .ok (.bipush 71, 2) := by decide +kernel
theorem dX11_isLetter_21 : decode cX11_isLetter 21 = .ok (.if_icmp .eq 21, 3) := by decide +kernel
theorem dX11_isLetter_24 : decode cX11_isLetter 24 = .ok (.iload_n 0, 1) := by decide +kernel
theorem dX11_isLetter_25 : decode cX11_isLetter 25 = .ok (.bipush 84, 2) := by decide +kernel
theorem dX11_isLetter_27 : decode cX11_isLetter 27 = .ok (.if_icmp .eq 15, 3) := by decide +kernel
theorem dX11_isLetter_30 : decode cX11_isLetter 30 = .ok (.iload_n 0, 1) := by decide +kernel
theorem dX11_isLetter_31 : decode cX11_isLetter 31 = .ok (.bipush 80, 2) := by decide +kernel
theorem dX11_isLetter_33 : decode cX11_isLetter 33 = .ok (.if_icmp .eq 9, 3) := by decide +kernel
theorem dX11_isLetter_36 : decode cX11_isLetter 36 = .ok (.iload_n 0, 1) := by decide +kernel
theorem dX11_isLetter_37 : decode cX11_isLetter 37 = .ok (.bipush 82, 2) := by decide +kernel
theorem dX11_isLetter_39 : decode cX11_isLetter 39 = .ok (.if_icmp .ne 7, 3) := by decide +kernel
theorem dX11_isLetter_42 : decode cX11_isLetter 42 = .ok (.iconst 1, 1) := by decide +kernel
theorem dX11_isLetter_43 : decode cX11_isLetter 43 = .ok (.goto 4, 3) := by decide +kernel
theorem dX11_isLetter_46 : decode cX11_isLetter 46 = .ok (.iconst 0, 1) := by decide +kernel
theorem dX11_isLetter_47 : decode cX11_isLetter 47 = .ok (.ireturn, 1) := by decide +kernel
noncomputable def f_X11_isLetter (x1 : Int32) (u0 : qM) : Option (Int32 × qM) :=
  q_jn (fun (x2 : Int32) (u1 : qM) => q_ck (q_b x2) (some (x2, u1))) (fun j1 => q_jn (fun  (u2 : qM) => j1 1 u2) (fun j2 => if x1 = 87 then j2 u0 else if x1 = 86 then j2 u0 else if x1 = 83 then j2 u0 else if x1 = 71 then j2 u0 else if x1 = 84 then j2 u0 else if x1 = 80 then j2 u0 else if x1 = 82 then j2 u0 else j1 0 u0))
set_option maxRecDepth 100000 in
set_option maxHeartbeats 4000000 in
theorem k_X11_isLetter (l : Launch) (G : qG) (x1 : Int32)  (u0 : qM) : qCt l G m_X11_isLetter q_cI [.int x1] u0 (f_X11_isLetter x1 u0) := by
  refine q_entry pk_X11_isLetter (Nat.le_of_ble_eq_true rfl) ?_
  show qAW l G m_X11_isLetter (q_mq G q_cI) 0 [(0, .int x1)] [] u0 (f_X11_isLetter x1 u0)
  unfold f_X11_isLetter
  refine aw_iload_n (i := 0) dX11_isLetter_0 1 rfl rfl 0 rfl ?_
  refine aw_bipush (x := 87) dX11_isLetter_1 3 rfl rfl ?_
  refine aw_jn (fun k => ∀ (x2 : Int32) (u1 : qM), qAW l G m_X11_isLetter (q_mq G q_cI) 47 [] [.int x2] u1 (k x2 u1)) ?_ ?_
  · intro x2 u1
    refine aw_ck (fun h2 => ?_)
    exact aw_zret dX11_isLetter_47 rfl h2
  · intro j1 hj1
    refine aw_jn (fun k => ∀  (u2 : qM), qAW l G m_X11_isLetter (q_mq G q_cI) 42 [] [] u2 (k u2)) ?_ ?_
    · intro u2
      refine aw_iconst (x := 1) dX11_isLetter_42 43 rfl rfl ?_
      refine aw_goto dX11_isLetter_43 47 rfl ?_
      exact hj1 1 u2
    · intro j2 hj2
      refine aw_icmp_eq dX11_isLetter_3 6 rfl 42 rfl (fun h1 => ?_) (fun h1 => ?_)
      · exact aw_conv [] rfl (hj2 u0)
      · refine aw_iload_n (i := 0) dX11_isLetter_6 7 rfl rfl 0 rfl ?_
        refine aw_bipush (x := 86) dX11_isLetter_7 9 rfl rfl ?_
        refine aw_icmp_eq dX11_isLetter_9 12 rfl 42 rfl (fun h3 => ?_) (fun h3 => ?_)
        · exact aw_conv [] rfl (hj2 u0)
        · refine aw_iload_n (i := 0) dX11_isLetter_12 13 rfl rfl 0 rfl ?_
          refine aw_bipush (x := 83) dX11_isLetter_13 15 rfl rfl ?_
          refine aw_icmp_eq dX11_isLetter_15 18 rfl 42 rfl (fun h4 => ?_) (fun h4 => ?_)
          · exact aw_conv [] rfl (hj2 u0)
          · refine aw_iload_n (i := 0) dX11_isLetter_18 19 rfl rfl 0 rfl ?_
            refine aw_bipush (x := 71) dX11_isLetter_19 21 rfl rfl ?_
            refine aw_icmp_eq dX11_isLetter_21 24 rfl 42 rfl (fun h5 => ?_) (fun h5 => ?_)
            · exact aw_conv [] rfl (hj2 u0)
            · refine aw_iload_n (i := 0) dX11_isLetter_24 25 rfl rfl 0 rfl ?_
              refine aw_bipush (x := 84) dX11_isLetter_25 27 rfl rfl ?_
              refine aw_icmp_eq dX11_isLetter_27 30 rfl 42 rfl (fun h6 => ?_) (fun h6 => ?_)
              · exact aw_conv [] rfl (hj2 u0)
              · refine aw_iload_n (i := 0) dX11_isLetter_30 31 rfl rfl 0 rfl ?_
                refine aw_bipush (x := 80) dX11_isLetter_31 33 rfl rfl ?_
                refine aw_icmp_eq dX11_isLetter_33 36 rfl 42 rfl (fun h7 => ?_) (fun h7 => ?_)
                · exact aw_conv [] rfl (hj2 u0)
                · refine aw_iload_n (i := 0) dX11_isLetter_36 37 rfl rfl 0 rfl ?_
                  refine aw_bipush (x := 82) dX11_isLetter_37 39 rfl rfl ?_
                  refine aw_icmp_ne dX11_isLetter_39 42 rfl 46 rfl (fun h8 => ?_) (fun h8 => ?_)
                  · refine aw_iconst (x := 0) dX11_isLetter_46 47 rfl rfl ?_
                    exact aw_conv [] rfl (hj1 0 u0)
                  · exact aw_conv [] rfl (hj2 u0)
theorem dX11_may_0 : decode cX11_may 0 = .ok (.iload_n 0, 1) := by decide +kernel
theorem dX11_may_1 : decode cX11_may 1 = .ok (.tableswitch 128 71 87 #[100, 128, 128, 128, 128, 128, 128, 128, 128, 120, 128, 128, 92, 109, 128, 83, 83], 83) := by decide +kernel
theorem dX11_may_84 : decode cX11_may 84 = .ok (.iload_n 1, 1) := by decide +kernel
theorem dX11_may_85 : decode cX11_may 85 = .ok (.bipush (-50), 2) := by decide +kernel
theorem dX11_may_87 : decode cX11_may 87 = .ok (.bipush 50, 2) := by decide +kernel
theorem dX11_may_89 : decode cX11_may 89 = .ok (.invokestatic 182, 3) := by decide +kernel
theorem dX11_may_92 : decode cX11_may 92 = .ok (.ireturn, 1) := by decide +kernel
theorem dX11_may_93 : decode cX11_may 93 = .ok (.iload_n 1, 1) := by decide +kernel
theorem dX11_may_94 : decode cX11_may 94 = .ok (.iconst 0, 1) := by decide +kernel
theorem dX11_may_95 : decode cX11_may 95 = .ok (.bipush 24, 2) := by decide +kernel
theorem dX11_may_97 : decode cX11_may 97 = .ok (.invokestatic 182, 3) := by decide +kernel
theorem dX11_may_100 : decode cX11_may 100 = .ok (.ireturn, 1) := by decide +kernel
theorem dX11_may_101 : decode cX11_may 101 = .ok (.iload_n 1, 1) := by decide +kernel
theorem dX11_may_102 : decode cX11_may 102 = .ok (.iconst 0, 1) := by decide +kernel
theorem dX11_may_103 : decode cX11_may 103 = .ok (.sipush 9999, 3) := by decide +kernel
theorem dX11_may_106 : decode cX11_may 106 = .ok (.invokestatic 182, 3) := by decide +kernel
theorem dX11_may_109 : decode cX11_may 109 = .ok (.ireturn, 1) := by decide +kernel
theorem dX11_may_110 : decode cX11_may 110 = .ok (.iload_n 1, 1) := by decide +kernel
theorem dX11_may_111 : decode cX11_may 111 = .ok (.sipush (-500), 3) := by decide +kernel
theorem dX11_may_114 : decode cX11_may 114 = .ok (.sipush 500, 3) := by decide +kernel
theorem dX11_may_117 : decode cX11_may 117 = .ok (.invokestatic 182, 3) := by decide +kernel
theorem dX11_may_120 : decode cX11_may 120 = .ok (.ireturn, 1) := by decide +kernel
theorem dX11_may_121 : decode cX11_may 121 = .ok (.iload_n 1, 1) := by decide +kernel
theorem dX11_may_122 : decode cX11_may 122 = .ok (.iconst 1, 1) := by decide +kernel
theorem dX11_may_123 : decode cX11_may 123 = .ok (.bipush 8, 2) := by decide +kernel
theorem dX11_may_125 : decode cX11_may 125 = .ok (.invokestatic 182, 3) := by decide +kernel
theorem dX11_may_128 : decode cX11_may 128 = .ok (.ireturn, 1) := by decide +kernel
theorem dX11_may_129 : decode cX11_may 129 = .ok (.iload_n 1, 1) := by decide +kernel
theorem dX11_may_130 : decode cX11_may 130 = .ok (.iconst 0, 1) := by decide +kernel
theorem dX11_may_131 : decode cX11_may 131 = .ok (.sipush 1000, 3) := by decide +kernel
theorem dX11_may_134 : decode cX11_may 134 = .ok (.invokestatic 182, 3) := by decide +kernel
theorem dX11_may_137 : decode cX11_may 137 = .ok (.ireturn, 1) := by decide +kernel
noncomputable def f_X11_may (x1 : Int32) (x2 : Int32) (u0 : qM) : Option (Int32 × qM) :=
  if x1 = 71 then q_bd (f_X11_in x2 0 9999 u0) (fun (x3 : Int32) (u1 : qM) => q_ck (q_b x3) (some (x3, u1))) else if x1 = 80 then q_bd (f_X11_in x2 1 8 u0) (fun (x4 : Int32) (u2 : qM) => q_ck (q_b x4) (some (x4, u2))) else if x1 = 83 then q_bd (f_X11_in x2 0 24 u0) (fun (x5 : Int32) (u3 : qM) => q_ck (q_b x5) (some (x5, u3))) else if x1 = 84 then q_bd (f_X11_in x2 (-500) 500 u0) (fun (x6 : Int32) (u4 : qM) => q_ck (q_b x6) (some (x6, u4))) else if x1 = 86 then q_bd (f_X11_in x2 (-50) 50 u0) (fun (x7 : Int32) (u5 : qM) => q_ck (q_b x7) (some (x7, u5))) else if x1 = 87 then q_bd (f_X11_in x2 (-50) 50 u0) (fun (x8 : Int32) (u6 : qM) => q_ck (q_b x8) (some (x8, u6))) else q_bd (f_X11_in x2 0 1000 u0) (fun (x9 : Int32) (u7 : qM) => q_ck (q_b x9) (some (x9, u7)))
set_option maxRecDepth 100000 in
set_option maxHeartbeats 4000000 in
theorem k_X11_may (l : Launch) (G : qG) (x1 : Int32) (x2 : Int32)  (u0 : qM) : qCt l G m_X11_may q_cI [.int x1, .int x2] u0 (f_X11_may x1 x2 u0) := by
  refine q_entry pk_X11_may (Nat.le_of_ble_eq_true rfl) ?_
  show qAW l G m_X11_may (q_mq G q_cI) 0 [(0, .int x1), (1, .int x2)] [] u0 (f_X11_may x1 x2 u0)
  unfold f_X11_may
  refine aw_iload_n (i := 0) dX11_may_0 1 rfl rfl 0 rfl ?_
  refine aw_swIn (y := 71) dX11_may_1 101 (by decide) (by decide) rfl rfl (fun h1 => ?_) (fun h1 => ?_)
  · refine aw_iload_n (i := 1) dX11_may_101 102 rfl rfl 1 rfl ?_
    refine aw_iconst (x := 0) dX11_may_102 103 rfl rfl ?_
    refine aw_sipush (x := 9999) dX11_may_103 106 rfl rfl ?_
    refine aw_callS (M2 := m_X11_in) (cv := q_cI) dX11_may_106 109 rfl (k_X11_in l G x2 0 9999  u0) wd_226 wv_X11_in pk_X11_in rfl ⟨by decide, by decide⟩ ⟨Nat.zero_le _, Nat.zero_le _⟩ rfl (Nat.le_of_ble_eq_true rfl) (fun x3 u1 => ?_)
    show qAW l G m_X11_may (q_mq G q_cI) 109 [(0, .int x1), (1, .int x2)] [.int x3] u1 _
    refine aw_ck (fun h2 => ?_)
    exact aw_zret dX11_may_109 rfl h2
  · refine aw_swIn (y := 80) dX11_may_1 121 (by decide) (by decide) rfl rfl (fun h3 => ?_) (fun h3 => ?_)
    · refine aw_iload_n (i := 1) dX11_may_121 122 rfl rfl 1 rfl ?_
      refine aw_iconst (x := 1) dX11_may_122 123 rfl rfl ?_
      refine aw_bipush (x := 8) dX11_may_123 125 rfl rfl ?_
      refine aw_callS (M2 := m_X11_in) (cv := q_cI) dX11_may_125 128 rfl (k_X11_in l G x2 1 8  u0) wd_226 wv_X11_in pk_X11_in rfl ⟨by decide, by decide⟩ ⟨Nat.zero_le _, Nat.zero_le _⟩ rfl (Nat.le_of_ble_eq_true rfl) (fun x4 u2 => ?_)
      show qAW l G m_X11_may (q_mq G q_cI) 128 [(0, .int x1), (1, .int x2)] [.int x4] u2 _
      refine aw_ck (fun h4 => ?_)
      exact aw_zret dX11_may_128 rfl h4
    · refine aw_swIn (y := 83) dX11_may_1 93 (by decide) (by decide) rfl rfl (fun h5 => ?_) (fun h5 => ?_)
      · refine aw_iload_n (i := 1) dX11_may_93 94 rfl rfl 1 rfl ?_
        refine aw_iconst (x := 0) dX11_may_94 95 rfl rfl ?_
        refine aw_bipush (x := 24) dX11_may_95 97 rfl rfl ?_
        refine aw_callS (M2 := m_X11_in) (cv := q_cI) dX11_may_97 100 rfl (k_X11_in l G x2 0 24  u0) wd_226 wv_X11_in pk_X11_in rfl ⟨by decide, by decide⟩ ⟨Nat.zero_le _, Nat.zero_le _⟩ rfl (Nat.le_of_ble_eq_true rfl) (fun x5 u3 => ?_)
        show qAW l G m_X11_may (q_mq G q_cI) 100 [(0, .int x1), (1, .int x2)] [.int x5] u3 _
        refine aw_ck (fun h6 => ?_)
        exact aw_zret dX11_may_100 rfl h6
      · refine aw_swIn (y := 84) dX11_may_1 110 (by decide) (by decide) rfl rfl (fun h7 => ?_) (fun h7 => ?_)
        · refine aw_iload_n (i := 1) dX11_may_110 111 rfl rfl 1 rfl ?_
          refine aw_sipush (x := (-500)) dX11_may_111 114 rfl rfl ?_
          refine aw_sipush (x := 500) dX11_may_114 117 rfl rfl ?_
          refine aw_callS (M2 := m_X11_in) (cv := q_cI) dX11_may_117 120 rfl (k_X11_in l G x2 (-500) 500  u0) wd_226 wv_X11_in pk_X11_in rfl ⟨by decide, by decide⟩ ⟨Nat.zero_le _, Nat.zero_le _⟩ rfl (Nat.le_of_ble_eq_true rfl) (fun x6 u4 => ?_)
          show qAW l G m_X11_may (q_mq G q_cI) 120 [(0, .int x1), (1, .int x2)] [.int x6] u4 _
          refine aw_ck (fun h8 => ?_)
          exact aw_zret dX11_may_120 rfl h8
        · refine aw_swIn (y := 86) dX11_may_1 84 (by decide) (by decide) rfl rfl (fun h9 => ?_) (fun h9 => ?_)
          · refine aw_iload_n (i := 1) dX11_may_84 85 rfl rfl 1 rfl ?_
            refine aw_bipush (x := (-50)) dX11_may_85 87 rfl rfl ?_
            refine aw_bipush (x := 50) dX11_may_87 89 rfl rfl ?_
            refine aw_callS (M2 := m_X11_in) (cv := q_cI) dX11_may_89 92 rfl (k_X11_in l G x2 (-50) 50  u0) wd_226 wv_X11_in pk_X11_in rfl ⟨by decide, by decide⟩ ⟨Nat.zero_le _, Nat.zero_le _⟩ rfl (Nat.le_of_ble_eq_true rfl) (fun x7 u5 => ?_)
            show qAW l G m_X11_may (q_mq G q_cI) 92 [(0, .int x1), (1, .int x2)] [.int x7] u5 _
            refine aw_ck (fun h10 => ?_)
            exact aw_zret dX11_may_92 rfl h10
          · refine aw_swIn (y := 87) dX11_may_1 84 (by decide) (by decide) rfl rfl (fun h11 => ?_) (fun h11 => ?_)
            · refine aw_iload_n (i := 1) dX11_may_84 85 rfl rfl 1 rfl ?_
              refine aw_bipush (x := (-50)) dX11_may_85 87 rfl rfl ?_
              refine aw_bipush (x := 50) dX11_may_87 89 rfl rfl ?_
              refine aw_callS (M2 := m_X11_in) (cv := q_cI) dX11_may_89 92 rfl (k_X11_in l G x2 (-50) 50  u0) wd_226 wv_X11_in pk_X11_in rfl ⟨by decide, by decide⟩ ⟨Nat.zero_le _, Nat.zero_le _⟩ rfl (Nat.le_of_ble_eq_true rfl) (fun x8 u6 => ?_)
              show qAW l G m_X11_may (q_mq G q_cI) 92 [(0, .int x1), (1, .int x2)] [.int x8] u6 _
              refine aw_ck (fun h12 => ?_)
              exact aw_zret dX11_may_92 rfl h12
            · refine aw_swOut dX11_may_1 129 rfl (q_swD [71, 80, 83, 84, 86, 87] (by decide +kernel) (by decide) (by simp only [List.mem_cons, List.not_mem_nil, or_false]; rintro c (rfl | rfl | rfl | rfl | rfl | rfl) <;> assumption)) ?_
              refine aw_iload_n (i := 1) dX11_may_129 130 rfl rfl 1 rfl ?_
              refine aw_iconst (x := 0) dX11_may_130 131 rfl rfl ?_
              refine aw_sipush (x := 1000) dX11_may_131 134 rfl rfl ?_
              refine aw_callS (M2 := m_X11_in) (cv := q_cI) dX11_may_134 137 rfl (k_X11_in l G x2 0 1000  u0) wd_226 wv_X11_in pk_X11_in rfl ⟨by decide, by decide⟩ ⟨Nat.zero_le _, Nat.zero_le _⟩ rfl (Nat.le_of_ble_eq_true rfl) (fun x9 u7 => ?_)
              show qAW l G m_X11_may (q_mq G q_cI) 137 [(0, .int x1), (1, .int x2)] [.int x9] u7 _
              refine aw_ck (fun h13 => ?_)
              exact aw_zret dX11_may_137 rfl h13
theorem dX11_reads_0 : decode cX11_reads 0 = .ok (.aload_n 0, 1) := by decide +kernel
theorem dX11_reads_1 : decode cX11_reads 1 = .ok (.iconst 0, 1) := by decide +kernel
theorem dX11_reads_2 : decode cX11_reads 2 = .ok (.putfield 209, 3) := by decide +kernel
theorem dX11_reads_5 : decode cX11_reads 5 = .ok (.iconst 0, 1) := by decide +kernel
theorem dX11_reads_6 : decode cX11_reads 6 = .ok (.istore 4, 2) := by decide +kernel
theorem dX11_reads_8 : decode cX11_reads 8 = .ok (.iconst 0, 1) := by decide +kernel
theorem dX11_reads_9 : decode cX11_reads 9 = .ok (.istore 5, 2) := by decide +kernel
theorem dX11_reads_11 : decode cX11_reads 11 = .ok (.iload 5, 2) := by decide +kernel
theorem dX11_reads_13 : decode cX11_reads 13 = .ok (.iload_n 3, 1) := by decide +kernel
theorem dX11_reads_14 : decode cX11_reads 14 = .ok (.if_icmp .ge 250, 3) := by decide +kernel
theorem dX11_reads_17 : decode cX11_reads 17 = .ok (.aload_n 1, 1) := by decide +kernel
theorem dX11_reads_18 : decode cX11_reads 18 = .ok (.iload_n 2, 1) := by decide +kernel
theorem dX11_reads_19 : decode cX11_reads 19 = .ok (.iload 5, 2) := by decide +kernel
theorem dX11_reads_21 : decode cX11_reads 21 = .ok (.iadd, 1) := by decide +kernel
theorem dX11_reads_22 : decode cX11_reads 22 = .ok (.iaload, 1) := by decide +kernel
theorem dX11_reads_23 : decode cX11_reads 23 = .ok (.istore 6, 2) := by decide +kernel
theorem dX11_reads_25 : decode cX11_reads 25 = .ok (.iload 6, 2) := by decide +kernel
theorem dX11_reads_27 : decode cX11_reads 27 = .ok (.bipush 32, 2) := by decide +kernel
theorem dX11_reads_29 : decode cX11_reads 29 = .ok (.if_icmp .ne 9, 3) := by decide +kernel
theorem dX11_reads_32 : decode cX11_reads 32 = .ok (.iinc 5 1, 3) := by decide +kernel
theorem dX11_reads_35 : decode cX11_reads 35 = .ok (.goto (-24), 3) := by decide +kernel
theorem dX11_reads_38 : decode cX11_reads 38 = .ok (.iload 6, 2) := by decide +kernel
theorem dX11_reads_40 : decode cX11_reads 40 = .ok (.invokestatic 212, 3) := by decide +kernel
theorem dX11_reads_43 : decode cX11_reads 43 = .ok (.ifCond .ne 6, 3) := by decide +kernel
theorem dX11_reads_46 : decode cX11_reads 46 = .ok (.iload 5, 2) := by decide +kernel
theorem dX11_reads_48 : decode cX11_reads 48 = .ok (.ireturn, 1) := by decide +kernel
theorem dX11_reads_49 : decode cX11_reads 49 = .ok (.iload 5, 2) := by decide +kernel
theorem dX11_reads_51 : decode cX11_reads 51 = .ok (.istore 7, 2) := by decide +kernel
theorem dX11_reads_53 : decode cX11_reads 53 = .ok (.iinc 5 1, 3) := by decide +kernel
theorem dX11_reads_56 : decode cX11_reads 56 = .ok (.iload 5, 2) := by decide +kernel
theorem dX11_reads_58 : decode cX11_reads 58 = .ok (.iload_n 3, 1) := by decide +kernel
theorem dX11_reads_59 : decode cX11_reads 59 = .ok (.if_icmp .ge 18, 3) := by decide +kernel
theorem dX11_reads_62 : decode cX11_reads 62 = .ok (.aload_n 1, 1) := by decide +kernel
theorem dX11_reads_63 : decode cX11_reads 63 = .ok (.iload_n 2, 1) := by decide +kernel
theorem dX11_reads_64 : decode cX11_reads 64 = .ok (.iload 5, 2) := by decide +kernel
theorem dX11_reads_66 : decode cX11_reads 66 = .ok (.iadd, 1) := by decide +kernel
theorem dX11_reads_67 : decode cX11_reads 67 = .ok (.iaload, 1) := by decide +kernel
theorem dX11_reads_68 : decode cX11_reads 68 = .ok (.bipush 45, 2) := by decide +kernel
theorem dX11_reads_70 : decode cX11_reads 70 = .ok (.if_icmp .ne 7, 3) := by decide +kernel
theorem dX11_reads_73 : decode cX11_reads 73 = .ok (.iconst 1, 1) := by decide +kernel
theorem dX11_reads_74 : decode cX11_reads 74 = .ok (.goto 4, 3) := by decide +kernel
theorem dX11_reads_77 : decode cX11_reads 77 = .ok (.iconst 0, 1) := by decide +kernel
theorem dX11_reads_78 : decode cX11_reads 78 = .ok (.istore 8, 2) := by decide +kernel
theorem dX11_reads_80 : decode cX11_reads 80 = .ok (.iload 5, 2) := by decide +kernel
theorem dX11_reads_82 : decode cX11_reads 82 = .ok (.iload 8, 2) := by decide +kernel
theorem dX11_reads_84 : decode cX11_reads 84 = .ok (.ifCond .eq 7, 3) := by decide +kernel
theorem dX11_reads_87 : decode cX11_reads 87 = .ok (.iconst 1, 1) := by decide +kernel
theorem dX11_reads_88 : decode cX11_reads 88 = .ok (.goto 4, 3) := by decide +kernel
theorem dX11_reads_91 : decode cX11_reads 91 = .ok (.iconst 0, 1) := by decide +kernel
theorem dX11_reads_92 : decode cX11_reads 92 = .ok (.iadd, 1) := by decide +kernel
theorem dX11_reads_93 : decode cX11_reads 93 = .ok (.istore 5, 2) := by decide +kernel
theorem dX11_reads_95 : decode cX11_reads 95 = .ok (.iconst 0, 1) := by decide +kernel
theorem dX11_reads_96 : decode cX11_reads 96 = .ok (.istore 9, 2) := by decide +kernel
theorem dX11_reads_98 : decode cX11_reads 98 = .ok (.iconst 0, 1) := by decide +kernel
theorem dX11_reads_99 : decode cX11_reads 99 = .ok (.istore 10, 2) := by decide +kernel
theorem dX11_reads_101 : decode cX11_reads 101 = .ok (.iload 5, 2) := by decide +kernel
theorem dX11_reads_103 : decode cX11_reads 103 = .ok (.iload_n 3, 1) := by decide +kernel
theorem dX11_reads_104 : decode cX11_reads 104 = .ok (.if_icmp .ge 54, 3) := by decide +kernel
theorem dX11_reads_107 : decode cX11_reads 107 = .ok (.aload_n 1, 1) := by decide +kernel
theorem dX11_reads_108 : decode cX11_reads 108 = .ok (.iload_n 2, 1) := by decide +kernel
theorem dX11_reads_109 : decode cX11_reads 109 = .ok (.iload 5, 2) := by decide +kernel
theorem dX11_reads_111 : decode cX11_reads 111 = .ok (.iadd, 1) := by decide +kernel
theorem dX11_reads_112 : decode cX11_reads 112 = .ok (.iaload, 1) := by decide +kernel
theorem dX11_reads_113 : decode cX11_reads 113 = .ok (.bipush 48, 2) := by decide +kernel
theorem dX11_reads_115 : decode cX11_reads 115 = .ok (.bipush 57, 2) := by decide +kernel
theorem dX11_reads_117 : decode cX11_reads 117 = .ok (.invokestatic 182, 3) := by decide +kernel
theorem dX11_reads_120 : decode cX11_reads 120 = .ok (.ifCond .eq 38, 3) := by decide +kernel
theorem dX11_reads_123 : decode cX11_reads 123 = .ok (.iload 9, 2) := by decide +kernel
theorem dX11_reads_125 : decode cX11_reads 125 = .ok (.iconst 4, 1) := by decide +kernel
theorem dX11_reads_126 : decode cX11_reads 126 = .ok (.if_icmp .ne 6, 3) := by decide +kernel
theorem dX11_reads_129 : decode cX11_reads 129 = .ok (.iload 5, 2) := by decide +kernel
theorem dX11_reads_131 : decode cX11_reads 131 = .ok (.ireturn, 1) := by decide +kernel
theorem dX11_reads_132 : decode cX11_reads 132 = .ok (.bipush 10, 2) := by decide +kernel
theorem dX11_reads_134 : decode cX11_reads 134 = .ok (.iload 10, 2) := by decide +kernel
theorem dX11_reads_136 : decode cX11_reads 136 = .ok (.imul, 1) := by decide +kernel
theorem dX11_reads_137 : decode cX11_reads 137 = .ok (.aload_n 1, 1) := by decide +kernel
theorem dX11_reads_138 : decode cX11_reads 138 = .ok (.iload_n 2, 1) := by decide +kernel
theorem dX11_reads_139 : decode cX11_reads 139 = .ok (.iload 5, 2) := by decide +kernel
theorem dX11_reads_141 : decode cX11_reads 141 = .ok (.iadd, 1) := by decide +kernel
theorem dX11_reads_142 : decode cX11_reads 142 = .ok (.iaload, 1) := by decide +kernel
theorem dX11_reads_143 : decode cX11_reads 143 = .ok (.iadd, 1) := by decide +kernel
theorem dX11_reads_144 : decode cX11_reads 144 = .ok (.bipush 48, 2) := by decide +kernel
theorem dX11_reads_146 : decode cX11_reads 146 = .ok (.isub, 1) := by decide +kernel
theorem dX11_reads_147 : decode cX11_reads 147 = .ok (.istore 10, 2) := by decide +kernel
theorem dX11_reads_149 : decode cX11_reads 149 = .ok (.iinc 9 1, 3) := by decide +kernel
theorem dX11_reads_152 : decode cX11_reads 152 = .ok (.iinc 5 1, 3) := by decide +kernel
theorem dX11_reads_155 : decode cX11_reads 155 = .ok (.goto (-54), 3) := by decide +kernel
theorem dX11_reads_158 : decode cX11_reads 158 = .ok (.iload 9, 2) := by decide +kernel
theorem dX11_reads_160 : decode cX11_reads 160 = .ok (.ifCond .ne 6, 3) := by decide +kernel
theorem dX11_reads_163 : decode cX11_reads 163 = .ok (.iload 5, 2) := by decide +kernel
theorem dX11_reads_165 : decode cX11_reads 165 = .ok (.ireturn, 1) := by decide +kernel
theorem dX11_reads_166 : decode cX11_reads 166 = .ok (.iload 8, 2) := by decide +kernel
theorem dX11_reads_168 : decode cX11_reads 168 = .ok (.ifCond .eq 9, 3) := by decide +kernel
theorem dX11_reads_171 : decode cX11_reads 171 = .ok (.iload 10, 2) := by decide +kernel
theorem dX11_reads_173 : decode cX11_reads 173 = .ok (.ineg, 1) := by decide +kernel
theorem dX11_reads_174 : decode cX11_reads 174 = .ok (.goto 5, 3) := by decide +kernel
theorem dX11_reads_177 : decode cX11_reads 177 = .ok (.iload 10, 2) := by decide +kernel
theorem dX11_reads_179 : decode cX11_reads 179 = .ok (.istore 10, 2) := by decide +kernel
theorem dX11_reads_181 : decode cX11_reads 181 = .ok (.iload 4, 2) := by decide +kernel
theorem dX11_reads_183 : decode cX11_reads 183 = .ok (.iload 6, 2) := by decide +kernel
theorem dX11_reads_185 : decode cX11_reads 185 = .ok (.bipush 83, 2) := by decide +kernel
theorem dX11_reads_187 : decode cX11_reads 187 = .ok (.if_icmp .ne 18, 3) := by decide +kernel
theorem dX11_reads_190 : decode cX11_reads 190 = .ok (.iload 6, 2) := by decide +kernel
theorem dX11_reads_192 : decode cX11_reads 192 = .ok (.iload 10, 2) := by decide +kernel
theorem dX11_reads_194 : decode cX11_reads 194 = .ok (.invokestatic 215, 3) := by decide +kernel
theorem dX11_reads_197 : decode cX11_reads 197 = .ok (.ifCond .eq 8, 3) := by decide +kernel
theorem dX11_reads_200 : decode cX11_reads 200 = .ok (.iload 10, 2) := by decide +kernel
theorem dX11_reads_202 : decode cX11_reads 202 = .ok (.goto 4, 3) := by decide +kernel
theorem dX11_reads_205 : decode cX11_reads 205 = .ok (.iconst 0, 1) := by decide +kernel
theorem dX11_reads_206 : decode cX11_reads 206 = .ok (.iadd, 1) := by decide +kernel
theorem dX11_reads_207 : decode cX11_reads 207 = .ok (.istore 4, 2) := by decide +kernel
theorem dX11_reads_209 : decode cX11_reads 209 = .ok (.iload 6, 2) := by decide +kernel
theorem dX11_reads_211 : decode cX11_reads 211 = .ok (.iload 10, 2) := by decide +kernel
theorem dX11_reads_213 : decode cX11_reads 213 = .ok (.invokestatic 215, 3) := by decide +kernel
theorem dX11_reads_216 : decode cX11_reads 216 = .ok (.ifCond .eq 10, 3) := by decide +kernel
theorem dX11_reads_219 : decode cX11_reads 219 = .ok (.iload 4, 2) := by decide +kernel
theorem dX11_reads_221 : decode cX11_reads 221 = .ok (.bipush 24, 2) := by decide +kernel
theorem dX11_reads_223 : decode cX11_reads 223 = .ok (.if_icmp .le 6, 3) := by decide +kernel
theorem dX11_reads_226 : decode cX11_reads 226 = .ok (.iload 7, 2) := by decide +kernel
theorem dX11_reads_228 : decode cX11_reads 228 = .ok (.ireturn, 1) := by decide +kernel
theorem dX11_reads_229 : decode cX11_reads 229 = .ok (.aload_n 0, 1) := by decide +kernel
theorem dX11_reads_230 : decode cX11_reads 230 = .ok (.getfield 32, 3) := by decide +kernel
theorem dX11_reads_233 : decode cX11_reads 233 = .ok (.aload_n 0, 1) := by decide +kernel
theorem dX11_reads_234 : decode cX11_reads 234 = .ok (.getfield 209, 3) := by decide +kernel
theorem dX11_reads_237 : decode cX11_reads 237 = .ok (.iload 6, 2) := by decide +kernel
theorem dX11_reads_239 : decode cX11_reads 239 = .ok (.iastore, 1) := by decide +kernel
theorem dX11_reads_240 : decode cX11_reads 240 = .ok (.aload_n 0, 1) := by decide +kernel
theorem dX11_reads_241 : decode cX11_reads 241 = .ok (.getfield 35, 3) := by decide +kernel
theorem dX11_reads_244 : decode cX11_reads 244 = .ok (.aload_n 0, 1) := by decide +kernel
theorem dX11_reads_245 : decode cX11_reads 245 = .ok (.getfield 209, 3) := by decide +kernel
theorem dX11_reads_248 : decode cX11_reads 248 = .ok (.iload 10, 2) := by decide +kernel
theorem dX11_reads_250 : decode cX11_reads 250 = .ok (.iastore, 1) := by decide +kernel
theorem dX11_reads_251 : decode cX11_reads 251 = .ok (.aload_n 0, 1) := by decide +kernel
theorem dX11_reads_252 : decode cX11_reads 252 = .ok (.dup, 1) := by decide +kernel
theorem dX11_reads_253 : decode cX11_reads 253 = .ok (.getfield 209, 3) := by decide +kernel
theorem dX11_reads_256 : decode cX11_reads 256 = .ok (.iconst 1, 1) := by decide +kernel
theorem dX11_reads_257 : decode cX11_reads 257 = .ok (.iadd, 1) := by decide +kernel
theorem dX11_reads_258 : decode cX11_reads 258 = .ok (.putfield 209, 3) := by decide +kernel
theorem dX11_reads_261 : decode cX11_reads 261 = .ok (.goto (-250), 3) := by decide +kernel
theorem dX11_reads_264 : decode cX11_reads 264 = .ok (.bipush (-9), 2) := by decide +kernel
theorem dX11_reads_266 : decode cX11_reads 266 = .ok (.ireturn, 1) := by decide +kernel
noncomputable def L_X11_reads_101 (k1 : Nat) (i1 : Nat) (x1 : Int32) (x2 : Int32) (x3 : Int32) (x5 : Int32) (x4 : Int32) (x8 : Int32) : Nat → Int32 → Int32 → Int32 → qM → (Int32 → Int32 → Int32 → qM → Option (Int32 × qM)) → (Int32 → qM → Option (Int32 × qM)) → Option (Int32 × qM)
  | 0, _, _, _, _, _, _ => none
  | n + 1, x11, x12, x13, u6, e1, e2 => if x2 ≤ x11 then e1 x11 x12 x13 u6 else q_ck (q_in (x1 + x11) (q_al k1 i1)) (q_bd (f_X11_in (u6.1 k1 i1 (Int32.toNatClampNeg (x1 + x11))) 48 57 u6) (fun (x14 : Int32) (u7 : qM) => if x14 = 0 then e1 x11 x12 x13 u7 else if x12 = 4 then e2 x11 u7 else q_ck (q_in (x1 + x11) (q_al k1 i1)) (q_lt (((10 * x13) + (u7.1 k1 i1 (Int32.toNatClampNeg (x1 + x11)))) - 48) (fun (x15 : Int32) => q_lt (x12 + 1) (fun (x16 : Int32) => q_lt (x11 + 1) (fun (x17 : Int32) => L_X11_reads_101 k1 i1 x1 x2 x3 x5 x4 x8 n x17 x16 x15 u7 e1 e2))))))
noncomputable def L_X11_reads_11 (k1 : Nat) (i1 : Nat) (x1 : Int32) (x2 : Int32) : Nat → Int32 → Int32 → qM → (qM → Option (Int32 × qM)) → (Int32 → qM → Option (Int32 × qM)) → (Int32 → qM → Option (Int32 × qM)) → (Int32 → qM → Option (Int32 × qM)) → (Int32 → qM → Option (Int32 × qM)) → Option (Int32 × qM)
  | 0, _, _, _, _, _, _, _, _ => none
  | n + 1, x3, x4, u2, e1, e2, e3, e4, e5 => if x2 ≤ x4 then e1 u2 else q_ck (q_in (x1 + x4) (q_al k1 i1)) (q_lt (u2.1 k1 i1 (Int32.toNatClampNeg (x1 + x4))) (fun (x5 : Int32) => if x5 = 32 then q_lt (x4 + 1) (fun (x27 : Int32) => L_X11_reads_11 k1 i1 x1 x2 n x3 x27 u2 e1 e2 e3 e4 e5) else q_bd (f_X11_isLetter x5 u2) (fun (x6 : Int32) (u3 : qM) => if x6 = 0 then e2 x4 u3 else q_lt (x4 + 1) (fun (x7 : Int32) => q_jn (fun (x8 : Int32) (u4 : qM) => q_jn (fun (x9 : Int32) (u5 : qM) => q_lt (x7 + x9) (fun (x10 : Int32) => L_X11_reads_101 k1 i1 x1 x2 x3 x5 x4 x8 q_fu x10 0 0 u5 (fun x18 x19 x20 u8 => if x19 = 0 then e4 x18 u8 else q_jn (fun (x21 : Int32) (u9 : qM) => q_jn (fun (x22 : Int32) (u10 : qM) => q_lt (x3 + x22) (fun (x23 : Int32) => q_bd (f_X11_may x5 x21 u10) (fun (x24 : Int32) (u11 : qM) => if x24 = 0 then e5 x4 u11 else if x23 ≤ 24 then q_ck (q_in (u11.1 11 0 11) 40) (q_lt (q_si u11 72 0 (Int32.toNatClampNeg (u11.1 11 0 11)) x5) (fun (u12 : qM) => q_ck (q_in (u12.1 11 0 11) 40) (q_lt (q_si u12 73 0 (Int32.toNatClampNeg (u12.1 11 0 11)) x21) (fun (u13 : qM) => q_lt (q_si u13 11 0 11 ((u13.1 11 0 11) + 1)) (fun (u14 : qM) => L_X11_reads_11 k1 i1 x1 x2 n x23 x18 u14 e1 e2 e3 e4 e5))))) else e5 x4 u11))) (fun j4 => q_jn (fun  (u15 : qM) => j4 0 u15) (fun j5 => if x5 = 83 then q_bd (f_X11_may x5 x21 u9) (fun (x25 : Int32) (u16 : qM) => if x25 = 0 then j5 u16 else j4 x21 u16) else j5 u9))) (fun j3 => if x8 = 0 then j3 x20 u8 else j3 (-x20) u8)) (fun x26 u17 => e3 x26 u17))) (fun j2 => if x8 = 0 then j2 0 u4 else j2 1 u4)) (fun j1 => q_jn (fun  (u18 : qM) => j1 0 u18) (fun j6 => if x2 ≤ x7 then j6 u3 else q_ck (q_in (x1 + x7) (q_al k1 i1)) (if (u3.1 k1 i1 (Int32.toNatClampNeg (x1 + x7))) = 45 then j1 1 u3 else j6 u3)))))))
noncomputable def f_X11_reads (k1 i1 : Nat) (x1 : Int32) (x2 : Int32) (u0 : qM) : Option (Int32 × qM) :=
  q_lt (q_si u0 11 0 11 0) (fun (u1 : qM) => L_X11_reads_11 k1 i1 x1 x2 q_fu 0 0 u1 (fun u19 => some ((-9), u19)) (fun x28 u20 => some (x28, u20)) (fun x29 u21 => some (x29, u21)) (fun x30 u22 => some (x30, u22)) (fun x31 u23 => some (x31, u23)))
set_option maxRecDepth 100000 in
set_option maxHeartbeats 4000000 in
theorem TL_X11_reads_101 (l : Launch) (G : qG) (k1 : Nat) (i1 : Nat) (x1 : Int32) (x2 : Int32) (x3 : Int32) (x5 : Int32) (x4 : Int32) (x8 : Int32) (q3 : q_at k1 = 0) (q4 : q_ok k1 i1 = true) (e1 : Int32 → Int32 → Int32 → qM → Option (Int32 × qM)) (e2 : Int32 → qM → Option (Int32 × qM)) (he1 : ∀ (y1 : Int32) (y2 : Int32) (y3 : Int32) (v : qM), qAW l G m_X11_reads (q_mq G q_cI) 158 [(0, .ref (q_ad G 11 0)), (1, .ref (q_ad G k1 i1)), (2, .int x1), (3, .int x2), (4, .int x3), (5, .int y1), (6, .int x5), (7, .int x4), (8, .int x8), (9, .int y2), (10, .int y3)] [] v (e1 y1 y2 y3 v)) (he2 : ∀ (y1 : Int32) (v : qM), qAW l G m_X11_reads (q_mq G q_cI) 129 [(5, .int y1)] [] v (e2 y1 v)) : ∀ (n : Nat) (x11 : Int32) (x12 : Int32) (x13 : Int32) (u6 : qM), qAW l G m_X11_reads (q_mq G q_cI) 101 [(0, .ref (q_ad G 11 0)), (1, .ref (q_ad G k1 i1)), (2, .int x1), (3, .int x2), (4, .int x3), (5, .int x11), (6, .int x5), (7, .int x4), (8, .int x8), (9, .int x12), (10, .int x13)] [] u6 (L_X11_reads_101 k1 i1 x1 x2 x3 x5 x4 x8 n x11 x12 x13 u6 e1 e2) := by
  intro n
  induction n with
  | zero => intros; exact aw_none
  | succ n ih =>
    intro x11 x12 x13 u6
    unfold L_X11_reads_101
    refine aw_iload (i := 5) dX11_reads_101 103 rfl 5 rfl ?_
    refine aw_iload_n (i := 3) dX11_reads_103 104 rfl rfl 3 rfl ?_
    refine aw_icmp_ge dX11_reads_104 107 rfl 158 rfl (fun h7 => ?_) (fun h7 => ?_)
    · exact he1 x11 x12 x13 u6
    · refine aw_aload_n (i := 1) dX11_reads_107 108 rfl rfl 1 rfl ?_
      refine aw_iload_n (i := 2) dX11_reads_108 109 rfl rfl 2 rfl ?_
      refine aw_iload (i := 5) dX11_reads_109 111 rfl 5 rfl ?_
      refine aw_iadd dX11_reads_111 112 rfl ?_
      refine aw_iald dX11_reads_112 113 rfl q3 rfl q4 (fun h8 => ?_)
      refine aw_bipush (x := 48) dX11_reads_113 115 rfl rfl ?_
      refine aw_bipush (x := 57) dX11_reads_115 117 rfl rfl ?_
      refine aw_callS (M2 := m_X11_in) (cv := q_cI) dX11_reads_117 120 rfl (k_X11_in l G (u6.1 k1 i1 (Int32.toNatClampNeg (x1 + x11))) 48 57  u6) wd_226 wv_X11_in pk_X11_in rfl ⟨by decide, by decide⟩ ⟨Nat.zero_le _, Nat.zero_le _⟩ rfl (Nat.le_of_ble_eq_true rfl) (fun x14 u7 => ?_)
      show qAW l G m_X11_reads (q_mq G q_cI) 120 [(0, .ref (q_ad G 11 0)), (1, .ref (q_ad G k1 i1)), (2, .int x1), (3, .int x2), (4, .int x3), (5, .int x11), (6, .int x5), (7, .int x4), (8, .int x8), (9, .int x12), (10, .int x13)] [.int x14] u7 _
      refine aw_if_eq dX11_reads_120 123 rfl 158 rfl (fun h9 => ?_) (fun h9 => ?_)
      · exact he1 x11 x12 x13 u7
      · refine aw_iload (i := 9) dX11_reads_123 125 rfl 9 rfl ?_
        refine aw_iconst (x := 4) dX11_reads_125 126 rfl rfl ?_
        refine aw_icmp_ne dX11_reads_126 129 rfl 132 rfl (fun h10 => ?_) (fun h10 => ?_)
        · refine aw_bipush (x := 10) dX11_reads_132 134 rfl rfl ?_
          refine aw_iload (i := 10) dX11_reads_134 136 rfl 10 rfl ?_
          refine aw_imul dX11_reads_136 137 rfl ?_
          refine aw_aload_n (i := 1) dX11_reads_137 138 rfl rfl 1 rfl ?_
          refine aw_iload_n (i := 2) dX11_reads_138 139 rfl rfl 2 rfl ?_
          refine aw_iload (i := 5) dX11_reads_139 141 rfl 5 rfl ?_
          refine aw_iadd dX11_reads_141 142 rfl ?_
          refine aw_iald dX11_reads_142 143 rfl q3 rfl q4 (fun h11 => ?_)
          refine aw_iadd dX11_reads_143 144 rfl ?_
          refine aw_bipush (x := 48) dX11_reads_144 146 rfl rfl ?_
          refine aw_isub dX11_reads_146 147 rfl ?_
          refine aw_lti (fun x15 => ?_)
          refine aw_istore dX11_reads_147 149 rfl [(10, .int x15), (0, .ref (q_ad G 11 0)), (1, .ref (q_ad G k1 i1)), (2, .int x1), (3, .int x2), (4, .int x3), (5, .int x11), (6, .int x5), (7, .int x4), (8, .int x8), (9, .int x12)] (by decide) rfl ?_
          refine aw_iincx (i := 9) dX11_reads_149 152 rfl 10 rfl 1 rfl (fun x16 => [(9, .int x16), (10, .int x15), (0, .ref (q_ad G 11 0)), (1, .ref (q_ad G k1 i1)), (2, .int x1), (3, .int x2), (4, .int x3), (5, .int x11), (6, .int x5), (7, .int x4), (8, .int x8)]) (by decide) (fun _ => rfl) (fun x16 => ?_)
          refine aw_iincx (i := 5) dX11_reads_152 155 rfl 7 rfl 1 rfl (fun x17 => [(5, .int x17), (9, .int x16), (10, .int x15), (0, .ref (q_ad G 11 0)), (1, .ref (q_ad G k1 i1)), (2, .int x1), (3, .int x2), (4, .int x3), (6, .int x5), (7, .int x4), (8, .int x8)]) (by decide) (fun _ => rfl) (fun x17 => ?_)
          refine aw_goto dX11_reads_155 101 rfl ?_
          exact aw_conv [3, 4, 5, 6, 7, 0, 8, 9, 10, 1, 2] rfl (ih x17 x16 x15 u7)
        · exact aw_conv [5] rfl (he2 x11 u7)
set_option maxRecDepth 100000 in
set_option maxHeartbeats 4000000 in
theorem TL_X11_reads_11 (l : Launch) (G : qG) (k1 : Nat) (i1 : Nat) (x1 : Int32) (x2 : Int32) (q1 : q_at k1 = 0) (q2 : q_ok k1 i1 = true) (e1 : qM → Option (Int32 × qM)) (e2 : Int32 → qM → Option (Int32 × qM)) (e3 : Int32 → qM → Option (Int32 × qM)) (e4 : Int32 → qM → Option (Int32 × qM)) (e5 : Int32 → qM → Option (Int32 × qM)) (he1 : ∀  (v : qM), qAW l G m_X11_reads (q_mq G q_cI) 264 [] [] v (e1 v)) (he2 : ∀ (y1 : Int32) (v : qM), qAW l G m_X11_reads (q_mq G q_cI) 46 [(5, .int y1)] [] v (e2 y1 v)) (he3 : ∀ (y1 : Int32) (v : qM), qAW l G m_X11_reads (q_mq G q_cI) 129 [(5, .int y1)] [] v (e3 y1 v)) (he4 : ∀ (y1 : Int32) (v : qM), qAW l G m_X11_reads (q_mq G q_cI) 163 [(5, .int y1)] [] v (e4 y1 v)) (he5 : ∀ (y1 : Int32) (v : qM), qAW l G m_X11_reads (q_mq G q_cI) 226 [(7, .int y1)] [] v (e5 y1 v)) : ∀ (n : Nat) (x3 : Int32) (x4 : Int32) (u2 : qM), qAW l G m_X11_reads (q_mq G q_cI) 11 [(0, .ref (q_ad G 11 0)), (1, .ref (q_ad G k1 i1)), (2, .int x1), (3, .int x2), (4, .int x3), (5, .int x4)] [] u2 (L_X11_reads_11 k1 i1 x1 x2 n x3 x4 u2 e1 e2 e3 e4 e5) := by
  intro n
  induction n with
  | zero => intros; exact aw_none
  | succ n ih =>
    intro x3 x4 u2
    unfold L_X11_reads_11
    refine aw_iload (i := 5) dX11_reads_11 13 rfl 5 rfl ?_
    refine aw_iload_n (i := 3) dX11_reads_13 14 rfl rfl 3 rfl ?_
    refine aw_icmp_ge dX11_reads_14 17 rfl 264 rfl (fun h1 => ?_) (fun h1 => ?_)
    · exact aw_conv [] rfl (he1 u2)
    · refine aw_aload_n (i := 1) dX11_reads_17 18 rfl rfl 1 rfl ?_
      refine aw_iload_n (i := 2) dX11_reads_18 19 rfl rfl 2 rfl ?_
      refine aw_iload (i := 5) dX11_reads_19 21 rfl 5 rfl ?_
      refine aw_iadd dX11_reads_21 22 rfl ?_
      refine aw_iald dX11_reads_22 23 rfl q1 rfl q2 (fun h2 => ?_)
      refine aw_lti (fun x5 => ?_)
      refine aw_istore dX11_reads_23 25 rfl [(6, .int x5), (0, .ref (q_ad G 11 0)), (1, .ref (q_ad G k1 i1)), (2, .int x1), (3, .int x2), (4, .int x3), (5, .int x4)] (by decide) rfl ?_
      refine aw_iload (i := 6) dX11_reads_25 27 rfl 0 rfl ?_
      refine aw_bipush (x := 32) dX11_reads_27 29 rfl rfl ?_
      refine aw_icmp_ne dX11_reads_29 32 rfl 38 rfl (fun h3 => ?_) (fun h3 => ?_)
      · refine aw_iload (i := 6) dX11_reads_38 40 rfl 0 rfl ?_
        refine aw_callS (M2 := m_X11_isLetter) (cv := q_cI) dX11_reads_40 43 rfl (k_X11_isLetter l G x5  u2) wd_241 wv_X11_isLetter pk_X11_isLetter rfl ⟨by decide, by decide⟩ ⟨Nat.zero_le _, Nat.zero_le _⟩ rfl (Nat.le_of_ble_eq_true rfl) (fun x6 u3 => ?_)
        show qAW l G m_X11_reads (q_mq G q_cI) 43 [(6, .int x5), (0, .ref (q_ad G 11 0)), (1, .ref (q_ad G k1 i1)), (2, .int x1), (3, .int x2), (4, .int x3), (5, .int x4)] [.int x6] u3 _
        refine aw_if_ne dX11_reads_43 46 rfl 49 rfl (fun h4 => ?_) (fun h4 => ?_)
        · refine aw_iload (i := 5) dX11_reads_49 51 rfl 6 rfl ?_
          refine aw_istore dX11_reads_51 53 rfl [(7, .int x4), (6, .int x5), (0, .ref (q_ad G 11 0)), (1, .ref (q_ad G k1 i1)), (2, .int x1), (3, .int x2), (4, .int x3), (5, .int x4)] (by decide) rfl ?_
          refine aw_iincx (i := 5) dX11_reads_53 56 rfl 7 rfl 1 rfl (fun x7 => [(5, .int x7), (7, .int x4), (6, .int x5), (0, .ref (q_ad G 11 0)), (1, .ref (q_ad G k1 i1)), (2, .int x1), (3, .int x2), (4, .int x3)]) (by decide) (fun _ => rfl) (fun x7 => ?_)
          refine aw_iload (i := 5) dX11_reads_56 58 rfl 0 rfl ?_
          refine aw_iload_n (i := 3) dX11_reads_58 59 rfl rfl 6 rfl ?_
          refine aw_jn (fun k => ∀ (x8 : Int32) (u4 : qM), qAW l G m_X11_reads (q_mq G q_cI) 78 [(0, .ref (q_ad G 11 0)), (1, .ref (q_ad G k1 i1)), (2, .int x1), (3, .int x2), (4, .int x3), (5, .int x7), (6, .int x5), (7, .int x4)] [.int x8] u4 (k x8 u4)) ?_ ?_
          · intro x8 u4
            refine aw_istore dX11_reads_78 80 rfl [(8, .int x8), (0, .ref (q_ad G 11 0)), (1, .ref (q_ad G k1 i1)), (2, .int x1), (3, .int x2), (4, .int x3), (5, .int x7), (6, .int x5), (7, .int x4)] (by decide) rfl ?_
            refine aw_iload (i := 5) dX11_reads_80 82 rfl 6 rfl ?_
            refine aw_iload (i := 8) dX11_reads_82 84 rfl 0 rfl ?_
            refine aw_jn (fun k => ∀ (x9 : Int32) (u5 : qM), qAW l G m_X11_reads (q_mq G q_cI) 92 [(0, .ref (q_ad G 11 0)), (1, .ref (q_ad G k1 i1)), (2, .int x1), (3, .int x2), (4, .int x3), (6, .int x5), (7, .int x4), (8, .int x8)] [.int x9, .int x7] u5 (k x9 u5)) ?_ ?_
            · intro x9 u5
              refine aw_iadd dX11_reads_92 93 rfl ?_
              refine aw_lti (fun x10 => ?_)
              refine aw_istore dX11_reads_93 95 rfl [(5, .int x10), (0, .ref (q_ad G 11 0)), (1, .ref (q_ad G k1 i1)), (2, .int x1), (3, .int x2), (4, .int x3), (6, .int x5), (7, .int x4), (8, .int x8)] (by decide) rfl ?_
              refine aw_iconst (x := 0) dX11_reads_95 96 rfl rfl ?_
              refine aw_istore dX11_reads_96 98 rfl [(9, .int 0), (5, .int x10), (0, .ref (q_ad G 11 0)), (1, .ref (q_ad G k1 i1)), (2, .int x1), (3, .int x2), (4, .int x3), (6, .int x5), (7, .int x4), (8, .int x8)] (by decide) rfl ?_
              refine aw_iconst (x := 0) dX11_reads_98 99 rfl rfl ?_
              refine aw_istore dX11_reads_99 101 rfl [(10, .int 0), (9, .int 0), (5, .int x10), (0, .ref (q_ad G 11 0)), (1, .ref (q_ad G k1 i1)), (2, .int x1), (3, .int x2), (4, .int x3), (6, .int x5), (7, .int x4), (8, .int x8)] (by decide) rfl ?_
              refine aw_conv [3, 4, 5, 6, 7, 2, 8, 9, 10, 1, 0] rfl (TL_X11_reads_101 l G k1 i1 x1 x2 x3 x5 x4 x8 q1 q2 _ _ ?_ ?_ _ x10 0 0 u5)
              · intro x18 x19 x20 u8
                refine aw_iload (i := 9) dX11_reads_158 160 rfl 9 rfl ?_
                refine aw_if_ne dX11_reads_160 163 rfl 166 rfl (fun h12 => ?_) (fun h12 => ?_)
                · refine aw_iload (i := 8) dX11_reads_166 168 rfl 8 rfl ?_
                  refine aw_jn (fun k => ∀ (x21 : Int32) (u9 : qM), qAW l G m_X11_reads (q_mq G q_cI) 179 [(0, .ref (q_ad G 11 0)), (1, .ref (q_ad G k1 i1)), (2, .int x1), (3, .int x2), (4, .int x3), (5, .int x18), (6, .int x5), (7, .int x4)] [.int x21] u9 (k x21 u9)) ?_ ?_
                  · intro x21 u9
                    refine aw_istore dX11_reads_179 181 rfl [(10, .int x21), (0, .ref (q_ad G 11 0)), (1, .ref (q_ad G k1 i1)), (2, .int x1), (3, .int x2), (4, .int x3), (5, .int x18), (6, .int x5), (7, .int x4)] (by decide) rfl ?_
                    refine aw_iload (i := 4) dX11_reads_181 183 rfl 5 rfl ?_
                    refine aw_iload (i := 6) dX11_reads_183 185 rfl 7 rfl ?_
                    refine aw_bipush (x := 83) dX11_reads_185 187 rfl rfl ?_
                    refine aw_jn (fun k => ∀ (x22 : Int32) (u10 : qM), qAW l G m_X11_reads (q_mq G q_cI) 206 [(0, .ref (q_ad G 11 0)), (1, .ref (q_ad G k1 i1)), (2, .int x1), (3, .int x2), (5, .int x18), (6, .int x5), (7, .int x4), (10, .int x21)] [.int x22, .int x3] u10 (k x22 u10)) ?_ ?_
                    · intro x22 u10
                      refine aw_iadd dX11_reads_206 207 rfl ?_
                      refine aw_lti (fun x23 => ?_)
                      refine aw_istore dX11_reads_207 209 rfl [(4, .int x23), (0, .ref (q_ad G 11 0)), (1, .ref (q_ad G k1 i1)), (2, .int x1), (3, .int x2), (5, .int x18), (6, .int x5), (7, .int x4), (10, .int x21)] (by decide) rfl ?_
                      refine aw_iload (i := 6) dX11_reads_209 211 rfl 6 rfl ?_
                      refine aw_iload (i := 10) dX11_reads_211 213 rfl 8 rfl ?_
                      refine aw_callS (M2 := m_X11_may) (cv := q_cI) dX11_reads_213 216 rfl (k_X11_may l G x5 x21  u10) wd_242 wv_X11_may pk_X11_may rfl ⟨by decide, by decide⟩ ⟨Nat.zero_le _, Nat.zero_le _⟩ rfl (Nat.le_of_ble_eq_true rfl) (fun x24 u11 => ?_)
                      show qAW l G m_X11_reads (q_mq G q_cI) 216 [(4, .int x23), (0, .ref (q_ad G 11 0)), (1, .ref (q_ad G k1 i1)), (2, .int x1), (3, .int x2), (5, .int x18), (6, .int x5), (7, .int x4), (10, .int x21)] [.int x24] u11 _
                      refine aw_if_eq dX11_reads_216 219 rfl 226 rfl (fun h15 => ?_) (fun h15 => ?_)
                      · exact aw_conv [7] rfl (he5 x4 u11)
                      · refine aw_iload (i := 4) dX11_reads_219 221 rfl 0 rfl ?_
                        refine aw_bipush (x := 24) dX11_reads_221 223 rfl rfl ?_
                        refine aw_icmp_le dX11_reads_223 226 rfl 229 rfl (fun h16 => ?_) (fun h16 => ?_)
                        · refine aw_aload_n (i := 0) dX11_reads_229 230 rfl rfl 1 rfl ?_
                          refine gf_X11_12 dX11_reads_230 233 rfl wd_243 (ok_11 (by decide)) ?_
                          refine aw_aload_n (i := 0) dX11_reads_233 234 rfl rfl 1 rfl ?_
                          refine gf_X11_11 dX11_reads_234 237 rfl wd_240 (ok_11 (by decide)) ?_
                          refine aw_iload (i := 6) dX11_reads_237 239 rfl 6 rfl ?_
                          refine aw_iast dX11_reads_239 240 rfl at_72 (al_72 _) (ok_72 (by decide)) (fun h17 => ?_)
                          refine aw_ltm (fun u12 => ?_)
                          refine aw_aload_n (i := 0) dX11_reads_240 241 rfl rfl 1 rfl ?_
                          refine gf_X11_13 dX11_reads_241 244 rfl wd_244 (ok_11 (by decide)) ?_
                          refine aw_aload_n (i := 0) dX11_reads_244 245 rfl rfl 1 rfl ?_
                          refine gf_X11_11 dX11_reads_245 248 rfl wd_240 (ok_11 (by decide)) ?_
                          refine aw_iload (i := 10) dX11_reads_248 250 rfl 8 rfl ?_
                          refine aw_iast dX11_reads_250 251 rfl at_73 (al_73 _) (ok_73 (by decide)) (fun h18 => ?_)
                          refine aw_ltm (fun u13 => ?_)
                          refine aw_aload_n (i := 0) dX11_reads_251 252 rfl rfl 1 rfl ?_
                          refine aw_dup dX11_reads_252 253 rfl rfl ?_
                          refine gf_X11_11 dX11_reads_253 256 rfl wd_240 (ok_11 (by decide)) ?_
                          refine aw_iconst (x := 1) dX11_reads_256 257 rfl rfl ?_
                          refine aw_iadd dX11_reads_257 258 rfl ?_
                          refine pf_X11_11 dX11_reads_258 261 rfl wd_240 (ok_11 (by decide)) ?_
                          refine aw_ltm (fun u14 => ?_)
                          refine aw_goto dX11_reads_261 11 rfl ?_
                          exact aw_conv [1, 2, 3, 4, 0, 5] rfl (ih x23 x18 u14)
                        · exact aw_conv [7] rfl (he5 x4 u11)
                    · intro j4 hj4
                      refine aw_jn (fun k => ∀  (u15 : qM), qAW l G m_X11_reads (q_mq G q_cI) 205 [(0, .ref (q_ad G 11 0)), (1, .ref (q_ad G k1 i1)), (2, .int x1), (3, .int x2), (5, .int x18), (6, .int x5), (7, .int x4), (10, .int x21)] [.int x3] u15 (k u15)) ?_ ?_
                      · intro u15
                        refine aw_iconst (x := 0) dX11_reads_205 206 rfl rfl ?_
                        exact hj4 0 u15
                      · intro j5 hj5
                        refine aw_icmp_ne dX11_reads_187 190 rfl 205 rfl (fun h14 => ?_) (fun h14 => ?_)
                        · exact aw_conv [1, 2, 3, 4, 6, 7, 8, 0] rfl (hj5 u9)
                        · refine aw_iload (i := 6) dX11_reads_190 192 rfl 7 rfl ?_
                          refine aw_iload (i := 10) dX11_reads_192 194 rfl 0 rfl ?_
                          refine aw_callS (M2 := m_X11_may) (cv := q_cI) dX11_reads_194 197 rfl (k_X11_may l G x5 x21  u9) wd_242 wv_X11_may pk_X11_may rfl ⟨by decide, by decide⟩ ⟨Nat.zero_le _, Nat.zero_le _⟩ rfl (Nat.le_of_ble_eq_true rfl) (fun x25 u16 => ?_)
                          show qAW l G m_X11_reads (q_mq G q_cI) 197 [(10, .int x21), (0, .ref (q_ad G 11 0)), (1, .ref (q_ad G k1 i1)), (2, .int x1), (3, .int x2), (4, .int x3), (5, .int x18), (6, .int x5), (7, .int x4)] [.int x25, .int x3] u16 _
                          refine aw_if_eq dX11_reads_197 200 rfl 205 rfl (fun h19 => ?_) (fun h19 => ?_)
                          · exact aw_conv [1, 2, 3, 4, 6, 7, 8, 0] rfl (hj5 u16)
                          · refine aw_iload (i := 10) dX11_reads_200 202 rfl 0 rfl ?_
                            refine aw_goto dX11_reads_202 206 rfl ?_
                            exact aw_conv [1, 2, 3, 4, 6, 7, 8, 0] rfl (hj4 x21 u16)
                  · intro j3 hj3
                    refine aw_if_eq dX11_reads_168 171 rfl 177 rfl (fun h13 => ?_) (fun h13 => ?_)
                    · refine aw_iload (i := 10) dX11_reads_177 179 rfl 10 rfl ?_
                      exact aw_conv [0, 1, 2, 3, 4, 5, 6, 7] rfl (hj3 x20 u8)
                    · refine aw_iload (i := 10) dX11_reads_171 173 rfl 10 rfl ?_
                      refine aw_ineg dX11_reads_173 174 rfl ?_
                      refine aw_goto dX11_reads_174 179 rfl ?_
                      exact aw_conv [0, 1, 2, 3, 4, 5, 6, 7] rfl (hj3 (-x20) u8)
                · exact aw_conv [5] rfl (he4 x18 u8)
              · intro x26 u17
                exact he3 x26 u17
            · intro j2 hj2
              refine aw_if_eq dX11_reads_84 87 rfl 91 rfl (fun h6 => ?_) (fun h6 => ?_)
              · refine aw_iconst (x := 0) dX11_reads_91 92 rfl rfl ?_
                exact aw_conv [1, 2, 3, 4, 5, 7, 8, 0] rfl (hj2 0 u4)
              · refine aw_iconst (x := 1) dX11_reads_87 88 rfl rfl ?_
                refine aw_goto dX11_reads_88 92 rfl ?_
                exact aw_conv [1, 2, 3, 4, 5, 7, 8, 0] rfl (hj2 1 u4)
          · intro j1 hj1
            refine aw_jn (fun k => ∀  (u18 : qM), qAW l G m_X11_reads (q_mq G q_cI) 77 [(0, .ref (q_ad G 11 0)), (1, .ref (q_ad G k1 i1)), (2, .int x1), (3, .int x2), (4, .int x3), (5, .int x7), (6, .int x5), (7, .int x4)] [] u18 (k u18)) ?_ ?_
            · intro u18
              refine aw_iconst (x := 0) dX11_reads_77 78 rfl rfl ?_
              exact hj1 0 u18
            · intro j6 hj6
              refine aw_icmp_ge dX11_reads_59 62 rfl 77 rfl (fun h5 => ?_) (fun h5 => ?_)
              · exact aw_conv [3, 4, 5, 6, 7, 0, 2, 1] rfl (hj6 u3)
              · refine aw_aload_n (i := 1) dX11_reads_62 63 rfl rfl 4 rfl ?_
                refine aw_iload_n (i := 2) dX11_reads_63 64 rfl rfl 5 rfl ?_
                refine aw_iload (i := 5) dX11_reads_64 66 rfl 0 rfl ?_
                refine aw_iadd dX11_reads_66 67 rfl ?_
                refine aw_iald dX11_reads_67 68 rfl q1 rfl q2 (fun h20 => ?_)
                refine aw_bipush (x := 45) dX11_reads_68 70 rfl rfl ?_
                refine aw_icmp_ne dX11_reads_70 73 rfl 77 rfl (fun h21 => ?_) (fun h21 => ?_)
                · exact aw_conv [3, 4, 5, 6, 7, 0, 2, 1] rfl (hj6 u3)
                · refine aw_iconst (x := 1) dX11_reads_73 74 rfl rfl ?_
                  refine aw_goto dX11_reads_74 78 rfl ?_
                  exact aw_conv [3, 4, 5, 6, 7, 0, 2, 1] rfl (hj1 1 u3)
        · exact aw_conv [6] rfl (he2 x4 u3)
      · refine aw_iincx (i := 5) dX11_reads_32 35 rfl 6 rfl 1 rfl (fun x27 => [(5, .int x27), (6, .int x5), (0, .ref (q_ad G 11 0)), (1, .ref (q_ad G k1 i1)), (2, .int x1), (3, .int x2), (4, .int x3)]) (by decide) (fun _ => rfl) (fun x27 => ?_)
        refine aw_goto dX11_reads_35 11 rfl ?_
        exact aw_conv [2, 3, 4, 5, 6, 0] rfl (ih x3 x27 u2)
set_option maxRecDepth 100000 in
set_option maxHeartbeats 4000000 in
theorem k_X11_reads (l : Launch) (G : qG) (k1 i1 : Nat) (x1 : Int32) (x2 : Int32) (ak1 : q_at k1 = 0) (ok1 : q_ok k1 i1 = true) (u0 : qM) : qCt l G m_X11_reads q_cI [.ref (q_ad G 11 0), .ref (q_ad G k1 i1), .int x1, .int x2] u0 (f_X11_reads k1 i1 x1 x2 u0) := by
  refine q_entry pk_X11_reads (Nat.le_of_ble_eq_true rfl) ?_
  show qAW l G m_X11_reads (q_mq G q_cI) 0 [(0, .ref (q_ad G 11 0)), (1, .ref (q_ad G k1 i1)), (2, .int x1), (3, .int x2)] [] u0 (f_X11_reads k1 i1 x1 x2 u0)
  unfold f_X11_reads
  refine aw_aload_n (i := 0) dX11_reads_0 1 rfl rfl 0 rfl ?_
  refine aw_iconst (x := 0) dX11_reads_1 2 rfl rfl ?_
  refine pf_X11_11 dX11_reads_2 5 rfl wd_240 (ok_11 (by decide)) ?_
  refine aw_ltm (fun u1 => ?_)
  refine aw_iconst (x := 0) dX11_reads_5 6 rfl rfl ?_
  refine aw_istore dX11_reads_6 8 rfl [(4, .int 0), (0, .ref (q_ad G 11 0)), (1, .ref (q_ad G k1 i1)), (2, .int x1), (3, .int x2)] (by decide) rfl ?_
  refine aw_iconst (x := 0) dX11_reads_8 9 rfl rfl ?_
  refine aw_istore dX11_reads_9 11 rfl [(5, .int 0), (4, .int 0), (0, .ref (q_ad G 11 0)), (1, .ref (q_ad G k1 i1)), (2, .int x1), (3, .int x2)] (by decide) rfl ?_
  refine aw_conv [2, 3, 4, 5, 1, 0] rfl (TL_X11_reads_11 l G k1 i1 x1 x2 ak1 ok1 _ _ _ _ _ ?_ ?_ ?_ ?_ ?_ _ 0 0 u1)
  · intro u19
    refine aw_bipush (x := (-9)) dX11_reads_264 266 rfl rfl ?_
    exact aw_iret dX11_reads_266 rfl
  · intro x28 u20
    refine aw_iload (i := 5) dX11_reads_46 48 rfl 0 rfl ?_
    exact aw_iret dX11_reads_48 rfl
  · intro x29 u21
    refine aw_iload (i := 5) dX11_reads_129 131 rfl 0 rfl ?_
    exact aw_iret dX11_reads_131 rfl
  · intro x30 u22
    refine aw_iload (i := 5) dX11_reads_163 165 rfl 0 rfl ?_
    exact aw_iret dX11_reads_165 rfl
  · intro x31 u23
    refine aw_iload (i := 7) dX11_reads_226 228 rfl 0 rfl ?_
    exact aw_iret dX11_reads_228 rfl
theorem dX11_fault_0 : decode cX11_fault 0 = .ok (.aload_n 0, 1) := by decide +kernel
theorem dX11_fault_1 : decode cX11_fault 1 = .ok (.iload_n 1, 1) := by decide +kernel
theorem dX11_fault_2 : decode cX11_fault 2 = .ok (.invokevirtual 206, 3) := by decide +kernel
theorem dX11_fault_5 : decode cX11_fault 5 = .ok (.istore_n 2, 1) := by decide +kernel
theorem dX11_fault_6 : decode cX11_fault 6 = .ok (.iload_n 2, 1) := by decide +kernel
theorem dX11_fault_7 : decode cX11_fault 7 = .ok (.ifCond .ge 7, 3) := by decide +kernel
theorem dX11_fault_10 : decode cX11_fault 10 = .ok (.iload_n 2, 1) := by decide +kernel
theorem dX11_fault_11 : decode cX11_fault 11 = .ok (.goto 21, 3) := by decide +kernel
theorem dX11_fault_14 : decode cX11_fault 14 = .ok (.aload_n 0, 1) := by decide +kernel
theorem dX11_fault_15 : decode cX11_fault 15 = .ok (.aload_n 0, 1) := by decide +kernel
theorem dX11_fault_16 : decode cX11_fault 16 = .ok (.getfield 29, 3) := by decide +kernel
theorem dX11_fault_19 : decode cX11_fault 19 = .ok (.bipush 40, 2) := by decide +kernel
theorem dX11_fault_21 : decode cX11_fault 21 = .ok (.iload_n 1, 1) := by decide +kernel
theorem dX11_fault_22 : decode cX11_fault 22 = .ok (.imul, 1) := by decide +kernel
theorem dX11_fault_23 : decode cX11_fault 23 = .ok (.aload_n 0, 1) := by decide +kernel
theorem dX11_fault_24 : decode cX11_fault 24 = .ok (.getfield 26, 3) := by decide +kernel
theorem dX11_fault_27 : decode cX11_fault 27 = .ok (.iload_n 1, 1) := by decide +kernel
theorem dX11_fault_28 : decode cX11_fault 28 = .ok (.iaload, 1) := by decide +kernel
theorem dX11_fault_29 : decode cX11_fault 29 = .ok (.invokevirtual 219, 3) := by decide +kernel
theorem dX11_fault_32 : decode cX11_fault 32 = .ok (.ireturn, 1) := by decide +kernel
noncomputable def f_X11_fault (x1 : Int32) (u0 : qM) : Option (Int32 × qM) :=
  q_bd (f_X11_lookedText x1 u0) (fun (x2 : Int32) (u1 : qM) => q_jn (fun (x3 : Int32) (u2 : qM) => some (x3, u2)) (fun j1 => if (0 : Int32) ≤ x2 then q_ck (q_in x1 6) (q_bd (f_X11_reads 70 0 (40 * x1) (u1.1 69 0 (Int32.toNatClampNeg x1)) u1) (fun (x4 : Int32) (u3 : qM) => j1 x4 u3)) else j1 x2 u1))
set_option maxRecDepth 100000 in
set_option maxHeartbeats 4000000 in
theorem k_X11_fault (l : Launch) (G : qG) (x1 : Int32)  (u0 : qM) : qCt l G m_X11_fault q_cI [.ref (q_ad G 11 0), .int x1] u0 (f_X11_fault x1 u0) := by
  refine q_entry pk_X11_fault (Nat.le_of_ble_eq_true rfl) ?_
  show qAW l G m_X11_fault (q_mq G q_cI) 0 [(0, .ref (q_ad G 11 0)), (1, .int x1)] [] u0 (f_X11_fault x1 u0)
  unfold f_X11_fault
  refine aw_aload_n (i := 0) dX11_fault_0 1 rfl rfl 0 rfl ?_
  refine aw_iload_n (i := 1) dX11_fault_1 2 rfl rfl 1 rfl ?_
  refine aw_callV (M2 := m_X11_lookedText) (cv := q_cI) dX11_fault_2 5 rfl (k_X11_lookedText l G x1  u0) wd_239 wv_X11_lookedText pk_X11_lookedText rfl rfl ⟨by decide, by decide⟩ ⟨Nat.zero_le _, Nat.zero_le _⟩ at_11 (ok_11 (by decide)) rfl rfl rfl (Nat.le_of_ble_eq_true rfl) (fun x2 u1 => ?_)
  show qAW l G m_X11_fault (q_mq G q_cI) 5 [(0, .ref (q_ad G 11 0)), (1, .int x1)] [.int x2] u1 _
  refine aw_istore_n dX11_fault_5 6 rfl rfl [(2, .int x2), (0, .ref (q_ad G 11 0)), (1, .int x1)] (by decide) rfl ?_
  refine aw_iload_n (i := 2) dX11_fault_6 7 rfl rfl 0 rfl ?_
  refine aw_jn (fun k => ∀ (x3 : Int32) (u2 : qM), qAW l G m_X11_fault (q_mq G q_cI) 32 [] [.int x3] u2 (k x3 u2)) ?_ ?_
  · intro x3 u2
    exact aw_iret dX11_fault_32 rfl
  · intro j1 hj1
    refine aw_if_ge dX11_fault_7 10 rfl 14 rfl (fun h1 => ?_) (fun h1 => ?_)
    · refine aw_aload_n (i := 0) dX11_fault_14 15 rfl rfl 1 rfl ?_
      refine aw_aload_n (i := 0) dX11_fault_15 16 rfl rfl 1 rfl ?_
      refine gf_X11_10 dX11_fault_16 19 rfl wd_238 (ok_11 (by decide)) ?_
      refine aw_bipush (x := 40) dX11_fault_19 21 rfl rfl ?_
      refine aw_iload_n (i := 1) dX11_fault_21 22 rfl rfl 2 rfl ?_
      refine aw_imul dX11_fault_22 23 rfl ?_
      refine aw_aload_n (i := 0) dX11_fault_23 24 rfl rfl 1 rfl ?_
      refine gf_X11_9 dX11_fault_24 27 rfl wd_237 (ok_11 (by decide)) ?_
      refine aw_iload_n (i := 1) dX11_fault_27 28 rfl rfl 2 rfl ?_
      refine aw_iald dX11_fault_28 29 rfl at_69 (al_69 _) (ok_69 (by decide)) (fun h2 => ?_)
      refine aw_callV (M2 := m_X11_reads) (cv := q_cI) dX11_fault_29 32 rfl (k_X11_reads l G 70 0 (40 * x1) (u1.1 69 0 (Int32.toNatClampNeg x1)) at_70 (ok_70 (by decide)) u1) wd_245 wv_X11_reads pk_X11_reads rfl rfl ⟨by decide, by decide⟩ ⟨Nat.zero_le _, Nat.zero_le _⟩ at_11 (ok_11 (by decide)) rfl rfl rfl (Nat.le_of_ble_eq_true rfl) (fun x4 u3 => ?_)
      show qAW l G m_X11_fault (q_mq G q_cI) 32 [(2, .int x2), (0, .ref (q_ad G 11 0)), (1, .int x1)] [.int x4] u3 _
      exact aw_conv [] rfl (hj1 x4 u3)
    · refine aw_iload_n (i := 2) dX11_fault_10 11 rfl rfl 0 rfl ?_
      refine aw_goto dX11_fault_11 32 rfl ?_
      exact aw_conv [] rfl (hj1 x2 u1)
theorem dX11_cells_0 : decode cX11_cells 0 = .ok (.aload_n 0, 1) := by decide +kernel
theorem dX11_cells_1 : decode cX11_cells 1 = .ok (.getfield 41, 3) := by decide +kernel
theorem dX11_cells_4 : decode cX11_cells 4 = .ok (.iload_n 1, 1) := by decide +kernel
theorem dX11_cells_5 : decode cX11_cells 5 = .ok (.iaload, 1) := by decide +kernel
theorem dX11_cells_6 : decode cX11_cells 6 = .ok (.aload_n 0, 1) := by decide +kernel
theorem dX11_cells_7 : decode cX11_cells 7 = .ok (.getfield 44, 3) := by decide +kernel
theorem dX11_cells_10 : decode cX11_cells 10 = .ok (.iload_n 1, 1) := by decide +kernel
theorem dX11_cells_11 : decode cX11_cells 11 = .ok (.iaload, 1) := by decide +kernel
theorem dX11_cells_12 : decode cX11_cells 12 = .ok (.imul, 1) := by decide +kernel
theorem dX11_cells_13 : decode cX11_cells 13 = .ok (.ireturn, 1) := by decide +kernel
noncomputable def f_X11_cells (x1 : Int32) (u0 : qM) : Option (Int32 × qM) :=
  q_ck (q_in x1 8) (q_ck (q_in x1 8) (some ((u0.1 75 0 (Int32.toNatClampNeg x1)) * (u0.1 76 0 (Int32.toNatClampNeg x1)), u0)))
set_option maxRecDepth 100000 in
set_option maxHeartbeats 4000000 in
theorem k_X11_cells (l : Launch) (G : qG) (x1 : Int32)  (u0 : qM) : qCt l G m_X11_cells q_cI [.ref (q_ad G 11 0), .int x1] u0 (f_X11_cells x1 u0) := by
  refine q_entry pk_X11_cells (Nat.le_of_ble_eq_true rfl) ?_
  show qAW l G m_X11_cells (q_mq G q_cI) 0 [(0, .ref (q_ad G 11 0)), (1, .int x1)] [] u0 (f_X11_cells x1 u0)
  unfold f_X11_cells
  refine aw_aload_n (i := 0) dX11_cells_0 1 rfl rfl 0 rfl ?_
  refine gf_X11_15 dX11_cells_1 4 rfl wd_246 (ok_11 (by decide)) ?_
  refine aw_iload_n (i := 1) dX11_cells_4 5 rfl rfl 1 rfl ?_
  refine aw_iald dX11_cells_5 6 rfl at_75 (al_75 _) (ok_75 (by decide)) (fun h1 => ?_)
  refine aw_aload_n (i := 0) dX11_cells_6 7 rfl rfl 0 rfl ?_
  refine gf_X11_16 dX11_cells_7 10 rfl wd_247 (ok_11 (by decide)) ?_
  refine aw_iload_n (i := 1) dX11_cells_10 11 rfl rfl 1 rfl ?_
  refine aw_iald dX11_cells_11 12 rfl at_76 (al_76 _) (ok_76 (by decide)) (fun h2 => ?_)
  refine aw_imul dX11_cells_12 13 rfl ?_
  exact aw_iret dX11_cells_13 rfl
theorem dX11_level_0 : decode cX11_level 0 = .ok (.aload_n 0, 1) := by decide +kernel
theorem dX11_level_1 : decode cX11_level 1 = .ok (.getfield 89, 3) := by decide +kernel
theorem dX11_level_4 : decode cX11_level 4 = .ok (.bipush 48, 2) := by decide +kernel
theorem dX11_level_6 : decode cX11_level 6 = .ok (.iload_n 1, 1) := by decide +kernel
theorem dX11_level_7 : decode cX11_level 7 = .ok (.imul, 1) := by decide +kernel
theorem dX11_level_8 : decode cX11_level 8 = .ok (.iload_n 2, 1) := by decide +kernel
theorem dX11_level_9 : decode cX11_level 9 = .ok (.iadd, 1) := by decide +kernel
theorem dX11_level_10 : decode cX11_level 10 = .ok (.iaload, 1) := by decide +kernel
theorem dX11_level_11 : decode cX11_level 11 = .ok (.aload_n 0, 1) := by decide +kernel
theorem dX11_level_12 : decode cX11_level 12 = .ok (.getfield 92, 3) := by decide +kernel
theorem dX11_level_15 : decode cX11_level 15 = .ok (.bipush 48, 2) := by decide +kernel
theorem dX11_level_17 : decode cX11_level 17 = .ok (.iload_n 1, 1) := by decide +kernel
theorem dX11_level_18 : decode cX11_level 18 = .ok (.imul, 1) := by decide +kernel
theorem dX11_level_19 : decode cX11_level 19 = .ok (.iload_n 2, 1) := by decide +kernel
theorem dX11_level_20 : decode cX11_level 20 = .ok (.iadd, 1) := by decide +kernel
theorem dX11_level_21 : decode cX11_level 21 = .ok (.iaload, 1) := by decide +kernel
theorem dX11_level_22 : decode cX11_level 22 = .ok (.iadd, 1) := by decide +kernel
theorem dX11_level_23 : decode cX11_level 23 = .ok (.ireturn, 1) := by decide +kernel
noncomputable def f_X11_level (x1 : Int32) (x2 : Int32) (u0 : qM) : Option (Int32 × qM) :=
  q_ck (q_in ((48 * x1) + x2) 384) (q_ck (q_in ((48 * x1) + x2) 384) (some ((u0.1 91 0 (Int32.toNatClampNeg ((48 * x1) + x2))) + (u0.1 92 0 (Int32.toNatClampNeg ((48 * x1) + x2))), u0)))
set_option maxRecDepth 100000 in
set_option maxHeartbeats 4000000 in
theorem k_X11_level (l : Launch) (G : qG) (x1 : Int32) (x2 : Int32)  (u0 : qM) : qCt l G m_X11_level q_cI [.ref (q_ad G 11 0), .int x1, .int x2] u0 (f_X11_level x1 x2 u0) := by
  refine q_entry pk_X11_level (Nat.le_of_ble_eq_true rfl) ?_
  show qAW l G m_X11_level (q_mq G q_cI) 0 [(0, .ref (q_ad G 11 0)), (1, .int x1), (2, .int x2)] [] u0 (f_X11_level x1 x2 u0)
  unfold f_X11_level
  refine aw_aload_n (i := 0) dX11_level_0 1 rfl rfl 0 rfl ?_
  refine gf_X11_31 dX11_level_1 4 rfl wd_248 (ok_11 (by decide)) ?_
  refine aw_bipush (x := 48) dX11_level_4 6 rfl rfl ?_
  refine aw_iload_n (i := 1) dX11_level_6 7 rfl rfl 1 rfl ?_
  refine aw_imul dX11_level_7 8 rfl ?_
  refine aw_iload_n (i := 2) dX11_level_8 9 rfl rfl 2 rfl ?_
  refine aw_iadd dX11_level_9 10 rfl ?_
  refine aw_iald dX11_level_10 11 rfl at_91 (al_91 _) (ok_91 (by decide)) (fun h1 => ?_)
  refine aw_aload_n (i := 0) dX11_level_11 12 rfl rfl 0 rfl ?_
  refine gf_X11_32 dX11_level_12 15 rfl wd_249 (ok_11 (by decide)) ?_
  refine aw_bipush (x := 48) dX11_level_15 17 rfl rfl ?_
  refine aw_iload_n (i := 1) dX11_level_17 18 rfl rfl 1 rfl ?_
  refine aw_imul dX11_level_18 19 rfl ?_
  refine aw_iload_n (i := 2) dX11_level_19 20 rfl rfl 2 rfl ?_
  refine aw_iadd dX11_level_20 21 rfl ?_
  refine aw_iald dX11_level_21 22 rfl at_92 (al_92 _) (ok_92 (by decide)) (fun h2 => ?_)
  refine aw_iadd dX11_level_22 23 rfl ?_
  exact aw_iret dX11_level_23 rfl
theorem dX11_askedFor_0 : decode cX11_askedFor 0 = .ok (.iload_n 1, 1) := by decide +kernel
theorem dX11_askedFor_1 : decode cX11_askedFor 1 = .ok (.invokestatic 186, 3) := by decide +kernel
theorem dX11_askedFor_4 : decode cX11_askedFor 4 = .ok (.ifCond .ne 7, 3) := by decide +kernel
theorem dX11_askedFor_7 : decode cX11_askedFor 7 = .ok (.iconst (-1), 1) := by decide +kernel
theorem dX11_askedFor_8 : decode cX11_askedFor 8 = .ok (.goto 21, 3) := by decide +kernel
theorem dX11_askedFor_11 : decode cX11_askedFor 11 = .ok (.aload_n 0, 1) := by decide +kernel
theorem dX11_askedFor_12 : decode cX11_askedFor 12 = .ok (.getfield 38, 3) := by decide +kernel
theorem dX11_askedFor_15 : decode cX11_askedFor 15 = .ok (.iload_n 1, 1) := by decide +kernel
theorem dX11_askedFor_16 : decode cX11_askedFor 16 = .ok (.iaload, 1) := by decide +kernel
theorem dX11_askedFor_17 : decode cX11_askedFor 17 = .ok (.ifCond .ge 11, 3) := by decide +kernel
theorem dX11_askedFor_20 : decode cX11_askedFor 20 = .ok (.aload_n 0, 1) := by decide +kernel
theorem dX11_askedFor_21 : decode cX11_askedFor 21 = .ok (.iconst 1, 1) := by decide +kernel
theorem dX11_askedFor_22 : decode cX11_askedFor 22 = .ok (.invokevirtual 190, 3) := by decide +kernel
theorem dX11_askedFor_25 : decode cX11_askedFor 25 = .ok (.goto 4, 3) := by decide +kernel
theorem dX11_askedFor_28 : decode cX11_askedFor 28 = .ok (.iconst 0, 1) := by decide +kernel
theorem dX11_askedFor_29 : decode cX11_askedFor 29 = .ok (.ireturn, 1) := by decide +kernel
noncomputable def f_X11_askedFor (x1 : Int32) (u0 : qM) : Option (Int32 × qM) :=
  q_bd (f_X11_isSix x1 u0) (fun (x2 : Int32) (u1 : qM) => q_jn (fun (x3 : Int32) (u2 : qM) => some (x3, u2)) (fun j1 => if x2 = 0 then j1 (-1) u1 else q_ck (q_in x1 8) (if (0 : Int32) ≤ (u1.1 74 0 (Int32.toNatClampNeg x1)) then j1 0 u1 else q_bd (f_X11_meets 1 u1) (fun (x4 : Int32) (u3 : qM) => j1 x4 u3))))
set_option maxRecDepth 100000 in
set_option maxHeartbeats 4000000 in
theorem k_X11_askedFor (l : Launch) (G : qG) (x1 : Int32)  (u0 : qM) : qCt l G m_X11_askedFor q_cI [.ref (q_ad G 11 0), .int x1] u0 (f_X11_askedFor x1 u0) := by
  refine q_entry pk_X11_askedFor (Nat.le_of_ble_eq_true rfl) ?_
  show qAW l G m_X11_askedFor (q_mq G q_cI) 0 [(0, .ref (q_ad G 11 0)), (1, .int x1)] [] u0 (f_X11_askedFor x1 u0)
  unfold f_X11_askedFor
  refine aw_iload_n (i := 1) dX11_askedFor_0 1 rfl rfl 1 rfl ?_
  refine aw_callS (M2 := m_X11_isSix) (cv := q_cI) dX11_askedFor_1 4 rfl (k_X11_isSix l G x1  u0) wd_227 wv_X11_isSix pk_X11_isSix rfl ⟨by decide, by decide⟩ ⟨Nat.zero_le _, Nat.zero_le _⟩ rfl (Nat.le_of_ble_eq_true rfl) (fun x2 u1 => ?_)
  show qAW l G m_X11_askedFor (q_mq G q_cI) 4 [(0, .ref (q_ad G 11 0)), (1, .int x1)] [.int x2] u1 _
  refine aw_jn (fun k => ∀ (x3 : Int32) (u2 : qM), qAW l G m_X11_askedFor (q_mq G q_cI) 29 [] [.int x3] u2 (k x3 u2)) ?_ ?_
  · intro x3 u2
    exact aw_iret dX11_askedFor_29 rfl
  · intro j1 hj1
    refine aw_if_ne dX11_askedFor_4 7 rfl 11 rfl (fun h1 => ?_) (fun h1 => ?_)
    · refine aw_aload_n (i := 0) dX11_askedFor_11 12 rfl rfl 0 rfl ?_
      refine gf_X11_14 dX11_askedFor_12 15 rfl wd_250 (ok_11 (by decide)) ?_
      refine aw_iload_n (i := 1) dX11_askedFor_15 16 rfl rfl 1 rfl ?_
      refine aw_iald dX11_askedFor_16 17 rfl at_74 (al_74 _) (ok_74 (by decide)) (fun h2 => ?_)
      refine aw_if_ge dX11_askedFor_17 20 rfl 28 rfl (fun h3 => ?_) (fun h3 => ?_)
      · refine aw_iconst (x := 0) dX11_askedFor_28 29 rfl rfl ?_
        exact aw_conv [] rfl (hj1 0 u1)
      · refine aw_aload_n (i := 0) dX11_askedFor_20 21 rfl rfl 0 rfl ?_
        refine aw_iconst (x := 1) dX11_askedFor_21 22 rfl rfl ?_
        refine aw_callV (M2 := m_X11_meets) (cv := q_cI) dX11_askedFor_22 25 rfl (k_X11_meets l G 1  u1) wd_229 wv_X11_meets pk_X11_meets rfl rfl ⟨by decide, by decide⟩ ⟨Nat.zero_le _, Nat.zero_le _⟩ at_11 (ok_11 (by decide)) rfl rfl rfl (Nat.le_of_ble_eq_true rfl) (fun x4 u3 => ?_)
        show qAW l G m_X11_askedFor (q_mq G q_cI) 25 [(0, .ref (q_ad G 11 0)), (1, .int x1)] [.int x4] u3 _
        refine aw_goto dX11_askedFor_25 29 rfl ?_
        exact aw_conv [] rfl (hj1 x4 u3)
    · refine aw_iconst (x := (-1)) dX11_askedFor_7 8 rfl rfl ?_
      refine aw_goto dX11_askedFor_8 29 rfl ?_
      exact aw_conv [] rfl (hj1 (-1) u1)
theorem dX11_isCell_0 : decode cX11_isCell 0 = .ok (.iload_n 2, 1) := by decide +kernel
theorem dX11_isCell_1 : decode cX11_isCell 1 = .ok (.iconst 0, 1) := by decide +kernel
theorem dX11_isCell_2 : decode cX11_isCell 2 = .ok (.aload_n 0, 1) := by decide +kernel
theorem dX11_isCell_3 : decode cX11_isCell 3 = .ok (.iload_n 1, 1) := by decide +kernel
theorem dX11_isCell_4 : decode cX11_isCell 4 = .ok (.invokevirtual 223, 3) := by decide +kernel
theorem dX11_isCell_7 : decode cX11_isCell 7 = .ok (.iconst 1, 1) := by decide +kernel
theorem dX11_isCell_8 : decode cX11_isCell 8 = .ok (.isub, 1) := by decide +kernel
theorem dX11_isCell_9 : decode cX11_isCell 9 = .ok (.invokestatic 182, 3) := by decide +kernel
theorem dX11_isCell_12 : decode cX11_isCell 12 = .ok (.ireturn, 1) := by decide +kernel
noncomputable def f_X11_isCell (x1 : Int32) (x2 : Int32) (u0 : qM) : Option (Int32 × qM) :=
  q_bd (f_X11_cells x1 u0) (fun (x3 : Int32) (u1 : qM) => q_bd (f_X11_in x2 0 (x3 - 1) u1) (fun (x4 : Int32) (u2 : qM) => q_ck (q_b x4) (some (x4, u2))))
set_option maxRecDepth 100000 in
set_option maxHeartbeats 4000000 in
theorem k_X11_isCell (l : Launch) (G : qG) (x1 : Int32) (x2 : Int32)  (u0 : qM) : qCt l G m_X11_isCell q_cI [.ref (q_ad G 11 0), .int x1, .int x2] u0 (f_X11_isCell x1 x2 u0) := by
  refine q_entry pk_X11_isCell (Nat.le_of_ble_eq_true rfl) ?_
  show qAW l G m_X11_isCell (q_mq G q_cI) 0 [(0, .ref (q_ad G 11 0)), (1, .int x1), (2, .int x2)] [] u0 (f_X11_isCell x1 x2 u0)
  unfold f_X11_isCell
  refine aw_iload_n (i := 2) dX11_isCell_0 1 rfl rfl 2 rfl ?_
  refine aw_iconst (x := 0) dX11_isCell_1 2 rfl rfl ?_
  refine aw_aload_n (i := 0) dX11_isCell_2 3 rfl rfl 0 rfl ?_
  refine aw_iload_n (i := 1) dX11_isCell_3 4 rfl rfl 1 rfl ?_
  refine aw_callV (M2 := m_X11_cells) (cv := q_cI) dX11_isCell_4 7 rfl (k_X11_cells l G x1  u0) wd_251 wv_X11_cells pk_X11_cells rfl rfl ⟨by decide, by decide⟩ ⟨Nat.zero_le _, Nat.zero_le _⟩ at_11 (ok_11 (by decide)) rfl rfl rfl (Nat.le_of_ble_eq_true rfl) (fun x3 u1 => ?_)
  show qAW l G m_X11_isCell (q_mq G q_cI) 7 [(0, .ref (q_ad G 11 0)), (1, .int x1), (2, .int x2)] [.int x3, .int 0, .int x2] u1 _
  refine aw_iconst (x := 1) dX11_isCell_7 8 rfl rfl ?_
  refine aw_isub dX11_isCell_8 9 rfl ?_
  refine aw_callS (M2 := m_X11_in) (cv := q_cI) dX11_isCell_9 12 rfl (k_X11_in l G x2 0 (x3 - 1)  u1) wd_226 wv_X11_in pk_X11_in rfl ⟨by decide, by decide⟩ ⟨Nat.zero_le _, Nat.zero_le _⟩ rfl (Nat.le_of_ble_eq_true rfl) (fun x4 u2 => ?_)
  show qAW l G m_X11_isCell (q_mq G q_cI) 12 [(0, .ref (q_ad G 11 0)), (1, .int x1), (2, .int x2)] [.int x4] u2 _
  refine aw_ck (fun h1 => ?_)
  exact aw_zret dX11_isCell_12 rfl h1
theorem dX11_beyond_0 : decode cX11_beyond 0 = .ok (.iload_n 2, 1) := by decide +kernel
theorem dX11_beyond_1 : decode cX11_beyond 1 = .ok (.iconst 2, 1) := by decide +kernel
theorem dX11_beyond_2 : decode cX11_beyond 2 = .ok (.idiv, 1) := by decide +kernel
theorem dX11_beyond_3 : decode cX11_beyond 3 = .ok (.istore_n 3, 1) := by decide +kernel
theorem dX11_beyond_4 : decode cX11_beyond 4 = .ok (.iload_n 2, 1) := by decide +kernel
theorem dX11_beyond_5 : decode cX11_beyond 5 = .ok (.ifCond .lt 12, 3) := by decide +kernel
theorem dX11_beyond_8 : decode cX11_beyond 8 = .ok (.aload_n 0, 1) := by decide +kernel
theorem dX11_beyond_9 : decode cX11_beyond 9 = .ok (.iload_n 1, 1) := by decide +kernel
theorem dX11_beyond_10 : decode cX11_beyond 10 = .ok (.iload_n 3, 1) := by decide +kernel
theorem dX11_beyond_11 : decode cX11_beyond 11 = .ok (.invokevirtual 226, 3) := by decide +kernel
theorem dX11_beyond_14 : decode cX11_beyond 14 = .ok (.ifCond .ne 6, 3) := by decide +kernel
theorem dX11_beyond_17 : decode cX11_beyond 17 = .ok (.bipush (-9), 2) := by decide +kernel
theorem dX11_beyond_19 : decode cX11_beyond 19 = .ok (.ireturn, 1) := by decide +kernel
theorem dX11_beyond_20 : decode cX11_beyond 20 = .ok (.iload_n 2, 1) := by decide +kernel
theorem dX11_beyond_21 : decode cX11_beyond 21 = .ok (.iconst 2, 1) := by decide +kernel
theorem dX11_beyond_22 : decode cX11_beyond 22 = .ok (.irem, 1) := by decide +kernel
theorem dX11_beyond_23 : decode cX11_beyond 23 = .ok (.ifCond .ne 31, 3) := by decide +kernel
theorem dX11_beyond_26 : decode cX11_beyond 26 = .ok (.iload_n 3, 1) := by decide +kernel
theorem dX11_beyond_27 : decode cX11_beyond 27 = .ok (.aload_n 0, 1) := by decide +kernel
theorem dX11_beyond_28 : decode cX11_beyond 28 = .ok (.getfield 41, 3) := by decide +kernel
theorem dX11_beyond_31 : decode cX11_beyond 31 = .ok (.iload_n 1, 1) := by decide +kernel
theorem dX11_beyond_32 : decode cX11_beyond 32 = .ok (.iaload, 1) := by decide +kernel
theorem dX11_beyond_33 : decode cX11_beyond 33 = .ok (.irem, 1) := by decide +kernel
theorem dX11_beyond_34 : decode cX11_beyond 34 = .ok (.iconst 1, 1) := by decide +kernel
theorem dX11_beyond_35 : decode cX11_beyond 35 = .ok (.iadd, 1) := by decide +kernel
theorem dX11_beyond_36 : decode cX11_beyond 36 = .ok (.aload_n 0, 1) := by decide +kernel
theorem dX11_beyond_37 : decode cX11_beyond 37 = .ok (.getfield 41, 3) := by decide +kernel
theorem dX11_beyond_40 : decode cX11_beyond 40 = .ok (.iload_n 1, 1) := by decide +kernel
theorem dX11_beyond_41 : decode cX11_beyond 41 = .ok (.iaload, 1) := by decide +kernel
theorem dX11_beyond_42 : decode cX11_beyond 42 = .ok (.if_icmp .ge 9, 3) := by decide +kernel
theorem dX11_beyond_45 : decode cX11_beyond 45 = .ok (.iload_n 3, 1) := by decide +kernel
theorem dX11_beyond_46 : decode cX11_beyond 46 = .ok (.iconst 1, 1) := by decide +kernel
theorem dX11_beyond_47 : decode cX11_beyond 47 = .ok (.iadd, 1) := by decide +kernel
theorem dX11_beyond_48 : decode cX11_beyond 48 = .ok (.goto 5, 3) := by decide +kernel
theorem dX11_beyond_51 : decode cX11_beyond 51 = .ok (.bipush (-9), 2) := by decide +kernel
theorem dX11_beyond_53 : decode cX11_beyond 53 = .ok (.ireturn, 1) := by decide +kernel
theorem dX11_beyond_54 : decode cX11_beyond 54 = .ok (.iload_n 3, 1) := by decide +kernel
theorem dX11_beyond_55 : decode cX11_beyond 55 = .ok (.aload_n 0, 1) := by decide +kernel
theorem dX11_beyond_56 : decode cX11_beyond 56 = .ok (.getfield 41, 3) := by decide +kernel
theorem dX11_beyond_59 : decode cX11_beyond 59 = .ok (.iload_n 1, 1) := by decide +kernel
theorem dX11_beyond_60 : decode cX11_beyond 60 = .ok (.iaload, 1) := by decide +kernel
theorem dX11_beyond_61 : decode cX11_beyond 61 = .ok (.iadd, 1) := by decide +kernel
theorem dX11_beyond_62 : decode cX11_beyond 62 = .ok (.aload_n 0, 1) := by decide +kernel
theorem dX11_beyond_63 : decode cX11_beyond 63 = .ok (.iload_n 1, 1) := by decide +kernel
theorem dX11_beyond_64 : decode cX11_beyond 64 = .ok (.invokevirtual 223, 3) := by decide +kernel
theorem dX11_beyond_67 : decode cX11_beyond 67 = .ok (.if_icmp .ge 14, 3) := by decide +kernel
theorem dX11_beyond_70 : decode cX11_beyond 70 = .ok (.iload_n 3, 1) := by decide +kernel
theorem dX11_beyond_71 : decode cX11_beyond 71 = .ok (.aload_n 0, 1) := by decide +kernel
theorem dX11_beyond_72 : decode cX11_beyond 72 = .ok (.getfield 41, 3) := by decide +kernel
theorem dX11_beyond_75 : decode cX11_beyond 75 = .ok (.iload_n 1, 1) := by decide +kernel
theorem dX11_beyond_76 : decode cX11_beyond 76 = .ok (.iaload, 1) := by decide +kernel
theorem dX11_beyond_77 : decode cX11_beyond 77 = .ok (.iadd, 1) := by decide +kernel
theorem dX11_beyond_78 : decode cX11_beyond 78 = .ok (.goto 5, 3) := by decide +kernel
theorem dX11_beyond_81 : decode cX11_beyond 81 = .ok (.bipush (-9), 2) := by decide +kernel
theorem dX11_beyond_83 : decode cX11_beyond 83 = .ok (.ireturn, 1) := by decide +kernel
noncomputable def f_X11_beyond (x1 : Int32) (x2 : Int32) (u0 : qM) : Option (Int32 × qM) :=
  q_lt (x2 / 2) (fun (x3 : Int32) => q_jn (fun  (u1 : qM) => some ((-9), u1)) (fun j1 => if x2 < 0 then j1 u0 else q_bd (f_X11_isCell x1 x3 u0) (fun (x4 : Int32) (u2 : qM) => if x4 = 0 then j1 u2 else if (x2 - x2 / 2 * 2) = 0 then q_ck (q_in x1 8) (q_ck (q_nz (u2.1 75 0 (Int32.toNatClampNeg x1))) (q_ck (q_in x1 8) (q_jn (fun (x7 : Int32) (u5 : qM) => some (x7, u5)) (fun j3 => if (u2.1 75 0 (Int32.toNatClampNeg x1)) ≤ ((x3 - x3 / (u2.1 75 0 (Int32.toNatClampNeg x1)) * (u2.1 75 0 (Int32.toNatClampNeg x1))) + 1) then j3 (-9) u2 else j3 (x3 + 1) u2)))) else q_ck (q_in x1 8) (q_bd (f_X11_cells x1 u2) (fun (x5 : Int32) (u3 : qM) => q_jn (fun (x6 : Int32) (u4 : qM) => some (x6, u4)) (fun j2 => if x5 ≤ (x3 + (u2.1 75 0 (Int32.toNatClampNeg x1))) then j2 (-9) u3 else q_ck (q_in x1 8) (j2 (x3 + (u3.1 75 0 (Int32.toNatClampNeg x1))) u3)))))))
set_option maxRecDepth 100000 in
set_option maxHeartbeats 4000000 in
theorem k_X11_beyond (l : Launch) (G : qG) (x1 : Int32) (x2 : Int32)  (u0 : qM) : qCt l G m_X11_beyond q_cI [.ref (q_ad G 11 0), .int x1, .int x2] u0 (f_X11_beyond x1 x2 u0) := by
  refine q_entry pk_X11_beyond (Nat.le_of_ble_eq_true rfl) ?_
  show qAW l G m_X11_beyond (q_mq G q_cI) 0 [(0, .ref (q_ad G 11 0)), (1, .int x1), (2, .int x2)] [] u0 (f_X11_beyond x1 x2 u0)
  unfold f_X11_beyond
  refine aw_iload_n (i := 2) dX11_beyond_0 1 rfl rfl 2 rfl ?_
  refine aw_iconst (x := 2) dX11_beyond_1 2 rfl rfl ?_
  refine aw_idiv dX11_beyond_2 3 rfl (by decide) ?_
  refine aw_lti (fun x3 => ?_)
  refine aw_istore_n dX11_beyond_3 4 rfl rfl [(3, .int x3), (0, .ref (q_ad G 11 0)), (1, .int x1), (2, .int x2)] (by decide) rfl ?_
  refine aw_iload_n (i := 2) dX11_beyond_4 5 rfl rfl 3 rfl ?_
  refine aw_jn (fun k => ∀  (u1 : qM), qAW l G m_X11_beyond (q_mq G q_cI) 17 [] [] u1 (k u1)) ?_ ?_
  · intro u1
    refine aw_bipush (x := (-9)) dX11_beyond_17 19 rfl rfl ?_
    exact aw_iret dX11_beyond_19 rfl
  · intro j1 hj1
    refine aw_if_lt dX11_beyond_5 8 rfl 17 rfl (fun h1 => ?_) (fun h1 => ?_)
    · exact aw_conv [] rfl (hj1 u0)
    · refine aw_aload_n (i := 0) dX11_beyond_8 9 rfl rfl 1 rfl ?_
      refine aw_iload_n (i := 1) dX11_beyond_9 10 rfl rfl 2 rfl ?_
      refine aw_iload_n (i := 3) dX11_beyond_10 11 rfl rfl 0 rfl ?_
      refine aw_callV (M2 := m_X11_isCell) (cv := q_cI) dX11_beyond_11 14 rfl (k_X11_isCell l G x1 x3  u0) wd_252 wv_X11_isCell pk_X11_isCell rfl rfl ⟨by decide, by decide⟩ ⟨Nat.zero_le _, Nat.zero_le _⟩ at_11 (ok_11 (by decide)) rfl rfl rfl (Nat.le_of_ble_eq_true rfl) (fun x4 u2 => ?_)
      show qAW l G m_X11_beyond (q_mq G q_cI) 14 [(3, .int x3), (0, .ref (q_ad G 11 0)), (1, .int x1), (2, .int x2)] [.int x4] u2 _
      refine aw_if_ne dX11_beyond_14 17 rfl 20 rfl (fun h2 => ?_) (fun h2 => ?_)
      · refine aw_iload_n (i := 2) dX11_beyond_20 21 rfl rfl 3 rfl ?_
        refine aw_iconst (x := 2) dX11_beyond_21 22 rfl rfl ?_
        refine aw_irem dX11_beyond_22 23 rfl (by decide) ?_
        refine aw_if_ne dX11_beyond_23 26 rfl 54 rfl (fun h3 => ?_) (fun h3 => ?_)
        · refine aw_iload_n (i := 3) dX11_beyond_54 55 rfl rfl 0 rfl ?_
          refine aw_aload_n (i := 0) dX11_beyond_55 56 rfl rfl 1 rfl ?_
          refine gf_X11_15 dX11_beyond_56 59 rfl wd_246 (ok_11 (by decide)) ?_
          refine aw_iload_n (i := 1) dX11_beyond_59 60 rfl rfl 2 rfl ?_
          refine aw_iald dX11_beyond_60 61 rfl at_75 (al_75 _) (ok_75 (by decide)) (fun h4 => ?_)
          refine aw_iadd dX11_beyond_61 62 rfl ?_
          refine aw_aload_n (i := 0) dX11_beyond_62 63 rfl rfl 1 rfl ?_
          refine aw_iload_n (i := 1) dX11_beyond_63 64 rfl rfl 2 rfl ?_
          refine aw_callV (M2 := m_X11_cells) (cv := q_cI) dX11_beyond_64 67 rfl (k_X11_cells l G x1  u2) wd_251 wv_X11_cells pk_X11_cells rfl rfl ⟨by decide, by decide⟩ ⟨Nat.zero_le _, Nat.zero_le _⟩ at_11 (ok_11 (by decide)) rfl rfl rfl (Nat.le_of_ble_eq_true rfl) (fun x5 u3 => ?_)
          show qAW l G m_X11_beyond (q_mq G q_cI) 67 [(3, .int x3), (0, .ref (q_ad G 11 0)), (1, .int x1), (2, .int x2)] [.int x5, .int (x3 + (u2.1 75 0 (Int32.toNatClampNeg x1)))] u3 _
          refine aw_jn (fun k => ∀ (x6 : Int32) (u4 : qM), qAW l G m_X11_beyond (q_mq G q_cI) 83 [] [.int x6] u4 (k x6 u4)) ?_ ?_
          · intro x6 u4
            exact aw_iret dX11_beyond_83 rfl
          · intro j2 hj2
            refine aw_icmp_ge dX11_beyond_67 70 rfl 81 rfl (fun h5 => ?_) (fun h5 => ?_)
            · refine aw_bipush (x := (-9)) dX11_beyond_81 83 rfl rfl ?_
              exact aw_conv [] rfl (hj2 (-9) u3)
            · refine aw_iload_n (i := 3) dX11_beyond_70 71 rfl rfl 0 rfl ?_
              refine aw_aload_n (i := 0) dX11_beyond_71 72 rfl rfl 1 rfl ?_
              refine gf_X11_15 dX11_beyond_72 75 rfl wd_246 (ok_11 (by decide)) ?_
              refine aw_iload_n (i := 1) dX11_beyond_75 76 rfl rfl 2 rfl ?_
              refine aw_iald dX11_beyond_76 77 rfl at_75 (al_75 _) (ok_75 (by decide)) (fun h6 => ?_)
              refine aw_iadd dX11_beyond_77 78 rfl ?_
              refine aw_goto dX11_beyond_78 83 rfl ?_
              exact aw_conv [] rfl (hj2 (x3 + (u3.1 75 0 (Int32.toNatClampNeg x1))) u3)
        · refine aw_iload_n (i := 3) dX11_beyond_26 27 rfl rfl 0 rfl ?_
          refine aw_aload_n (i := 0) dX11_beyond_27 28 rfl rfl 1 rfl ?_
          refine gf_X11_15 dX11_beyond_28 31 rfl wd_246 (ok_11 (by decide)) ?_
          refine aw_iload_n (i := 1) dX11_beyond_31 32 rfl rfl 2 rfl ?_
          refine aw_iald dX11_beyond_32 33 rfl at_75 (al_75 _) (ok_75 (by decide)) (fun h7 => ?_)
          refine aw_ck (fun h8 => ?_)
          refine aw_irem dX11_beyond_33 34 rfl (of_decide_eq_true h8) ?_
          refine aw_iconst (x := 1) dX11_beyond_34 35 rfl rfl ?_
          refine aw_iadd dX11_beyond_35 36 rfl ?_
          refine aw_aload_n (i := 0) dX11_beyond_36 37 rfl rfl 1 rfl ?_
          refine gf_X11_15 dX11_beyond_37 40 rfl wd_246 (ok_11 (by decide)) ?_
          refine aw_iload_n (i := 1) dX11_beyond_40 41 rfl rfl 2 rfl ?_
          refine aw_iald dX11_beyond_41 42 rfl at_75 (al_75 _) (ok_75 (by decide)) (fun h9 => ?_)
          refine aw_jn (fun k => ∀ (x7 : Int32) (u5 : qM), qAW l G m_X11_beyond (q_mq G q_cI) 53 [] [.int x7] u5 (k x7 u5)) ?_ ?_
          · intro x7 u5
            exact aw_iret dX11_beyond_53 rfl
          · intro j3 hj3
            refine aw_icmp_ge dX11_beyond_42 45 rfl 51 rfl (fun h10 => ?_) (fun h10 => ?_)
            · refine aw_bipush (x := (-9)) dX11_beyond_51 53 rfl rfl ?_
              exact aw_conv [] rfl (hj3 (-9) u2)
            · refine aw_iload_n (i := 3) dX11_beyond_45 46 rfl rfl 0 rfl ?_
              refine aw_iconst (x := 1) dX11_beyond_46 47 rfl rfl ?_
              refine aw_iadd dX11_beyond_47 48 rfl ?_
              refine aw_goto dX11_beyond_48 53 rfl ?_
              exact aw_conv [] rfl (hj3 (x3 + 1) u2)
      · exact aw_conv [] rfl (hj1 u2)
theorem dX11_clear_0 : decode cX11_clear 0 = .ok (.iconst 1, 1) := by decide +kernel
theorem dX11_clear_1 : decode cX11_clear 1 = .ok (.istore_n 2, 1) := by decide +kernel
theorem dX11_clear_2 : decode cX11_clear 2 = .ok (.iconst 1, 1) := by decide +kernel
theorem dX11_clear_3 : decode cX11_clear 3 = .ok (.istore_n 3, 1) := by decide +kernel
theorem dX11_clear_4 : decode cX11_clear 4 = .ok (.iload_n 2, 1) := by decide +kernel
theorem dX11_clear_5 : decode cX11_clear 5 = .ok (.ifCond .eq 171, 3) := by decide +kernel
theorem dX11_clear_8 : decode cX11_clear 8 = .ok (.iconst 0, 1) := by decide +kernel
theorem dX11_clear_9 : decode cX11_clear 9 = .ok (.istore_n 2, 1) := by decide +kernel
theorem dX11_clear_10 : decode cX11_clear 10 = .ok (.iload_n 3, 1) := by decide +kernel
theorem dX11_clear_11 : decode cX11_clear 11 = .ok (.ifCond .eq 7, 3) := by decide +kernel
theorem dX11_clear_14 : decode cX11_clear 14 = .ok (.iload_n 1, 1) := by decide +kernel
theorem dX11_clear_15 : decode cX11_clear 15 = .ok (.goto 5, 3) := by decide +kernel
theorem dX11_clear_18 : decode cX11_clear 18 = .ok (.bipush (-9), 2) := by decide +kernel
theorem dX11_clear_20 : decode cX11_clear 20 = .ok (.istore 4, 2) := by decide +kernel
theorem dX11_clear_22 : decode cX11_clear 22 = .ok (.iconst 0, 1) := by decide +kernel
theorem dX11_clear_23 : decode cX11_clear 23 = .ok (.istore 5, 2) := by decide +kernel
theorem dX11_clear_25 : decode cX11_clear 25 = .ok (.iload 5, 2) := by decide +kernel
theorem dX11_clear_27 : decode cX11_clear 27 = .ok (.bipush 6, 2) := by decide +kernel
theorem dX11_clear_29 : decode cX11_clear 29 = .ok (.if_icmp .ge 48, 3) := by decide +kernel
theorem dX11_clear_32 : decode cX11_clear 32 = .ok (.iload_n 3, 1) := by decide +kernel
theorem dX11_clear_33 : decode cX11_clear 33 = .ok (.ifCond .ne 44, 3) := by decide +kernel
theorem dX11_clear_36 : decode cX11_clear 36 = .ok (.aload_n 0, 1) := by decide +kernel
theorem dX11_clear_37 : decode cX11_clear 37 = .ok (.getfield 38, 3) := by decide +kernel
theorem dX11_clear_40 : decode cX11_clear 40 = .ok (.iload 5, 2) := by decide +kernel
theorem dX11_clear_42 : decode cX11_clear 42 = .ok (.iaload, 1) := by decide +kernel
theorem dX11_clear_43 : decode cX11_clear 43 = .ok (.iconst 2, 1) := by decide +kernel
theorem dX11_clear_44 : decode cX11_clear 44 = .ok (.if_icmp .ne 23, 3) := by decide +kernel
theorem dX11_clear_47 : decode cX11_clear 47 = .ok (.aload_n 0, 1) := by decide +kernel
theorem dX11_clear_48 : decode cX11_clear 48 = .ok (.getfield 38, 3) := by decide +kernel
theorem dX11_clear_51 : decode cX11_clear 51 = .ok (.aload_n 0, 1) := by decide +kernel
theorem dX11_clear_52 : decode cX11_clear 52 = .ok (.getfield 105, 3) := by decide +kernel
theorem dX11_clear_55 : decode cX11_clear 55 = .ok (.iload 5, 2) := by decide +kernel
theorem dX11_clear_57 : decode cX11_clear 57 = .ok (.iaload, 1) := by decide +kernel
theorem dX11_clear_58 : decode cX11_clear 58 = .ok (.iaload, 1) := by decide +kernel
theorem dX11_clear_59 : decode cX11_clear 59 = .ok (.ifCond .ge 8, 3) := by decide +kernel
theorem dX11_clear_62 : decode cX11_clear 62 = .ok (.iload 5, 2) := by decide +kernel
theorem dX11_clear_64 : decode cX11_clear 64 = .ok (.goto 5, 3) := by decide +kernel
theorem dX11_clear_67 : decode cX11_clear 67 = .ok (.iload 4, 2) := by decide +kernel
theorem dX11_clear_69 : decode cX11_clear 69 = .ok (.istore 4, 2) := by decide +kernel
theorem dX11_clear_71 : decode cX11_clear 71 = .ok (.iinc 5 1, 3) := by decide +kernel
theorem dX11_clear_74 : decode cX11_clear 74 = .ok (.goto (-49), 3) := by decide +kernel
theorem dX11_clear_77 : decode cX11_clear 77 = .ok (.iload 4, 2) := by decide +kernel
theorem dX11_clear_79 : decode cX11_clear 79 = .ok (.ifCond .lt 92, 3) := by decide +kernel
theorem dX11_clear_82 : decode cX11_clear 82 = .ok (.aload_n 0, 1) := by decide +kernel
theorem dX11_clear_83 : decode cX11_clear 83 = .ok (.getfield 38, 3) := by decide +kernel
theorem dX11_clear_86 : decode cX11_clear 86 = .ok (.iload 4, 2) := by decide +kernel
theorem dX11_clear_88 : decode cX11_clear 88 = .ok (.bipush (-9), 2) := by decide +kernel
theorem dX11_clear_90 : decode cX11_clear 90 = .ok (.iastore, 1) := by decide +kernel
theorem dX11_clear_91 : decode cX11_clear 91 = .ok (.iconst 1, 1) := by decide +kernel
theorem dX11_clear_92 : decode cX11_clear 92 = .ok (.istore_n 2, 1) := by decide +kernel
theorem dX11_clear_93 : decode cX11_clear 93 = .ok (.iconst 0, 1) := by decide +kernel
theorem dX11_clear_94 : decode cX11_clear 94 = .ok (.istore 5, 2) := by decide +kernel
theorem dX11_clear_96 : decode cX11_clear 96 = .ok (.iload 5, 2) := by decide +kernel
theorem dX11_clear_98 : decode cX11_clear 98 = .ok (.bipush 8, 2) := by decide +kernel
theorem dX11_clear_100 : decode cX11_clear 100 = .ok (.if_icmp .ge 71, 3) := by decide +kernel
theorem dX11_clear_103 : decode cX11_clear 103 = .ok (.aload_n 0, 1) := by decide +kernel
theorem dX11_clear_104 : decode cX11_clear 104 = .ok (.getfield 132, 3) := by decide +kernel
theorem dX11_clear_107 : decode cX11_clear 107 = .ok (.iload 5, 2) := by decide +kernel
theorem dX11_clear_109 : decode cX11_clear 109 = .ok (.aload_n 0, 1) := by decide +kernel
theorem dX11_clear_110 : decode cX11_clear 110 = .ok (.getfield 132, 3) := by decide +kernel
theorem dX11_clear_113 : decode cX11_clear 113 = .ok (.iload 5, 2) := by decide +kernel
theorem dX11_clear_115 : decode cX11_clear 115 = .ok (.iaload, 1) := by decide +kernel
theorem dX11_clear_116 : decode cX11_clear 116 = .ok (.iload 4, 2) := by decide +kernel
theorem dX11_clear_118 : decode cX11_clear 118 = .ok (.if_icmp .ne 8, 3) := by decide +kernel
theorem dX11_clear_121 : decode cX11_clear 121 = .ok (.bipush (-9), 2) := by decide +kernel
theorem dX11_clear_123 : decode cX11_clear 123 = .ok (.goto 10, 3) := by decide +kernel
theorem dX11_clear_126 : decode cX11_clear 126 = .ok (.aload_n 0, 1) := by decide +kernel
theorem dX11_clear_127 : decode cX11_clear 127 = .ok (.getfield 132, 3) := by decide +kernel
theorem dX11_clear_130 : decode cX11_clear 130 = .ok (.iload 5, 2) := by decide +kernel
theorem dX11_clear_132 : decode cX11_clear 132 = .ok (.iaload, 1) := by decide +kernel
theorem dX11_clear_133 : decode cX11_clear 133 = .ok (.iastore, 1) := by decide +kernel
theorem dX11_clear_134 : decode cX11_clear 134 = .ok (.aload_n 0, 1) := by decide +kernel
theorem dX11_clear_135 : decode cX11_clear 135 = .ok (.getfield 141, 3) := by decide +kernel
theorem dX11_clear_138 : decode cX11_clear 138 = .ok (.iload 5, 2) := by decide +kernel
theorem dX11_clear_140 : decode cX11_clear 140 = .ok (.aload_n 0, 1) := by decide +kernel
theorem dX11_clear_141 : decode cX11_clear 141 = .ok (.getfield 141, 3) := by decide +kernel
theorem dX11_clear_144 : decode cX11_clear 144 = .ok (.iload 5, 2) := by decide +kernel
theorem dX11_clear_146 : decode cX11_clear 146 = .ok (.iaload, 1) := by decide +kernel
theorem dX11_clear_147 : decode cX11_clear 147 = .ok (.iload 4, 2) := by decide +kernel
theorem dX11_clear_149 : decode cX11_clear 149 = .ok (.if_icmp .ne 8, 3) := by decide +kernel
theorem dX11_clear_152 : decode cX11_clear 152 = .ok (.bipush (-9), 2) := by decide +kernel
theorem dX11_clear_154 : decode cX11_clear 154 = .ok (.goto 10, 3) := by decide +kernel
theorem dX11_clear_157 : decode cX11_clear 157 = .ok (.aload_n 0, 1) := by decide +kernel
theorem dX11_clear_158 : decode cX11_clear 158 = .ok (.getfield 141, 3) := by decide +kernel
theorem dX11_clear_161 : decode cX11_clear 161 = .ok (.iload 5, 2) := by decide +kernel
theorem dX11_clear_163 : decode cX11_clear 163 = .ok (.iaload, 1) := by decide +kernel
theorem dX11_clear_164 : decode cX11_clear 164 = .ok (.iastore, 1) := by decide +kernel
theorem dX11_clear_165 : decode cX11_clear 165 = .ok (.iinc 5 1, 3) := by decide +kernel
theorem dX11_clear_168 : decode cX11_clear 168 = .ok (.goto (-72), 3) := by decide +kernel
theorem dX11_clear_171 : decode cX11_clear 171 = .ok (.iconst 0, 1) := by decide +kernel
theorem dX11_clear_172 : decode cX11_clear 172 = .ok (.istore_n 3, 1) := by decide +kernel
theorem dX11_clear_173 : decode cX11_clear 173 = .ok (.goto (-169), 3) := by decide +kernel
theorem dX11_clear_176 : decode cX11_clear 176 = .ok (.return_, 1) := by decide +kernel
noncomputable def L_X11_clear_25 (x1 : Int32) (x3 : Int32) : Nat → Int32 → Int32 → qM → (Int32 → qM → Option (Unit × qM)) → Option (Unit × qM)
  | 0, _, _, _, _ => none
  | n + 1, x5, x6, u3, e1 => if 6 ≤ x6 then e1 x5 u3 else if x3 = 0 then q_ck (q_in x6 8) (q_jn (fun (x7 : Int32) (u4 : qM) => q_lt (x6 + 1) (fun (x8 : Int32) => L_X11_clear_25 x1 x3 n x7 x8 u4 e1)) (fun j2 => q_jn (fun  (u5 : qM) => j2 x5 u5) (fun j3 => if (u3.1 74 0 (Int32.toNatClampNeg x6)) = 2 then q_ck (q_in x6 8) (q_ck (q_in (u3.1 96 0 (Int32.toNatClampNeg x6)) 8) (if (0 : Int32) ≤ (u3.1 74 0 (Int32.toNatClampNeg (u3.1 96 0 (Int32.toNatClampNeg x6)))) then j3 u3 else j2 x6 u3)) else j3 u3))) else e1 x5 u3
noncomputable def L_X11_clear_96 (x1 : Int32) (x9 : Int32) : Nat → Int32 → qM → (qM → Option (Unit × qM)) → Option (Unit × qM)
  | 0, _, _, _ => none
  | n + 1, x11, u9, e1 => if 8 ≤ x11 then e1 u9 else q_ck (q_in x11 8) (q_jn (fun (x12 : Int32) (u10 : qM) => q_ck (q_in x11 8) (q_lt (q_si u10 105 0 (Int32.toNatClampNeg x11) x12) (fun (u11 : qM) => q_ck (q_in x11 8) (q_jn (fun (x13 : Int32) (u12 : qM) => q_ck (q_in x11 8) (q_lt (q_si u12 108 0 (Int32.toNatClampNeg x11) x13) (fun (u13 : qM) => q_lt (x11 + 1) (fun (x14 : Int32) => L_X11_clear_96 x1 x9 n x14 u13 e1)))) (fun j6 => if (u11.1 108 0 (Int32.toNatClampNeg x11)) = x9 then j6 (-9) u11 else q_ck (q_in x11 8) (j6 (u11.1 108 0 (Int32.toNatClampNeg x11)) u11)))))) (fun j5 => if (u9.1 105 0 (Int32.toNatClampNeg x11)) = x9 then j5 (-9) u9 else q_ck (q_in x11 8) (j5 (u9.1 105 0 (Int32.toNatClampNeg x11)) u9)))
noncomputable def L_X11_clear_4 (x1 : Int32) : Nat → Int32 → Int32 → qM → (qM → Option (Unit × qM)) → Option (Unit × qM)
  | 0, _, _, _, _ => none
  | n + 1, x2, x3, u1, e1 => if x2 = 0 then e1 u1 else q_jn (fun (x4 : Int32) (u2 : qM) => L_X11_clear_25 x1 x3 q_fu x4 0 u2 (fun x9 u6 => q_jn (fun (x10 : Int32) (u7 : qM) => L_X11_clear_4 x1 n x10 0 u7 e1) (fun j4 => if x9 < 0 then j4 0 u6 else q_ck (q_in x9 8) (q_lt (q_si u6 74 0 (Int32.toNatClampNeg x9) (-9)) (fun (u8 : qM) => L_X11_clear_96 x1 x9 q_fu 0 u8 (fun u14 => j4 1 u14)))))) (fun j1 => if x3 = 0 then j1 (-9) u1 else j1 x1 u1)
noncomputable def f_X11_clear (x1 : Int32) (u0 : qM) : Option (Unit × qM) :=
  L_X11_clear_4 x1 q_fu 1 1 u0 (fun u15 => some ((), u15))
set_option maxRecDepth 100000 in
set_option maxHeartbeats 4000000 in
theorem TL_X11_clear_25 (l : Launch) (G : qG) (x1 : Int32) (x3 : Int32)  (e1 : Int32 → qM → Option (Unit × qM)) (he1 : ∀ (y1 : Int32) (v : qM), qAW l G m_X11_clear (q_mq G q_cU) 77 [(0, .ref (q_ad G 11 0)), (1, .int x1), (2, .int 0), (4, .int y1)] [] v (e1 y1 v)) : ∀ (n : Nat) (x5 : Int32) (x6 : Int32) (u3 : qM), qAW l G m_X11_clear (q_mq G q_cU) 25 [(0, .ref (q_ad G 11 0)), (1, .int x1), (2, .int 0), (3, .int x3), (4, .int x5), (5, .int x6)] [] u3 (L_X11_clear_25 x1 x3 n x5 x6 u3 e1) := by
  intro n
  induction n with
  | zero => intros; exact aw_none
  | succ n ih =>
    intro x5 x6 u3
    unfold L_X11_clear_25
    refine aw_iload (i := 5) dX11_clear_25 27 rfl 5 rfl ?_
    refine aw_bipush (x := 6) dX11_clear_27 29 rfl rfl ?_
    refine aw_icmp_ge dX11_clear_29 32 rfl 77 rfl (fun h3 => ?_) (fun h3 => ?_)
    · exact aw_conv [0, 1, 2, 4] rfl (he1 x5 u3)
    · refine aw_iload_n (i := 3) dX11_clear_32 33 rfl rfl 3 rfl ?_
      refine aw_if_ne dX11_clear_33 36 rfl 77 rfl (fun h4 => ?_) (fun h4 => ?_)
      · exact aw_conv [0, 1, 2, 4] rfl (he1 x5 u3)
      · refine aw_aload_n (i := 0) dX11_clear_36 37 rfl rfl 0 rfl ?_
        refine gf_X11_14 dX11_clear_37 40 rfl wd_250 (ok_11 (by decide)) ?_
        refine aw_iload (i := 5) dX11_clear_40 42 rfl 5 rfl ?_
        refine aw_iald dX11_clear_42 43 rfl at_74 (al_74 _) (ok_74 (by decide)) (fun h5 => ?_)
        refine aw_iconst (x := 2) dX11_clear_43 44 rfl rfl ?_
        refine aw_jn (fun k => ∀ (x7 : Int32) (u4 : qM), qAW l G m_X11_clear (q_mq G q_cU) 69 [(0, .ref (q_ad G 11 0)), (1, .int x1), (2, .int 0), (3, .int x3), (5, .int x6)] [.int x7] u4 (k x7 u4)) ?_ ?_
        · intro x7 u4
          refine aw_istore dX11_clear_69 71 rfl [(4, .int x7), (0, .ref (q_ad G 11 0)), (1, .int x1), (2, .int 0), (3, .int x3), (5, .int x6)] (by decide) rfl ?_
          refine aw_iincx (i := 5) dX11_clear_71 74 rfl 5 rfl 1 rfl (fun x8 => [(5, .int x8), (4, .int x7), (0, .ref (q_ad G 11 0)), (1, .int x1), (2, .int 0), (3, .int x3)]) (by decide) (fun _ => rfl) (fun x8 => ?_)
          refine aw_goto dX11_clear_74 25 rfl ?_
          exact aw_conv [2, 3, 4, 5, 1, 0] rfl (ih x7 x8 u4)
        · intro j2 hj2
          refine aw_jn (fun k => ∀  (u5 : qM), qAW l G m_X11_clear (q_mq G q_cU) 67 [(0, .ref (q_ad G 11 0)), (1, .int x1), (2, .int 0), (3, .int x3), (4, .int x5), (5, .int x6)] [] u5 (k u5)) ?_ ?_
          · intro u5
            refine aw_iload (i := 4) dX11_clear_67 69 rfl 4 rfl ?_
            exact aw_conv [0, 1, 2, 3, 5] rfl (hj2 x5 u5)
          · intro j3 hj3
            refine aw_icmp_ne dX11_clear_44 47 rfl 67 rfl (fun h6 => ?_) (fun h6 => ?_)
            · exact hj3 u3
            · refine aw_aload_n (i := 0) dX11_clear_47 48 rfl rfl 0 rfl ?_
              refine gf_X11_14 dX11_clear_48 51 rfl wd_250 (ok_11 (by decide)) ?_
              refine aw_aload_n (i := 0) dX11_clear_51 52 rfl rfl 0 rfl ?_
              refine gf_X11_36 dX11_clear_52 55 rfl wd_253 (ok_11 (by decide)) ?_
              refine aw_iload (i := 5) dX11_clear_55 57 rfl 5 rfl ?_
              refine aw_iald dX11_clear_57 58 rfl at_96 (al_96 _) (ok_96 (by decide)) (fun h7 => ?_)
              refine aw_iald dX11_clear_58 59 rfl at_74 (al_74 _) (ok_74 (by decide)) (fun h8 => ?_)
              refine aw_if_ge dX11_clear_59 62 rfl 67 rfl (fun h9 => ?_) (fun h9 => ?_)
              · exact hj3 u3
              · refine aw_iload (i := 5) dX11_clear_62 64 rfl 5 rfl ?_
                refine aw_goto dX11_clear_64 69 rfl ?_
                exact aw_conv [0, 1, 2, 3, 5] rfl (hj2 x6 u3)
set_option maxRecDepth 100000 in
set_option maxHeartbeats 4000000 in
theorem TL_X11_clear_96 (l : Launch) (G : qG) (x1 : Int32) (x9 : Int32)  (e1 : qM → Option (Unit × qM)) (he1 : ∀  (v : qM), qAW l G m_X11_clear (q_mq G q_cU) 171 [(0, .ref (q_ad G 11 0)), (1, .int x1), (2, .int 1)] [] v (e1 v)) : ∀ (n : Nat) (x11 : Int32) (u9 : qM), qAW l G m_X11_clear (q_mq G q_cU) 96 [(0, .ref (q_ad G 11 0)), (1, .int x1), (2, .int 1), (4, .int x9), (5, .int x11)] [] u9 (L_X11_clear_96 x1 x9 n x11 u9 e1) := by
  intro n
  induction n with
  | zero => intros; exact aw_none
  | succ n ih =>
    intro x11 u9
    unfold L_X11_clear_96
    refine aw_iload (i := 5) dX11_clear_96 98 rfl 4 rfl ?_
    refine aw_bipush (x := 8) dX11_clear_98 100 rfl rfl ?_
    refine aw_icmp_ge dX11_clear_100 103 rfl 171 rfl (fun h12 => ?_) (fun h12 => ?_)
    · exact aw_conv [0, 1, 2] rfl (he1 u9)
    · refine aw_aload_n (i := 0) dX11_clear_103 104 rfl rfl 0 rfl ?_
      refine gf_X11_45 dX11_clear_104 107 rfl wd_254 (ok_11 (by decide)) ?_
      refine aw_iload (i := 5) dX11_clear_107 109 rfl 4 rfl ?_
      refine aw_aload_n (i := 0) dX11_clear_109 110 rfl rfl 0 rfl ?_
      refine gf_X11_45 dX11_clear_110 113 rfl wd_254 (ok_11 (by decide)) ?_
      refine aw_iload (i := 5) dX11_clear_113 115 rfl 4 rfl ?_
      refine aw_iald dX11_clear_115 116 rfl at_105 (al_105 _) (ok_105 (by decide)) (fun h13 => ?_)
      refine aw_iload (i := 4) dX11_clear_116 118 rfl 3 rfl ?_
      refine aw_jn (fun k => ∀ (x12 : Int32) (u10 : qM), qAW l G m_X11_clear (q_mq G q_cU) 133 [(0, .ref (q_ad G 11 0)), (1, .int x1), (2, .int 1), (4, .int x9), (5, .int x11)] [.int x12, .int x11, .ref (q_ad G 105 0)] u10 (k x12 u10)) ?_ ?_
      · intro x12 u10
        refine aw_iast dX11_clear_133 134 rfl at_105 (al_105 _) (ok_105 (by decide)) (fun h15 => ?_)
        refine aw_ltm (fun u11 => ?_)
        refine aw_aload_n (i := 0) dX11_clear_134 135 rfl rfl 0 rfl ?_
        refine gf_X11_48 dX11_clear_135 138 rfl wd_255 (ok_11 (by decide)) ?_
        refine aw_iload (i := 5) dX11_clear_138 140 rfl 4 rfl ?_
        refine aw_aload_n (i := 0) dX11_clear_140 141 rfl rfl 0 rfl ?_
        refine gf_X11_48 dX11_clear_141 144 rfl wd_255 (ok_11 (by decide)) ?_
        refine aw_iload (i := 5) dX11_clear_144 146 rfl 4 rfl ?_
        refine aw_iald dX11_clear_146 147 rfl at_108 (al_108 _) (ok_108 (by decide)) (fun h16 => ?_)
        refine aw_iload (i := 4) dX11_clear_147 149 rfl 3 rfl ?_
        refine aw_jn (fun k => ∀ (x13 : Int32) (u12 : qM), qAW l G m_X11_clear (q_mq G q_cU) 164 [(0, .ref (q_ad G 11 0)), (1, .int x1), (2, .int 1), (4, .int x9), (5, .int x11)] [.int x13, .int x11, .ref (q_ad G 108 0)] u12 (k x13 u12)) ?_ ?_
        · intro x13 u12
          refine aw_iast dX11_clear_164 165 rfl at_108 (al_108 _) (ok_108 (by decide)) (fun h18 => ?_)
          refine aw_ltm (fun u13 => ?_)
          refine aw_iincx (i := 5) dX11_clear_165 168 rfl 4 rfl 1 rfl (fun x14 => [(5, .int x14), (0, .ref (q_ad G 11 0)), (1, .int x1), (2, .int 1), (4, .int x9)]) (by decide) (fun _ => rfl) (fun x14 => ?_)
          refine aw_goto dX11_clear_168 96 rfl ?_
          exact aw_conv [1, 2, 3, 4, 0] rfl (ih x14 u13)
        · intro j6 hj6
          refine aw_icmp_ne dX11_clear_149 152 rfl 157 rfl (fun h17 => ?_) (fun h17 => ?_)
          · refine aw_aload_n (i := 0) dX11_clear_157 158 rfl rfl 0 rfl ?_
            refine gf_X11_48 dX11_clear_158 161 rfl wd_255 (ok_11 (by decide)) ?_
            refine aw_iload (i := 5) dX11_clear_161 163 rfl 4 rfl ?_
            refine aw_iald dX11_clear_163 164 rfl at_108 (al_108 _) (ok_108 (by decide)) (fun h19 => ?_)
            exact hj6 (u11.1 108 0 (Int32.toNatClampNeg x11)) u11
          · refine aw_bipush (x := (-9)) dX11_clear_152 154 rfl rfl ?_
            refine aw_goto dX11_clear_154 164 rfl ?_
            exact hj6 (-9) u11
      · intro j5 hj5
        refine aw_icmp_ne dX11_clear_118 121 rfl 126 rfl (fun h14 => ?_) (fun h14 => ?_)
        · refine aw_aload_n (i := 0) dX11_clear_126 127 rfl rfl 0 rfl ?_
          refine gf_X11_45 dX11_clear_127 130 rfl wd_254 (ok_11 (by decide)) ?_
          refine aw_iload (i := 5) dX11_clear_130 132 rfl 4 rfl ?_
          refine aw_iald dX11_clear_132 133 rfl at_105 (al_105 _) (ok_105 (by decide)) (fun h20 => ?_)
          exact hj5 (u9.1 105 0 (Int32.toNatClampNeg x11)) u9
        · refine aw_bipush (x := (-9)) dX11_clear_121 123 rfl rfl ?_
          refine aw_goto dX11_clear_123 133 rfl ?_
          exact hj5 (-9) u9
set_option maxRecDepth 100000 in
set_option maxHeartbeats 4000000 in
theorem TL_X11_clear_4 (l : Launch) (G : qG) (x1 : Int32)  (e1 : qM → Option (Unit × qM)) (he1 : ∀  (v : qM), qAW l G m_X11_clear (q_mq G q_cU) 176 [] [] v (e1 v)) : ∀ (n : Nat) (x2 : Int32) (x3 : Int32) (u1 : qM), qAW l G m_X11_clear (q_mq G q_cU) 4 [(0, .ref (q_ad G 11 0)), (1, .int x1), (2, .int x2), (3, .int x3)] [] u1 (L_X11_clear_4 x1 n x2 x3 u1 e1) := by
  intro n
  induction n with
  | zero => intros; exact aw_none
  | succ n ih =>
    intro x2 x3 u1
    unfold L_X11_clear_4
    refine aw_iload_n (i := 2) dX11_clear_4 5 rfl rfl 2 rfl ?_
    refine aw_if_eq dX11_clear_5 8 rfl 176 rfl (fun h1 => ?_) (fun h1 => ?_)
    · exact aw_conv [] rfl (he1 u1)
    · refine aw_iconst (x := 0) dX11_clear_8 9 rfl rfl ?_
      refine aw_istore_n dX11_clear_9 10 rfl rfl [(2, .int 0), (0, .ref (q_ad G 11 0)), (1, .int x1), (3, .int x3)] (by decide) rfl ?_
      refine aw_iload_n (i := 3) dX11_clear_10 11 rfl rfl 3 rfl ?_
      refine aw_jn (fun k => ∀ (x4 : Int32) (u2 : qM), qAW l G m_X11_clear (q_mq G q_cU) 20 [(0, .ref (q_ad G 11 0)), (1, .int x1), (2, .int 0), (3, .int x3)] [.int x4] u2 (k x4 u2)) ?_ ?_
      · intro x4 u2
        refine aw_istore dX11_clear_20 22 rfl [(4, .int x4), (0, .ref (q_ad G 11 0)), (1, .int x1), (2, .int 0), (3, .int x3)] (by decide) rfl ?_
        refine aw_iconst (x := 0) dX11_clear_22 23 rfl rfl ?_
        refine aw_istore dX11_clear_23 25 rfl [(5, .int 0), (4, .int x4), (0, .ref (q_ad G 11 0)), (1, .int x1), (2, .int 0), (3, .int x3)] (by decide) rfl ?_
        refine aw_conv [2, 3, 4, 5, 1, 0] rfl (TL_X11_clear_25 l G x1 x3  _ ?_ _ x4 0 u2)
        · intro x9 u6
          refine aw_iload (i := 4) dX11_clear_77 79 rfl 3 rfl ?_
          refine aw_jn (fun k => ∀ (x10 : Int32) (u7 : qM), qAW l G m_X11_clear (q_mq G q_cU) 171 [(0, .ref (q_ad G 11 0)), (1, .int x1), (2, .int x10)] [] u7 (k x10 u7)) ?_ ?_
          · intro x10 u7
            refine aw_iconst (x := 0) dX11_clear_171 172 rfl rfl ?_
            refine aw_istore_n dX11_clear_172 173 rfl rfl [(3, .int 0), (0, .ref (q_ad G 11 0)), (1, .int x1), (2, .int x10)] (by decide) rfl ?_
            refine aw_goto dX11_clear_173 4 rfl ?_
            exact aw_conv [1, 2, 3, 0] rfl (ih x10 0 u7)
          · intro j4 hj4
            refine aw_if_lt dX11_clear_79 82 rfl 171 rfl (fun h10 => ?_) (fun h10 => ?_)
            · exact aw_conv [0, 1, 2] rfl (hj4 0 u6)
            · refine aw_aload_n (i := 0) dX11_clear_82 83 rfl rfl 0 rfl ?_
              refine gf_X11_14 dX11_clear_83 86 rfl wd_250 (ok_11 (by decide)) ?_
              refine aw_iload (i := 4) dX11_clear_86 88 rfl 3 rfl ?_
              refine aw_bipush (x := (-9)) dX11_clear_88 90 rfl rfl ?_
              refine aw_iast dX11_clear_90 91 rfl at_74 (al_74 _) (ok_74 (by decide)) (fun h11 => ?_)
              refine aw_ltm (fun u8 => ?_)
              refine aw_iconst (x := 1) dX11_clear_91 92 rfl rfl ?_
              refine aw_istore_n dX11_clear_92 93 rfl rfl [(2, .int 1), (0, .ref (q_ad G 11 0)), (1, .int x1), (4, .int x9)] (by decide) rfl ?_
              refine aw_iconst (x := 0) dX11_clear_93 94 rfl rfl ?_
              refine aw_istore dX11_clear_94 96 rfl [(5, .int 0), (2, .int 1), (0, .ref (q_ad G 11 0)), (1, .int x1), (4, .int x9)] (by decide) rfl ?_
              refine aw_conv [2, 3, 1, 4, 0] rfl (TL_X11_clear_96 l G x1 x9  _ ?_ _ 0 u8)
              · intro u14
                exact hj4 1 u14
      · intro j1 hj1
        refine aw_if_eq dX11_clear_11 14 rfl 18 rfl (fun h2 => ?_) (fun h2 => ?_)
        · refine aw_bipush (x := (-9)) dX11_clear_18 20 rfl rfl ?_
          exact aw_conv [1, 2, 0, 3] rfl (hj1 (-9) u1)
        · refine aw_iload_n (i := 1) dX11_clear_14 15 rfl rfl 2 rfl ?_
          refine aw_goto dX11_clear_15 20 rfl ?_
          exact aw_conv [1, 2, 0, 3] rfl (hj1 x1 u1)
set_option maxRecDepth 100000 in
set_option maxHeartbeats 4000000 in
theorem k_X11_clear (l : Launch) (G : qG) (x1 : Int32)  (u0 : qM) : qCt l G m_X11_clear q_cU [.ref (q_ad G 11 0), .int x1] u0 (f_X11_clear x1 u0) := by
  refine q_entry pk_X11_clear (Nat.le_of_ble_eq_true rfl) ?_
  show qAW l G m_X11_clear (q_mq G q_cU) 0 [(0, .ref (q_ad G 11 0)), (1, .int x1)] [] u0 (f_X11_clear x1 u0)
  unfold f_X11_clear
  refine aw_iconst (x := 1) dX11_clear_0 1 rfl rfl ?_
  refine aw_istore_n dX11_clear_1 2 rfl rfl [(2, .int 1), (0, .ref (q_ad G 11 0)), (1, .int x1)] (by decide) rfl ?_
  refine aw_iconst (x := 1) dX11_clear_2 3 rfl rfl ?_
  refine aw_istore_n dX11_clear_3 4 rfl rfl [(3, .int 1), (2, .int 1), (0, .ref (q_ad G 11 0)), (1, .int x1)] (by decide) rfl ?_
  refine aw_conv [2, 3, 1, 0] rfl (TL_X11_clear_4 l G x1  _ ?_ _ 1 1 u0)
  · intro u15
    exact aw_vret dX11_clear_176 rfl
theorem dX11_begin_0 : decode cX11_begin 0 = .ok (.aload_n 0, 1) := by decide +kernel
theorem dX11_begin_1 : decode cX11_begin 1 = .ok (.getfield 38, 3) := by decide +kernel
theorem dX11_begin_4 : decode cX11_begin 4 = .ok (.iload_n 1, 1) := by decide +kernel
theorem dX11_begin_5 : decode cX11_begin 5 = .ok (.iload_n 2, 1) := by decide +kernel
theorem dX11_begin_6 : decode cX11_begin 6 = .ok (.iastore, 1) := by decide +kernel
theorem dX11_begin_7 : decode cX11_begin 7 = .ok (.aload_n 0, 1) := by decide +kernel
theorem dX11_begin_8 : decode cX11_begin 8 = .ok (.getfield 41, 3) := by decide +kernel
theorem dX11_begin_11 : decode cX11_begin 11 = .ok (.iload_n 1, 1) := by decide +kernel
theorem dX11_begin_12 : decode cX11_begin 12 = .ok (.iload_n 3, 1) := by decide +kernel
theorem dX11_begin_13 : decode cX11_begin 13 = .ok (.iastore, 1) := by decide +kernel
theorem dX11_begin_14 : decode cX11_begin 14 = .ok (.aload_n 0, 1) := by decide +kernel
theorem dX11_begin_15 : decode cX11_begin 15 = .ok (.getfield 44, 3) := by decide +kernel
theorem dX11_begin_18 : decode cX11_begin 18 = .ok (.iload_n 1, 1) := by decide +kernel
theorem dX11_begin_19 : decode cX11_begin 19 = .ok (.iload 4, 2) := by decide +kernel
theorem dX11_begin_21 : decode cX11_begin 21 = .ok (.iastore, 1) := by decide +kernel
theorem dX11_begin_22 : decode cX11_begin 22 = .ok (.aload_n 0, 1) := by decide +kernel
theorem dX11_begin_23 : decode cX11_begin 23 = .ok (.getfield 47, 3) := by decide +kernel
theorem dX11_begin_26 : decode cX11_begin 26 = .ok (.iload_n 1, 1) := by decide +kernel
theorem dX11_begin_27 : decode cX11_begin 27 = .ok (.iconst 4, 1) := by decide +kernel
theorem dX11_begin_28 : decode cX11_begin 28 = .ok (.iastore, 1) := by decide +kernel
theorem dX11_begin_29 : decode cX11_begin 29 = .ok (.aload_n 0, 1) := by decide +kernel
theorem dX11_begin_30 : decode cX11_begin 30 = .ok (.getfield 50, 3) := by decide +kernel
theorem dX11_begin_33 : decode cX11_begin 33 = .ok (.iload_n 1, 1) := by decide +kernel
theorem dX11_begin_34 : decode cX11_begin 34 = .ok (.bipush 10, 2) := by decide +kernel
theorem dX11_begin_36 : decode cX11_begin 36 = .ok (.iastore, 1) := by decide +kernel
theorem dX11_begin_37 : decode cX11_begin 37 = .ok (.aload_n 0, 1) := by decide +kernel
theorem dX11_begin_38 : decode cX11_begin 38 = .ok (.getfield 53, 3) := by decide +kernel
theorem dX11_begin_41 : decode cX11_begin 41 = .ok (.iload_n 1, 1) := by decide +kernel
theorem dX11_begin_42 : decode cX11_begin 42 = .ok (.iconst 0, 1) := by decide +kernel
theorem dX11_begin_43 : decode cX11_begin 43 = .ok (.iastore, 1) := by decide +kernel
theorem dX11_begin_44 : decode cX11_begin 44 = .ok (.aload_n 0, 1) := by decide +kernel
theorem dX11_begin_45 : decode cX11_begin 45 = .ok (.getfield 56, 3) := by decide +kernel
theorem dX11_begin_48 : decode cX11_begin 48 = .ok (.iload_n 1, 1) := by decide +kernel
theorem dX11_begin_49 : decode cX11_begin 49 = .ok (.iconst 0, 1) := by decide +kernel
theorem dX11_begin_50 : decode cX11_begin 50 = .ok (.iastore, 1) := by decide +kernel
theorem dX11_begin_51 : decode cX11_begin 51 = .ok (.aload_n 0, 1) := by decide +kernel
theorem dX11_begin_52 : decode cX11_begin 52 = .ok (.getfield 59, 3) := by decide +kernel
theorem dX11_begin_55 : decode cX11_begin 55 = .ok (.iload_n 1, 1) := by decide +kernel
theorem dX11_begin_56 : decode cX11_begin 56 = .ok (.iconst 0, 1) := by decide +kernel
theorem dX11_begin_57 : decode cX11_begin 57 = .ok (.iastore, 1) := by decide +kernel
theorem dX11_begin_58 : decode cX11_begin 58 = .ok (.aload_n 0, 1) := by decide +kernel
theorem dX11_begin_59 : decode cX11_begin 59 = .ok (.getfield 62, 3) := by decide +kernel
theorem dX11_begin_62 : decode cX11_begin 62 = .ok (.iload_n 1, 1) := by decide +kernel
theorem dX11_begin_63 : decode cX11_begin 63 = .ok (.iconst 0, 1) := by decide +kernel
theorem dX11_begin_64 : decode cX11_begin 64 = .ok (.iastore, 1) := by decide +kernel
theorem dX11_begin_65 : decode cX11_begin 65 = .ok (.aload_n 0, 1) := by decide +kernel
theorem dX11_begin_66 : decode cX11_begin 66 = .ok (.getfield 65, 3) := by decide +kernel
theorem dX11_begin_69 : decode cX11_begin 69 = .ok (.iload_n 1, 1) := by decide +kernel
theorem dX11_begin_70 : decode cX11_begin 70 = .ok (.iconst 0, 1) := by decide +kernel
theorem dX11_begin_71 : decode cX11_begin 71 = .ok (.iastore, 1) := by decide +kernel
theorem dX11_begin_72 : decode cX11_begin 72 = .ok (.aload_n 0, 1) := by decide +kernel
theorem dX11_begin_73 : decode cX11_begin 73 = .ok (.getfield 68, 3) := by decide +kernel
theorem dX11_begin_76 : decode cX11_begin 76 = .ok (.iload_n 1, 1) := by decide +kernel
theorem dX11_begin_77 : decode cX11_begin 77 = .ok (.bipush (-9), 2) := by decide +kernel
theorem dX11_begin_79 : decode cX11_begin 79 = .ok (.iastore, 1) := by decide +kernel
theorem dX11_begin_80 : decode cX11_begin 80 = .ok (.aload_n 0, 1) := by decide +kernel
theorem dX11_begin_81 : decode cX11_begin 81 = .ok (.getfield 71, 3) := by decide +kernel
theorem dX11_begin_84 : decode cX11_begin 84 = .ok (.iload_n 1, 1) := by decide +kernel
theorem dX11_begin_85 : decode cX11_begin 85 = .ok (.iconst 0, 1) := by decide +kernel
theorem dX11_begin_86 : decode cX11_begin 86 = .ok (.iastore, 1) := by decide +kernel
theorem dX11_begin_87 : decode cX11_begin 87 = .ok (.aload_n 0, 1) := by decide +kernel
theorem dX11_begin_88 : decode cX11_begin 88 = .ok (.getfield 74, 3) := by decide +kernel
theorem dX11_begin_91 : decode cX11_begin 91 = .ok (.iload_n 1, 1) := by decide +kernel
theorem dX11_begin_92 : decode cX11_begin 92 = .ok (.iconst 0, 1) := by decide +kernel
theorem dX11_begin_93 : decode cX11_begin 93 = .ok (.iastore, 1) := by decide +kernel
theorem dX11_begin_94 : decode cX11_begin 94 = .ok (.aload_n 0, 1) := by decide +kernel
theorem dX11_begin_95 : decode cX11_begin 95 = .ok (.getfield 83, 3) := by decide +kernel
theorem dX11_begin_98 : decode cX11_begin 98 = .ok (.iload_n 1, 1) := by decide +kernel
theorem dX11_begin_99 : decode cX11_begin 99 = .ok (.iconst 0, 1) := by decide +kernel
theorem dX11_begin_100 : decode cX11_begin 100 = .ok (.iastore, 1) := by decide +kernel
theorem dX11_begin_101 : decode cX11_begin 101 = .ok (.iconst 0, 1) := by decide +kernel
theorem dX11_begin_102 : decode cX11_begin 102 = .ok (.istore 5, 2) := by decide +kernel
theorem dX11_begin_104 : decode cX11_begin 104 = .ok (.iload 5, 2) := by decide +kernel
theorem dX11_begin_106 : decode cX11_begin 106 = .ok (.bipush 48, 2) := by decide +kernel
theorem dX11_begin_108 : decode cX11_begin 108 = .ok (.if_icmp .ge 96, 3) := by decide +kernel
theorem dX11_begin_111 : decode cX11_begin 111 = .ok (.aload_n 0, 1) := by decide +kernel
theorem dX11_begin_112 : decode cX11_begin 112 = .ok (.getfield 89, 3) := by decide +kernel
theorem dX11_begin_115 : decode cX11_begin 115 = .ok (.bipush 48, 2) := by decide +kernel
theorem dX11_begin_117 : decode cX11_begin 117 = .ok (.iload_n 1, 1) := by decide +kernel
theorem dX11_begin_118 : decode cX11_begin 118 = .ok (.imul, 1) := by decide +kernel
theorem dX11_begin_119 : decode cX11_begin 119 = .ok (.iload 5, 2) := by decide +kernel
theorem dX11_begin_121 : decode cX11_begin 121 = .ok (.iadd, 1) := by decide +kernel
theorem dX11_begin_122 : decode cX11_begin 122 = .ok (.iconst 0, 1) := by decide +kernel
theorem dX11_begin_123 : decode cX11_begin 123 = .ok (.iastore, 1) := by decide +kernel
theorem dX11_begin_124 : decode cX11_begin 124 = .ok (.aload_n 0, 1) := by decide +kernel
theorem dX11_begin_125 : decode cX11_begin 125 = .ok (.getfield 92, 3) := by decide +kernel
theorem dX11_begin_128 : decode cX11_begin 128 = .ok (.bipush 48, 2) := by decide +kernel
theorem dX11_begin_130 : decode cX11_begin 130 = .ok (.iload_n 1, 1) := by decide +kernel
theorem dX11_begin_131 : decode cX11_begin 131 = .ok (.imul, 1) := by decide +kernel
theorem dX11_begin_132 : decode cX11_begin 132 = .ok (.iload 5, 2) := by decide +kernel
theorem dX11_begin_134 : decode cX11_begin 134 = .ok (.iadd, 1) := by decide +kernel
theorem dX11_begin_135 : decode cX11_begin 135 = .ok (.iconst 0, 1) := by decide +kernel
theorem dX11_begin_136 : decode cX11_begin 136 = .ok (.iastore, 1) := by decide +kernel
theorem dX11_begin_137 : decode cX11_begin 137 = .ok (.aload_n 0, 1) := by decide +kernel
theorem dX11_begin_138 : decode cX11_begin 138 = .ok (.getfield 114, 3) := by decide +kernel
theorem dX11_begin_141 : decode cX11_begin 141 = .ok (.bipush 48, 2) := by decide +kernel
theorem dX11_begin_143 : decode cX11_begin 143 = .ok (.iload_n 1, 1) := by decide +kernel
theorem dX11_begin_144 : decode cX11_begin 144 = .ok (.imul, 1) := by decide +kernel
theorem dX11_begin_145 : decode cX11_begin 145 = .ok (.iload 5, 2) := by decide +kernel
theorem dX11_begin_147 : decode cX11_begin 147 = .ok (.iadd, 1) := by decide +kernel
theorem dX11_begin_148 : decode cX11_begin 148 = .ok (.iconst 0, 1) := by decide +kernel
theorem dX11_begin_149 : decode cX11_begin 149 = .ok (.iastore, 1) := by decide +kernel
theorem dX11_begin_150 : decode cX11_begin 150 = .ok (.aload_n 0, 1) := by decide +kernel
theorem dX11_begin_151 : decode cX11_begin 151 = .ok (.getfield 117, 3) := by decide +kernel
theorem dX11_begin_154 : decode cX11_begin 154 = .ok (.bipush 48, 2) := by decide +kernel
theorem dX11_begin_156 : decode cX11_begin 156 = .ok (.iload_n 1, 1) := by decide +kernel
theorem dX11_begin_157 : decode cX11_begin 157 = .ok (.imul, 1) := by decide +kernel
theorem dX11_begin_158 : decode cX11_begin 158 = .ok (.iload 5, 2) := by decide +kernel
theorem dX11_begin_160 : decode cX11_begin 160 = .ok (.iadd, 1) := by decide +kernel
theorem dX11_begin_161 : decode cX11_begin 161 = .ok (.iconst 0, 1) := by decide +kernel
theorem dX11_begin_162 : decode cX11_begin 162 = .ok (.iastore, 1) := by decide +kernel
theorem dX11_begin_163 : decode cX11_begin 163 = .ok (.iconst 0, 1) := by decide +kernel
theorem dX11_begin_164 : decode cX11_begin 164 = .ok (.istore 6, 2) := by decide +kernel
theorem dX11_begin_166 : decode cX11_begin 166 = .ok (.iload 6, 2) := by decide +kernel
theorem dX11_begin_168 : decode cX11_begin 168 = .ok (.iconst 3, 1) := by decide +kernel
theorem dX11_begin_169 : decode cX11_begin 169 = .ok (.if_icmp .ge 29, 3) := by decide +kernel
theorem dX11_begin_172 : decode cX11_begin 172 = .ok (.aload_n 0, 1) := by decide +kernel
theorem dX11_begin_173 : decode cX11_begin 173 = .ok (.getfield 95, 3) := by decide +kernel
theorem dX11_begin_176 : decode cX11_begin 176 = .ok (.sipush 144, 3) := by decide +kernel
theorem dX11_begin_179 : decode cX11_begin 179 = .ok (.iload_n 1, 1) := by decide +kernel
theorem dX11_begin_180 : decode cX11_begin 180 = .ok (.imul, 1) := by decide +kernel
theorem dX11_begin_181 : decode cX11_begin 181 = .ok (.bipush 48, 2) := by decide +kernel
theorem dX11_begin_183 : decode cX11_begin 183 = .ok (.iload 6, 2) := by decide +kernel
theorem dX11_begin_185 : decode cX11_begin 185 = .ok (.imul, 1) := by decide +kernel
theorem dX11_begin_186 : decode cX11_begin 186 = .ok (.iadd, 1) := by decide +kernel
theorem dX11_begin_187 : decode cX11_begin 187 = .ok (.iload 5, 2) := by decide +kernel
theorem dX11_begin_189 : decode cX11_begin 189 = .ok (.iadd, 1) := by decide +kernel
theorem dX11_begin_190 : decode cX11_begin 190 = .ok (.iconst 0, 1) := by decide +kernel
theorem dX11_begin_191 : decode cX11_begin 191 = .ok (.iastore, 1) := by decide +kernel
theorem dX11_begin_192 : decode cX11_begin 192 = .ok (.iinc 6 1, 3) := by decide +kernel
theorem dX11_begin_195 : decode cX11_begin 195 = .ok (.goto (-29), 3) := by decide +kernel
theorem dX11_begin_198 : decode cX11_begin 198 = .ok (.iinc 5 1, 3) := by decide +kernel
theorem dX11_begin_201 : decode cX11_begin 201 = .ok (.goto (-97), 3) := by decide +kernel
theorem dX11_begin_204 : decode cX11_begin 204 = .ok (.iconst 0, 1) := by decide +kernel
theorem dX11_begin_205 : decode cX11_begin 205 = .ok (.istore 5, 2) := by decide +kernel
theorem dX11_begin_207 : decode cX11_begin 207 = .ok (.iload 5, 2) := by decide +kernel
theorem dX11_begin_209 : decode cX11_begin 209 = .ok (.bipush 96, 2) := by decide +kernel
theorem dX11_begin_211 : decode cX11_begin 211 = .ok (.if_icmp .ge 35, 3) := by decide +kernel
theorem dX11_begin_214 : decode cX11_begin 214 = .ok (.aload_n 0, 1) := by decide +kernel
theorem dX11_begin_215 : decode cX11_begin 215 = .ok (.getfield 98, 3) := by decide +kernel
theorem dX11_begin_218 : decode cX11_begin 218 = .ok (.bipush 96, 2) := by decide +kernel
theorem dX11_begin_220 : decode cX11_begin 220 = .ok (.iload_n 1, 1) := by decide +kernel
theorem dX11_begin_221 : decode cX11_begin 221 = .ok (.imul, 1) := by decide +kernel
theorem dX11_begin_222 : decode cX11_begin 222 = .ok (.iload 5, 2) := by decide +kernel
theorem dX11_begin_224 : decode cX11_begin 224 = .ok (.iadd, 1) := by decide +kernel
theorem dX11_begin_225 : decode cX11_begin 225 = .ok (.iconst 0, 1) := by decide +kernel
theorem dX11_begin_226 : decode cX11_begin 226 = .ok (.iastore, 1) := by decide +kernel
theorem dX11_begin_227 : decode cX11_begin 227 = .ok (.aload_n 0, 1) := by decide +kernel
theorem dX11_begin_228 : decode cX11_begin 228 = .ok (.getfield 101, 3) := by decide +kernel
theorem dX11_begin_231 : decode cX11_begin 231 = .ok (.bipush 96, 2) := by decide +kernel
theorem dX11_begin_233 : decode cX11_begin 233 = .ok (.iload_n 1, 1) := by decide +kernel
theorem dX11_begin_234 : decode cX11_begin 234 = .ok (.imul, 1) := by decide +kernel
theorem dX11_begin_235 : decode cX11_begin 235 = .ok (.iload 5, 2) := by decide +kernel
theorem dX11_begin_237 : decode cX11_begin 237 = .ok (.iadd, 1) := by decide +kernel
theorem dX11_begin_238 : decode cX11_begin 238 = .ok (.iconst 0, 1) := by decide +kernel
theorem dX11_begin_239 : decode cX11_begin 239 = .ok (.bastore, 1) := by decide +kernel
theorem dX11_begin_240 : decode cX11_begin 240 = .ok (.iinc 5 1, 3) := by decide +kernel
theorem dX11_begin_243 : decode cX11_begin 243 = .ok (.goto (-36), 3) := by decide +kernel
theorem dX11_begin_246 : decode cX11_begin 246 = .ok (.return_, 1) := by decide +kernel
noncomputable def L_X11_begin_166 (x1 : Int32) (x5 : Int32) : Nat → Int32 → qM → (qM → Option (Unit × qM)) → Option (Unit × qM)
  | 0, _, _, _ => none
  | n + 1, x6, u20, e1 => if 3 ≤ x6 then e1 u20 else q_ck (q_in (((144 * x1) + (48 * x6)) + x5) 1152) (q_lt (q_si u20 93 0 (Int32.toNatClampNeg (((144 * x1) + (48 * x6)) + x5)) 0) (fun (u21 : qM) => q_lt (x6 + 1) (fun (x7 : Int32) => L_X11_begin_166 x1 x5 n x7 u21 e1)))
noncomputable def L_X11_begin_104 (x1 : Int32) : Nat → Int32 → qM → (qM → Option (Unit × qM)) → Option (Unit × qM)
  | 0, _, _, _ => none
  | n + 1, x5, u15, e1 => if 48 ≤ x5 then e1 u15 else q_ck (q_in ((48 * x1) + x5) 384) (q_lt (q_si u15 91 0 (Int32.toNatClampNeg ((48 * x1) + x5)) 0) (fun (u16 : qM) => q_ck (q_in ((48 * x1) + x5) 384) (q_lt (q_si u16 92 0 (Int32.toNatClampNeg ((48 * x1) + x5)) 0) (fun (u17 : qM) => q_ck (q_in ((48 * x1) + x5) 384) (q_lt (q_si u17 99 0 (Int32.toNatClampNeg ((48 * x1) + x5)) 0) (fun (u18 : qM) => q_ck (q_in ((48 * x1) + x5) 384) (q_lt (q_si u18 100 0 (Int32.toNatClampNeg ((48 * x1) + x5)) 0) (fun (u19 : qM) => L_X11_begin_166 x1 x5 q_fu 0 u19 (fun u22 => q_lt (x5 + 1) (fun (x8 : Int32) => L_X11_begin_104 x1 n x8 u22 e1))))))))))
noncomputable def L_X11_begin_207 (x1 : Int32) : Nat → Int32 → qM → (qM → Option (Unit × qM)) → Option (Unit × qM)
  | 0, _, _, _ => none
  | n + 1, x9, u24, e1 => if 96 ≤ x9 then e1 u24 else q_ck (q_in ((96 * x1) + x9) 768) (q_lt (q_si u24 94 0 (Int32.toNatClampNeg ((96 * x1) + x9)) 0) (fun (u25 : qM) => q_ck (q_in ((96 * x1) + x9) 768) (q_lt (q_si u25 95 0 (Int32.toNatClampNeg ((96 * x1) + x9)) (vp_nar .boolean 0)) (fun (u26 : qM) => q_lt (x9 + 1) (fun (x10 : Int32) => L_X11_begin_207 x1 n x10 u26 e1)))))
noncomputable def f_X11_begin (x1 : Int32) (x2 : Int32) (x3 : Int32) (x4 : Int32) (u0 : qM) : Option (Unit × qM) :=
  q_ck (q_in x1 8) (q_lt (q_si u0 74 0 (Int32.toNatClampNeg x1) x2) (fun (u1 : qM) => q_ck (q_in x1 8) (q_lt (q_si u1 75 0 (Int32.toNatClampNeg x1) x3) (fun (u2 : qM) => q_ck (q_in x1 8) (q_lt (q_si u2 76 0 (Int32.toNatClampNeg x1) x4) (fun (u3 : qM) => q_ck (q_in x1 8) (q_lt (q_si u3 77 0 (Int32.toNatClampNeg x1) 4) (fun (u4 : qM) => q_ck (q_in x1 8) (q_lt (q_si u4 78 0 (Int32.toNatClampNeg x1) 10) (fun (u5 : qM) => q_ck (q_in x1 8) (q_lt (q_si u5 79 0 (Int32.toNatClampNeg x1) 0) (fun (u6 : qM) => q_ck (q_in x1 8) (q_lt (q_si u6 80 0 (Int32.toNatClampNeg x1) 0) (fun (u7 : qM) => q_ck (q_in x1 8) (q_lt (q_si u7 81 0 (Int32.toNatClampNeg x1) 0) (fun (u8 : qM) => q_ck (q_in x1 8) (q_lt (q_si u8 82 0 (Int32.toNatClampNeg x1) 0) (fun (u9 : qM) => q_ck (q_in x1 8) (q_lt (q_si u9 83 0 (Int32.toNatClampNeg x1) 0) (fun (u10 : qM) => q_ck (q_in x1 8) (q_lt (q_si u10 84 0 (Int32.toNatClampNeg x1) (-9)) (fun (u11 : qM) => q_ck (q_in x1 8) (q_lt (q_si u11 85 0 (Int32.toNatClampNeg x1) 0) (fun (u12 : qM) => q_ck (q_in x1 8) (q_lt (q_si u12 86 0 (Int32.toNatClampNeg x1) 0) (fun (u13 : qM) => q_ck (q_in x1 8) (q_lt (q_si u13 89 0 (Int32.toNatClampNeg x1) 0) (fun (u14 : qM) => L_X11_begin_104 x1 q_fu 0 u14 (fun u23 => L_X11_begin_207 x1 q_fu 0 u23 (fun u27 => some ((), u27)))))))))))))))))))))))))))))))
set_option maxRecDepth 100000 in
set_option maxHeartbeats 4000000 in
theorem TL_X11_begin_166 (l : Launch) (G : qG) (x1 : Int32) (x5 : Int32)  (e1 : qM → Option (Unit × qM)) (he1 : ∀  (v : qM), qAW l G m_X11_begin (q_mq G q_cU) 198 [(0, .ref (q_ad G 11 0)), (1, .int x1), (5, .int x5)] [] v (e1 v)) : ∀ (n : Nat) (x6 : Int32) (u20 : qM), qAW l G m_X11_begin (q_mq G q_cU) 166 [(0, .ref (q_ad G 11 0)), (1, .int x1), (5, .int x5), (6, .int x6)] [] u20 (L_X11_begin_166 x1 x5 n x6 u20 e1) := by
  intro n
  induction n with
  | zero => intros; exact aw_none
  | succ n ih =>
    intro x6 u20
    unfold L_X11_begin_166
    refine aw_iload (i := 6) dX11_begin_166 168 rfl 3 rfl ?_
    refine aw_iconst (x := 3) dX11_begin_168 169 rfl rfl ?_
    refine aw_icmp_ge dX11_begin_169 172 rfl 198 rfl (fun h20 => ?_) (fun h20 => ?_)
    · exact aw_conv [0, 1, 2] rfl (he1 u20)
    · refine aw_aload_n (i := 0) dX11_begin_172 173 rfl rfl 0 rfl ?_
      refine gf_X11_33 dX11_begin_173 176 rfl wd_269 (ok_11 (by decide)) ?_
      refine aw_sipush (x := 144) dX11_begin_176 179 rfl rfl ?_
      refine aw_iload_n (i := 1) dX11_begin_179 180 rfl rfl 1 rfl ?_
      refine aw_imul dX11_begin_180 181 rfl ?_
      refine aw_bipush (x := 48) dX11_begin_181 183 rfl rfl ?_
      refine aw_iload (i := 6) dX11_begin_183 185 rfl 3 rfl ?_
      refine aw_imul dX11_begin_185 186 rfl ?_
      refine aw_iadd dX11_begin_186 187 rfl ?_
      refine aw_iload (i := 5) dX11_begin_187 189 rfl 2 rfl ?_
      refine aw_iadd dX11_begin_189 190 rfl ?_
      refine aw_iconst (x := 0) dX11_begin_190 191 rfl rfl ?_
      refine aw_iast dX11_begin_191 192 rfl at_93 (al_93 _) (ok_93 (by decide)) (fun h21 => ?_)
      refine aw_ltm (fun u21 => ?_)
      refine aw_iincx (i := 6) dX11_begin_192 195 rfl 3 rfl 1 rfl (fun x7 => [(6, .int x7), (0, .ref (q_ad G 11 0)), (1, .int x1), (5, .int x5)]) (by decide) (fun _ => rfl) (fun x7 => ?_)
      refine aw_goto dX11_begin_195 166 rfl ?_
      exact aw_conv [1, 2, 3, 0] rfl (ih x7 u21)
set_option maxRecDepth 100000 in
set_option maxHeartbeats 4000000 in
theorem TL_X11_begin_104 (l : Launch) (G : qG) (x1 : Int32)  (e1 : qM → Option (Unit × qM)) (he1 : ∀  (v : qM), qAW l G m_X11_begin (q_mq G q_cU) 204 [(0, .ref (q_ad G 11 0)), (1, .int x1)] [] v (e1 v)) : ∀ (n : Nat) (x5 : Int32) (u15 : qM), qAW l G m_X11_begin (q_mq G q_cU) 104 [(0, .ref (q_ad G 11 0)), (1, .int x1), (5, .int x5)] [] u15 (L_X11_begin_104 x1 n x5 u15 e1) := by
  intro n
  induction n with
  | zero => intros; exact aw_none
  | succ n ih =>
    intro x5 u15
    unfold L_X11_begin_104
    refine aw_iload (i := 5) dX11_begin_104 106 rfl 2 rfl ?_
    refine aw_bipush (x := 48) dX11_begin_106 108 rfl rfl ?_
    refine aw_icmp_ge dX11_begin_108 111 rfl 204 rfl (fun h15 => ?_) (fun h15 => ?_)
    · exact aw_conv [0, 1] rfl (he1 u15)
    · refine aw_aload_n (i := 0) dX11_begin_111 112 rfl rfl 0 rfl ?_
      refine gf_X11_31 dX11_begin_112 115 rfl wd_248 (ok_11 (by decide)) ?_
      refine aw_bipush (x := 48) dX11_begin_115 117 rfl rfl ?_
      refine aw_iload_n (i := 1) dX11_begin_117 118 rfl rfl 1 rfl ?_
      refine aw_imul dX11_begin_118 119 rfl ?_
      refine aw_iload (i := 5) dX11_begin_119 121 rfl 2 rfl ?_
      refine aw_iadd dX11_begin_121 122 rfl ?_
      refine aw_iconst (x := 0) dX11_begin_122 123 rfl rfl ?_
      refine aw_iast dX11_begin_123 124 rfl at_91 (al_91 _) (ok_91 (by decide)) (fun h16 => ?_)
      refine aw_ltm (fun u16 => ?_)
      refine aw_aload_n (i := 0) dX11_begin_124 125 rfl rfl 0 rfl ?_
      refine gf_X11_32 dX11_begin_125 128 rfl wd_249 (ok_11 (by decide)) ?_
      refine aw_bipush (x := 48) dX11_begin_128 130 rfl rfl ?_
      refine aw_iload_n (i := 1) dX11_begin_130 131 rfl rfl 1 rfl ?_
      refine aw_imul dX11_begin_131 132 rfl ?_
      refine aw_iload (i := 5) dX11_begin_132 134 rfl 2 rfl ?_
      refine aw_iadd dX11_begin_134 135 rfl ?_
      refine aw_iconst (x := 0) dX11_begin_135 136 rfl rfl ?_
      refine aw_iast dX11_begin_136 137 rfl at_92 (al_92 _) (ok_92 (by decide)) (fun h17 => ?_)
      refine aw_ltm (fun u17 => ?_)
      refine aw_aload_n (i := 0) dX11_begin_137 138 rfl rfl 0 rfl ?_
      refine gf_X11_39 dX11_begin_138 141 rfl wd_267 (ok_11 (by decide)) ?_
      refine aw_bipush (x := 48) dX11_begin_141 143 rfl rfl ?_
      refine aw_iload_n (i := 1) dX11_begin_143 144 rfl rfl 1 rfl ?_
      refine aw_imul dX11_begin_144 145 rfl ?_
      refine aw_iload (i := 5) dX11_begin_145 147 rfl 2 rfl ?_
      refine aw_iadd dX11_begin_147 148 rfl ?_
      refine aw_iconst (x := 0) dX11_begin_148 149 rfl rfl ?_
      refine aw_iast dX11_begin_149 150 rfl at_99 (al_99 _) (ok_99 (by decide)) (fun h18 => ?_)
      refine aw_ltm (fun u18 => ?_)
      refine aw_aload_n (i := 0) dX11_begin_150 151 rfl rfl 0 rfl ?_
      refine gf_X11_40 dX11_begin_151 154 rfl wd_268 (ok_11 (by decide)) ?_
      refine aw_bipush (x := 48) dX11_begin_154 156 rfl rfl ?_
      refine aw_iload_n (i := 1) dX11_begin_156 157 rfl rfl 1 rfl ?_
      refine aw_imul dX11_begin_157 158 rfl ?_
      refine aw_iload (i := 5) dX11_begin_158 160 rfl 2 rfl ?_
      refine aw_iadd dX11_begin_160 161 rfl ?_
      refine aw_iconst (x := 0) dX11_begin_161 162 rfl rfl ?_
      refine aw_iast dX11_begin_162 163 rfl at_100 (al_100 _) (ok_100 (by decide)) (fun h19 => ?_)
      refine aw_ltm (fun u19 => ?_)
      refine aw_iconst (x := 0) dX11_begin_163 164 rfl rfl ?_
      refine aw_istore dX11_begin_164 166 rfl [(6, .int 0), (0, .ref (q_ad G 11 0)), (1, .int x1), (5, .int x5)] (by decide) rfl ?_
      refine aw_conv [1, 2, 3, 0] rfl (TL_X11_begin_166 l G x1 x5  _ ?_ _ 0 u19)
      · intro u22
        refine aw_iincx (i := 5) dX11_begin_198 201 rfl 2 rfl 1 rfl (fun x8 => [(5, .int x8), (0, .ref (q_ad G 11 0)), (1, .int x1)]) (by decide) (fun _ => rfl) (fun x8 => ?_)
        refine aw_goto dX11_begin_201 104 rfl ?_
        exact aw_conv [1, 2, 0] rfl (ih x8 u22)
set_option maxRecDepth 100000 in
set_option maxHeartbeats 4000000 in
theorem TL_X11_begin_207 (l : Launch) (G : qG) (x1 : Int32)  (e1 : qM → Option (Unit × qM)) (he1 : ∀  (v : qM), qAW l G m_X11_begin (q_mq G q_cU) 246 [] [] v (e1 v)) : ∀ (n : Nat) (x9 : Int32) (u24 : qM), qAW l G m_X11_begin (q_mq G q_cU) 207 [(0, .ref (q_ad G 11 0)), (1, .int x1), (5, .int x9)] [] u24 (L_X11_begin_207 x1 n x9 u24 e1) := by
  intro n
  induction n with
  | zero => intros; exact aw_none
  | succ n ih =>
    intro x9 u24
    unfold L_X11_begin_207
    refine aw_iload (i := 5) dX11_begin_207 209 rfl 2 rfl ?_
    refine aw_bipush (x := 96) dX11_begin_209 211 rfl rfl ?_
    refine aw_icmp_ge dX11_begin_211 214 rfl 246 rfl (fun h22 => ?_) (fun h22 => ?_)
    · exact aw_conv [] rfl (he1 u24)
    · refine aw_aload_n (i := 0) dX11_begin_214 215 rfl rfl 0 rfl ?_
      refine gf_X11_34 dX11_begin_215 218 rfl wd_270 (ok_11 (by decide)) ?_
      refine aw_bipush (x := 96) dX11_begin_218 220 rfl rfl ?_
      refine aw_iload_n (i := 1) dX11_begin_220 221 rfl rfl 1 rfl ?_
      refine aw_imul dX11_begin_221 222 rfl ?_
      refine aw_iload (i := 5) dX11_begin_222 224 rfl 2 rfl ?_
      refine aw_iadd dX11_begin_224 225 rfl ?_
      refine aw_iconst (x := 0) dX11_begin_225 226 rfl rfl ?_
      refine aw_iast dX11_begin_226 227 rfl at_94 (al_94 _) (ok_94 (by decide)) (fun h23 => ?_)
      refine aw_ltm (fun u25 => ?_)
      refine aw_aload_n (i := 0) dX11_begin_227 228 rfl rfl 0 rfl ?_
      refine gf_X11_35 dX11_begin_228 231 rfl wd_271 (ok_11 (by decide)) ?_
      refine aw_bipush (x := 96) dX11_begin_231 233 rfl rfl ?_
      refine aw_iload_n (i := 1) dX11_begin_233 234 rfl rfl 1 rfl ?_
      refine aw_imul dX11_begin_234 235 rfl ?_
      refine aw_iload (i := 5) dX11_begin_235 237 rfl 2 rfl ?_
      refine aw_iadd dX11_begin_237 238 rfl ?_
      refine aw_iconst (x := 0) dX11_begin_238 239 rfl rfl ?_
      refine aw_zast dX11_begin_239 240 rfl at_95 (al_95 _) (ok_95 (by decide)) (fun h24 => ?_)
      refine aw_ltm (fun u26 => ?_)
      refine aw_iincx (i := 5) dX11_begin_240 243 rfl 2 rfl 1 rfl (fun x10 => [(5, .int x10), (0, .ref (q_ad G 11 0)), (1, .int x1)]) (by decide) (fun _ => rfl) (fun x10 => ?_)
      refine aw_goto dX11_begin_243 207 rfl ?_
      exact aw_conv [1, 2, 0] rfl (ih x10 u26)
set_option maxRecDepth 100000 in
set_option maxHeartbeats 4000000 in
theorem k_X11_begin (l : Launch) (G : qG) (x1 : Int32) (x2 : Int32) (x3 : Int32) (x4 : Int32)  (u0 : qM) : qCt l G m_X11_begin q_cU [.ref (q_ad G 11 0), .int x1, .int x2, .int x3, .int x4] u0 (f_X11_begin x1 x2 x3 x4 u0) := by
  refine q_entry pk_X11_begin (Nat.le_of_ble_eq_true rfl) ?_
  show qAW l G m_X11_begin (q_mq G q_cU) 0 [(0, .ref (q_ad G 11 0)), (1, .int x1), (2, .int x2), (3, .int x3), (4, .int x4)] [] u0 (f_X11_begin x1 x2 x3 x4 u0)
  unfold f_X11_begin
  refine aw_aload_n (i := 0) dX11_begin_0 1 rfl rfl 0 rfl ?_
  refine gf_X11_14 dX11_begin_1 4 rfl wd_250 (ok_11 (by decide)) ?_
  refine aw_iload_n (i := 1) dX11_begin_4 5 rfl rfl 1 rfl ?_
  refine aw_iload_n (i := 2) dX11_begin_5 6 rfl rfl 2 rfl ?_
  refine aw_iast dX11_begin_6 7 rfl at_74 (al_74 _) (ok_74 (by decide)) (fun h1 => ?_)
  refine aw_ltm (fun u1 => ?_)
  refine aw_aload_n (i := 0) dX11_begin_7 8 rfl rfl 0 rfl ?_
  refine gf_X11_15 dX11_begin_8 11 rfl wd_246 (ok_11 (by decide)) ?_
  refine aw_iload_n (i := 1) dX11_begin_11 12 rfl rfl 1 rfl ?_
  refine aw_iload_n (i := 3) dX11_begin_12 13 rfl rfl 3 rfl ?_
  refine aw_iast dX11_begin_13 14 rfl at_75 (al_75 _) (ok_75 (by decide)) (fun h2 => ?_)
  refine aw_ltm (fun u2 => ?_)
  refine aw_aload_n (i := 0) dX11_begin_14 15 rfl rfl 0 rfl ?_
  refine gf_X11_16 dX11_begin_15 18 rfl wd_247 (ok_11 (by decide)) ?_
  refine aw_iload_n (i := 1) dX11_begin_18 19 rfl rfl 1 rfl ?_
  refine aw_iload (i := 4) dX11_begin_19 21 rfl 4 rfl ?_
  refine aw_iast dX11_begin_21 22 rfl at_76 (al_76 _) (ok_76 (by decide)) (fun h3 => ?_)
  refine aw_ltm (fun u3 => ?_)
  refine aw_aload_n (i := 0) dX11_begin_22 23 rfl rfl 0 rfl ?_
  refine gf_X11_17 dX11_begin_23 26 rfl wd_256 (ok_11 (by decide)) ?_
  refine aw_iload_n (i := 1) dX11_begin_26 27 rfl rfl 1 rfl ?_
  refine aw_iconst (x := 4) dX11_begin_27 28 rfl rfl ?_
  refine aw_iast dX11_begin_28 29 rfl at_77 (al_77 _) (ok_77 (by decide)) (fun h4 => ?_)
  refine aw_ltm (fun u4 => ?_)
  refine aw_aload_n (i := 0) dX11_begin_29 30 rfl rfl 0 rfl ?_
  refine gf_X11_18 dX11_begin_30 33 rfl wd_257 (ok_11 (by decide)) ?_
  refine aw_iload_n (i := 1) dX11_begin_33 34 rfl rfl 1 rfl ?_
  refine aw_bipush (x := 10) dX11_begin_34 36 rfl rfl ?_
  refine aw_iast dX11_begin_36 37 rfl at_78 (al_78 _) (ok_78 (by decide)) (fun h5 => ?_)
  refine aw_ltm (fun u5 => ?_)
  refine aw_aload_n (i := 0) dX11_begin_37 38 rfl rfl 0 rfl ?_
  refine gf_X11_19 dX11_begin_38 41 rfl wd_258 (ok_11 (by decide)) ?_
  refine aw_iload_n (i := 1) dX11_begin_41 42 rfl rfl 1 rfl ?_
  refine aw_iconst (x := 0) dX11_begin_42 43 rfl rfl ?_
  refine aw_iast dX11_begin_43 44 rfl at_79 (al_79 _) (ok_79 (by decide)) (fun h6 => ?_)
  refine aw_ltm (fun u6 => ?_)
  refine aw_aload_n (i := 0) dX11_begin_44 45 rfl rfl 0 rfl ?_
  refine gf_X11_20 dX11_begin_45 48 rfl wd_259 (ok_11 (by decide)) ?_
  refine aw_iload_n (i := 1) dX11_begin_48 49 rfl rfl 1 rfl ?_
  refine aw_iconst (x := 0) dX11_begin_49 50 rfl rfl ?_
  refine aw_iast dX11_begin_50 51 rfl at_80 (al_80 _) (ok_80 (by decide)) (fun h7 => ?_)
  refine aw_ltm (fun u7 => ?_)
  refine aw_aload_n (i := 0) dX11_begin_51 52 rfl rfl 0 rfl ?_
  refine gf_X11_21 dX11_begin_52 55 rfl wd_260 (ok_11 (by decide)) ?_
  refine aw_iload_n (i := 1) dX11_begin_55 56 rfl rfl 1 rfl ?_
  refine aw_iconst (x := 0) dX11_begin_56 57 rfl rfl ?_
  refine aw_iast dX11_begin_57 58 rfl at_81 (al_81 _) (ok_81 (by decide)) (fun h8 => ?_)
  refine aw_ltm (fun u8 => ?_)
  refine aw_aload_n (i := 0) dX11_begin_58 59 rfl rfl 0 rfl ?_
  refine gf_X11_22 dX11_begin_59 62 rfl wd_261 (ok_11 (by decide)) ?_
  refine aw_iload_n (i := 1) dX11_begin_62 63 rfl rfl 1 rfl ?_
  refine aw_iconst (x := 0) dX11_begin_63 64 rfl rfl ?_
  refine aw_iast dX11_begin_64 65 rfl at_82 (al_82 _) (ok_82 (by decide)) (fun h9 => ?_)
  refine aw_ltm (fun u9 => ?_)
  refine aw_aload_n (i := 0) dX11_begin_65 66 rfl rfl 0 rfl ?_
  refine gf_X11_23 dX11_begin_66 69 rfl wd_262 (ok_11 (by decide)) ?_
  refine aw_iload_n (i := 1) dX11_begin_69 70 rfl rfl 1 rfl ?_
  refine aw_iconst (x := 0) dX11_begin_70 71 rfl rfl ?_
  refine aw_iast dX11_begin_71 72 rfl at_83 (al_83 _) (ok_83 (by decide)) (fun h10 => ?_)
  refine aw_ltm (fun u10 => ?_)
  refine aw_aload_n (i := 0) dX11_begin_72 73 rfl rfl 0 rfl ?_
  refine gf_X11_24 dX11_begin_73 76 rfl wd_263 (ok_11 (by decide)) ?_
  refine aw_iload_n (i := 1) dX11_begin_76 77 rfl rfl 1 rfl ?_
  refine aw_bipush (x := (-9)) dX11_begin_77 79 rfl rfl ?_
  refine aw_iast dX11_begin_79 80 rfl at_84 (al_84 _) (ok_84 (by decide)) (fun h11 => ?_)
  refine aw_ltm (fun u11 => ?_)
  refine aw_aload_n (i := 0) dX11_begin_80 81 rfl rfl 0 rfl ?_
  refine gf_X11_25 dX11_begin_81 84 rfl wd_264 (ok_11 (by decide)) ?_
  refine aw_iload_n (i := 1) dX11_begin_84 85 rfl rfl 1 rfl ?_
  refine aw_iconst (x := 0) dX11_begin_85 86 rfl rfl ?_
  refine aw_iast dX11_begin_86 87 rfl at_85 (al_85 _) (ok_85 (by decide)) (fun h12 => ?_)
  refine aw_ltm (fun u12 => ?_)
  refine aw_aload_n (i := 0) dX11_begin_87 88 rfl rfl 0 rfl ?_
  refine gf_X11_26 dX11_begin_88 91 rfl wd_265 (ok_11 (by decide)) ?_
  refine aw_iload_n (i := 1) dX11_begin_91 92 rfl rfl 1 rfl ?_
  refine aw_iconst (x := 0) dX11_begin_92 93 rfl rfl ?_
  refine aw_iast dX11_begin_93 94 rfl at_86 (al_86 _) (ok_86 (by decide)) (fun h13 => ?_)
  refine aw_ltm (fun u13 => ?_)
  refine aw_aload_n (i := 0) dX11_begin_94 95 rfl rfl 0 rfl ?_
  refine gf_X11_29 dX11_begin_95 98 rfl wd_266 (ok_11 (by decide)) ?_
  refine aw_iload_n (i := 1) dX11_begin_98 99 rfl rfl 1 rfl ?_
  refine aw_iconst (x := 0) dX11_begin_99 100 rfl rfl ?_
  refine aw_iast dX11_begin_100 101 rfl at_89 (al_89 _) (ok_89 (by decide)) (fun h14 => ?_)
  refine aw_ltm (fun u14 => ?_)
  refine aw_iconst (x := 0) dX11_begin_101 102 rfl rfl ?_
  refine aw_istore dX11_begin_102 104 rfl [(5, .int 0), (0, .ref (q_ad G 11 0)), (1, .int x1), (2, .int x2), (3, .int x3), (4, .int x4)] (by decide) rfl ?_
  refine aw_conv [1, 2, 0] rfl (TL_X11_begin_104 l G x1  _ ?_ _ 0 u14)
  · intro u23
    refine aw_iconst (x := 0) dX11_begin_204 205 rfl rfl ?_
    refine aw_istore dX11_begin_205 207 rfl [(5, .int 0), (0, .ref (q_ad G 11 0)), (1, .int x1)] (by decide) rfl ?_
    refine aw_conv [1, 2, 0] rfl (TL_X11_begin_207 l G x1  _ ?_ _ 0 u23)
    · intro u27
      exact aw_vret dX11_begin_246 rfl
theorem dX11_board_0 : decode cX11_board 0 = .ok (.iload_n 1, 1) := by decide +kernel
theorem dX11_board_1 : decode cX11_board 1 = .ok (.invokestatic 186, 3) := by decide +kernel
theorem dX11_board_4 : decode cX11_board 4 = .ok (.ifCond .eq 38, 3) := by decide +kernel
theorem dX11_board_7 : decode cX11_board 7 = .ok (.iload_n 2, 1) := by decide +kernel
theorem dX11_board_8 : decode cX11_board 8 = .ok (.iconst 0, 1) := by decide +kernel
theorem dX11_board_9 : decode cX11_board 9 = .ok (.iconst 3, 1) := by decide +kernel
theorem dX11_board_10 : decode cX11_board 10 = .ok (.invokestatic 182, 3) := by decide +kernel
theorem dX11_board_13 : decode cX11_board 13 = .ok (.ifCond .eq 29, 3) := by decide +kernel
theorem dX11_board_16 : decode cX11_board 16 = .ok (.iload_n 2, 1) := by decide +kernel
theorem dX11_board_17 : decode cX11_board 17 = .ok (.iconst 2, 1) := by decide +kernel
theorem dX11_board_18 : decode cX11_board 18 = .ok (.if_icmp .eq 24, 3) := by decide +kernel
theorem dX11_board_21 : decode cX11_board 21 = .ok (.iload_n 3, 1) := by decide +kernel
theorem dX11_board_22 : decode cX11_board 22 = .ok (.iconst 2, 1) := by decide +kernel
theorem dX11_board_23 : decode cX11_board 23 = .ok (.bipush 8, 2) := by decide +kernel
theorem dX11_board_25 : decode cX11_board 25 = .ok (.invokestatic 182, 3) := by decide +kernel
theorem dX11_board_28 : decode cX11_board 28 = .ok (.ifCond .eq 14, 3) := by decide +kernel
theorem dX11_board_31 : decode cX11_board 31 = .ok (.iload 4, 2) := by decide +kernel
theorem dX11_board_33 : decode cX11_board 33 = .ok (.iconst 1, 1) := by decide +kernel
theorem dX11_board_34 : decode cX11_board 34 = .ok (.bipush 6, 2) := by decide +kernel
theorem dX11_board_36 : decode cX11_board 36 = .ok (.invokestatic 182, 3) := by decide +kernel
theorem dX11_board_39 : decode cX11_board 39 = .ok (.ifCond .ne 5, 3) := by decide +kernel
theorem dX11_board_42 : decode cX11_board 42 = .ok (.iconst (-1), 1) := by decide +kernel
theorem dX11_board_43 : decode cX11_board 43 = .ok (.ireturn, 1) := by decide +kernel
theorem dX11_board_44 : decode cX11_board 44 = .ok (.aload_n 0, 1) := by decide +kernel
theorem dX11_board_45 : decode cX11_board 45 = .ok (.iload_n 1, 1) := by decide +kernel
theorem dX11_board_46 : decode cX11_board 46 = .ok (.invokevirtual 229, 3) := by decide +kernel
theorem dX11_board_49 : decode cX11_board 49 = .ok (.aload_n 0, 1) := by decide +kernel
theorem dX11_board_50 : decode cX11_board 50 = .ok (.iload_n 1, 1) := by decide +kernel
theorem dX11_board_51 : decode cX11_board 51 = .ok (.iload_n 2, 1) := by decide +kernel
theorem dX11_board_52 : decode cX11_board 52 = .ok (.iload_n 3, 1) := by decide +kernel
theorem dX11_board_53 : decode cX11_board 53 = .ok (.iload 4, 2) := by decide +kernel
theorem dX11_board_55 : decode cX11_board 55 = .ok (.invokevirtual 233, 3) := by decide +kernel
theorem dX11_board_58 : decode cX11_board 58 = .ok (.iload_n 3, 1) := by decide +kernel
theorem dX11_board_59 : decode cX11_board 59 = .ok (.iload 4, 2) := by decide +kernel
theorem dX11_board_61 : decode cX11_board 61 = .ok (.imul, 1) := by decide +kernel
theorem dX11_board_62 : decode cX11_board 62 = .ok (.ireturn, 1) := by decide +kernel
noncomputable def f_X11_board (x1 : Int32) (x2 : Int32) (x3 : Int32) (x4 : Int32) (u0 : qM) : Option (Int32 × qM) :=
  q_bd (f_X11_isSix x1 u0) (fun (x5 : Int32) (u1 : qM) => q_jn (fun  (u2 : qM) => some ((-1), u2)) (fun j1 => if x5 = 0 then j1 u1 else q_bd (f_X11_in x2 0 3 u1) (fun (x6 : Int32) (u3 : qM) => if x6 = 0 then j1 u3 else if x2 = 2 then j1 u3 else q_bd (f_X11_in x3 2 8 u3) (fun (x7 : Int32) (u4 : qM) => if x7 = 0 then j1 u4 else q_bd (f_X11_in x4 1 6 u4) (fun (x8 : Int32) (u5 : qM) => if x8 = 0 then j1 u5 else q_bd (f_X11_clear x1 u5) (fun (_z : Unit) (u6 : qM) => q_bd (f_X11_begin x1 x2 x3 x4 u6) (fun (_z : Unit) (u7 : qM) => some (x3 * x4, u7))))))))
set_option maxRecDepth 100000 in
set_option maxHeartbeats 4000000 in
theorem k_X11_board (l : Launch) (G : qG) (x1 : Int32) (x2 : Int32) (x3 : Int32) (x4 : Int32)  (u0 : qM) : qCt l G m_X11_board q_cI [.ref (q_ad G 11 0), .int x1, .int x2, .int x3, .int x4] u0 (f_X11_board x1 x2 x3 x4 u0) := by
  refine q_entry pk_X11_board (Nat.le_of_ble_eq_true rfl) ?_
  show qAW l G m_X11_board (q_mq G q_cI) 0 [(0, .ref (q_ad G 11 0)), (1, .int x1), (2, .int x2), (3, .int x3), (4, .int x4)] [] u0 (f_X11_board x1 x2 x3 x4 u0)
  unfold f_X11_board
  refine aw_iload_n (i := 1) dX11_board_0 1 rfl rfl 1 rfl ?_
  refine aw_callS (M2 := m_X11_isSix) (cv := q_cI) dX11_board_1 4 rfl (k_X11_isSix l G x1  u0) wd_227 wv_X11_isSix pk_X11_isSix rfl ⟨by decide, by decide⟩ ⟨Nat.zero_le _, Nat.zero_le _⟩ rfl (Nat.le_of_ble_eq_true rfl) (fun x5 u1 => ?_)
  show qAW l G m_X11_board (q_mq G q_cI) 4 [(0, .ref (q_ad G 11 0)), (1, .int x1), (2, .int x2), (3, .int x3), (4, .int x4)] [.int x5] u1 _
  refine aw_jn (fun k => ∀  (u2 : qM), qAW l G m_X11_board (q_mq G q_cI) 42 [] [] u2 (k u2)) ?_ ?_
  · intro u2
    refine aw_iconst (x := (-1)) dX11_board_42 43 rfl rfl ?_
    exact aw_iret dX11_board_43 rfl
  · intro j1 hj1
    refine aw_if_eq dX11_board_4 7 rfl 42 rfl (fun h1 => ?_) (fun h1 => ?_)
    · exact aw_conv [] rfl (hj1 u1)
    · refine aw_iload_n (i := 2) dX11_board_7 8 rfl rfl 2 rfl ?_
      refine aw_iconst (x := 0) dX11_board_8 9 rfl rfl ?_
      refine aw_iconst (x := 3) dX11_board_9 10 rfl rfl ?_
      refine aw_callS (M2 := m_X11_in) (cv := q_cI) dX11_board_10 13 rfl (k_X11_in l G x2 0 3  u1) wd_226 wv_X11_in pk_X11_in rfl ⟨by decide, by decide⟩ ⟨Nat.zero_le _, Nat.zero_le _⟩ rfl (Nat.le_of_ble_eq_true rfl) (fun x6 u3 => ?_)
      show qAW l G m_X11_board (q_mq G q_cI) 13 [(0, .ref (q_ad G 11 0)), (1, .int x1), (2, .int x2), (3, .int x3), (4, .int x4)] [.int x6] u3 _
      refine aw_if_eq dX11_board_13 16 rfl 42 rfl (fun h2 => ?_) (fun h2 => ?_)
      · exact aw_conv [] rfl (hj1 u3)
      · refine aw_iload_n (i := 2) dX11_board_16 17 rfl rfl 2 rfl ?_
        refine aw_iconst (x := 2) dX11_board_17 18 rfl rfl ?_
        refine aw_icmp_eq dX11_board_18 21 rfl 42 rfl (fun h3 => ?_) (fun h3 => ?_)
        · exact aw_conv [] rfl (hj1 u3)
        · refine aw_iload_n (i := 3) dX11_board_21 22 rfl rfl 3 rfl ?_
          refine aw_iconst (x := 2) dX11_board_22 23 rfl rfl ?_
          refine aw_bipush (x := 8) dX11_board_23 25 rfl rfl ?_
          refine aw_callS (M2 := m_X11_in) (cv := q_cI) dX11_board_25 28 rfl (k_X11_in l G x3 2 8  u3) wd_226 wv_X11_in pk_X11_in rfl ⟨by decide, by decide⟩ ⟨Nat.zero_le _, Nat.zero_le _⟩ rfl (Nat.le_of_ble_eq_true rfl) (fun x7 u4 => ?_)
          show qAW l G m_X11_board (q_mq G q_cI) 28 [(0, .ref (q_ad G 11 0)), (1, .int x1), (2, .int x2), (3, .int x3), (4, .int x4)] [.int x7] u4 _
          refine aw_if_eq dX11_board_28 31 rfl 42 rfl (fun h4 => ?_) (fun h4 => ?_)
          · exact aw_conv [] rfl (hj1 u4)
          · refine aw_iload (i := 4) dX11_board_31 33 rfl 4 rfl ?_
            refine aw_iconst (x := 1) dX11_board_33 34 rfl rfl ?_
            refine aw_bipush (x := 6) dX11_board_34 36 rfl rfl ?_
            refine aw_callS (M2 := m_X11_in) (cv := q_cI) dX11_board_36 39 rfl (k_X11_in l G x4 1 6  u4) wd_226 wv_X11_in pk_X11_in rfl ⟨by decide, by decide⟩ ⟨Nat.zero_le _, Nat.zero_le _⟩ rfl (Nat.le_of_ble_eq_true rfl) (fun x8 u5 => ?_)
            show qAW l G m_X11_board (q_mq G q_cI) 39 [(0, .ref (q_ad G 11 0)), (1, .int x1), (2, .int x2), (3, .int x3), (4, .int x4)] [.int x8] u5 _
            refine aw_if_ne dX11_board_39 42 rfl 44 rfl (fun h5 => ?_) (fun h5 => ?_)
            · refine aw_aload_n (i := 0) dX11_board_44 45 rfl rfl 0 rfl ?_
              refine aw_iload_n (i := 1) dX11_board_45 46 rfl rfl 1 rfl ?_
              refine aw_callV (M2 := m_X11_clear) (cv := q_cU) dX11_board_46 49 rfl (k_X11_clear l G x1  u5) wd_272 wv_X11_clear pk_X11_clear rfl rfl ⟨by decide, by decide⟩ ⟨Nat.zero_le _, Nat.zero_le _⟩ at_11 (ok_11 (by decide)) rfl rfl rfl (Nat.le_of_ble_eq_true rfl) (fun _z u6 => ?_)
              show qAW l G m_X11_board (q_mq G q_cI) 49 [(0, .ref (q_ad G 11 0)), (1, .int x1), (2, .int x2), (3, .int x3), (4, .int x4)] [] u6 _
              refine aw_aload_n (i := 0) dX11_board_49 50 rfl rfl 0 rfl ?_
              refine aw_iload_n (i := 1) dX11_board_50 51 rfl rfl 1 rfl ?_
              refine aw_iload_n (i := 2) dX11_board_51 52 rfl rfl 2 rfl ?_
              refine aw_iload_n (i := 3) dX11_board_52 53 rfl rfl 3 rfl ?_
              refine aw_iload (i := 4) dX11_board_53 55 rfl 4 rfl ?_
              refine aw_callV (M2 := m_X11_begin) (cv := q_cU) dX11_board_55 58 rfl (k_X11_begin l G x1 x2 x3 x4  u6) wd_273 wv_X11_begin pk_X11_begin rfl rfl ⟨by decide, by decide⟩ ⟨Nat.zero_le _, Nat.zero_le _⟩ at_11 (ok_11 (by decide)) rfl rfl rfl (Nat.le_of_ble_eq_true rfl) (fun _z u7 => ?_)
              show qAW l G m_X11_board (q_mq G q_cI) 58 [(0, .ref (q_ad G 11 0)), (1, .int x1), (2, .int x2), (3, .int x3), (4, .int x4)] [] u7 _
              refine aw_iload_n (i := 3) dX11_board_58 59 rfl rfl 3 rfl ?_
              refine aw_iload (i := 4) dX11_board_59 61 rfl 4 rfl ?_
              refine aw_imul dX11_board_61 62 rfl ?_
              exact aw_iret dX11_board_62 rfl
            · exact aw_conv [] rfl (hj1 u5)
theorem dX11_drop_0 : decode cX11_drop 0 = .ok (.aload_n 0, 1) := by decide +kernel
theorem dX11_drop_1 : decode cX11_drop 1 = .ok (.iload_n 1, 1) := by decide +kernel
theorem dX11_drop_2 : decode cX11_drop 2 = .ok (.invokevirtual 237, 3) := by decide +kernel
theorem dX11_drop_5 : decode cX11_drop 5 = .ok (.istore_n 2, 1) := by decide +kernel
theorem dX11_drop_6 : decode cX11_drop 6 = .ok (.iload_n 2, 1) := by decide +kernel
theorem dX11_drop_7 : decode cX11_drop 7 = .ok (.ifCond .ge 5, 3) := by decide +kernel
theorem dX11_drop_10 : decode cX11_drop 10 = .ok (.iload_n 2, 1) := by decide +kernel
theorem dX11_drop_11 : decode cX11_drop 11 = .ok (.ireturn, 1) := by decide +kernel
theorem dX11_drop_12 : decode cX11_drop 12 = .ok (.aload_n 0, 1) := by decide +kernel
theorem dX11_drop_13 : decode cX11_drop 13 = .ok (.iload_n 1, 1) := by decide +kernel
theorem dX11_drop_14 : decode cX11_drop 14 = .ok (.invokevirtual 229, 3) := by decide +kernel
theorem dX11_drop_17 : decode cX11_drop 17 = .ok (.iconst 1, 1) := by decide +kernel
theorem dX11_drop_18 : decode cX11_drop 18 = .ok (.ireturn, 1) := by decide +kernel
noncomputable def f_X11_drop (x1 : Int32) (u0 : qM) : Option (Int32 × qM) :=
  q_bd (f_X11_askedFor x1 u0) (fun (x2 : Int32) (u1 : qM) => if (0 : Int32) ≤ x2 then q_bd (f_X11_clear x1 u1) (fun (_z : Unit) (u2 : qM) => some (1, u2)) else some (x2, u1))
set_option maxRecDepth 100000 in
set_option maxHeartbeats 4000000 in
theorem k_X11_drop (l : Launch) (G : qG) (x1 : Int32)  (u0 : qM) : qCt l G m_X11_drop q_cI [.ref (q_ad G 11 0), .int x1] u0 (f_X11_drop x1 u0) := by
  refine q_entry pk_X11_drop (Nat.le_of_ble_eq_true rfl) ?_
  show qAW l G m_X11_drop (q_mq G q_cI) 0 [(0, .ref (q_ad G 11 0)), (1, .int x1)] [] u0 (f_X11_drop x1 u0)
  unfold f_X11_drop
  refine aw_aload_n (i := 0) dX11_drop_0 1 rfl rfl 0 rfl ?_
  refine aw_iload_n (i := 1) dX11_drop_1 2 rfl rfl 1 rfl ?_
  refine aw_callV (M2 := m_X11_askedFor) (cv := q_cI) dX11_drop_2 5 rfl (k_X11_askedFor l G x1  u0) wd_274 wv_X11_askedFor pk_X11_askedFor rfl rfl ⟨by decide, by decide⟩ ⟨Nat.zero_le _, Nat.zero_le _⟩ at_11 (ok_11 (by decide)) rfl rfl rfl (Nat.le_of_ble_eq_true rfl) (fun x2 u1 => ?_)
  show qAW l G m_X11_drop (q_mq G q_cI) 5 [(0, .ref (q_ad G 11 0)), (1, .int x1)] [.int x2] u1 _
  refine aw_istore_n dX11_drop_5 6 rfl rfl [(2, .int x2), (0, .ref (q_ad G 11 0)), (1, .int x1)] (by decide) rfl ?_
  refine aw_iload_n (i := 2) dX11_drop_6 7 rfl rfl 0 rfl ?_
  refine aw_if_ge dX11_drop_7 10 rfl 12 rfl (fun h1 => ?_) (fun h1 => ?_)
  · refine aw_aload_n (i := 0) dX11_drop_12 13 rfl rfl 1 rfl ?_
    refine aw_iload_n (i := 1) dX11_drop_13 14 rfl rfl 2 rfl ?_
    refine aw_callV (M2 := m_X11_clear) (cv := q_cU) dX11_drop_14 17 rfl (k_X11_clear l G x1  u1) wd_272 wv_X11_clear pk_X11_clear rfl rfl ⟨by decide, by decide⟩ ⟨Nat.zero_le _, Nat.zero_le _⟩ at_11 (ok_11 (by decide)) rfl rfl rfl (Nat.le_of_ble_eq_true rfl) (fun _z u2 => ?_)
    show qAW l G m_X11_drop (q_mq G q_cI) 17 [(2, .int x2), (0, .ref (q_ad G 11 0)), (1, .int x1)] [] u2 _
    refine aw_iconst (x := 1) dX11_drop_17 18 rfl rfl ?_
    exact aw_iret dX11_drop_18 rfl
  · refine aw_iload_n (i := 2) dX11_drop_10 11 rfl rfl 0 rfl ?_
    exact aw_iret dX11_drop_11 rfl
theorem dX11_askedCell_0 : decode cX11_askedCell 0 = .ok (.aload_n 0, 1) := by decide +kernel
theorem dX11_askedCell_1 : decode cX11_askedCell 1 = .ok (.iload_n 1, 1) := by decide +kernel
theorem dX11_askedCell_2 : decode cX11_askedCell 2 = .ok (.invokevirtual 237, 3) := by decide +kernel
theorem dX11_askedCell_5 : decode cX11_askedCell 5 = .ok (.istore_n 3, 1) := by decide +kernel
theorem dX11_askedCell_6 : decode cX11_askedCell 6 = .ok (.iload_n 3, 1) := by decide +kernel
theorem dX11_askedCell_7 : decode cX11_askedCell 7 = .ok (.ifCond .ge 7, 3) := by decide +kernel
theorem dX11_askedCell_10 : decode cX11_askedCell 10 = .ok (.iload_n 3, 1) := by decide +kernel
theorem dX11_askedCell_11 : decode cX11_askedCell 11 = .ok (.goto 21, 3) := by decide +kernel
theorem dX11_askedCell_14 : decode cX11_askedCell 14 = .ok (.aload_n 0, 1) := by decide +kernel
theorem dX11_askedCell_15 : decode cX11_askedCell 15 = .ok (.iload_n 1, 1) := by decide +kernel
theorem dX11_askedCell_16 : decode cX11_askedCell 16 = .ok (.iload_n 2, 1) := by decide +kernel
theorem dX11_askedCell_17 : decode cX11_askedCell 17 = .ok (.invokevirtual 226, 3) := by decide +kernel
theorem dX11_askedCell_20 : decode cX11_askedCell 20 = .ok (.ifCond .eq 7, 3) := by decide +kernel
theorem dX11_askedCell_23 : decode cX11_askedCell 23 = .ok (.iconst 0, 1) := by decide +kernel
theorem dX11_askedCell_24 : decode cX11_askedCell 24 = .ok (.goto 8, 3) := by decide +kernel
theorem dX11_askedCell_27 : decode cX11_askedCell 27 = .ok (.aload_n 0, 1) := by decide +kernel
theorem dX11_askedCell_28 : decode cX11_askedCell 28 = .ok (.iconst 2, 1) := by decide +kernel
theorem dX11_askedCell_29 : decode cX11_askedCell 29 = .ok (.invokevirtual 190, 3) := by decide +kernel
theorem dX11_askedCell_32 : decode cX11_askedCell 32 = .ok (.ireturn, 1) := by decide +kernel
noncomputable def f_X11_askedCell (x1 : Int32) (x2 : Int32) (u0 : qM) : Option (Int32 × qM) :=
  q_bd (f_X11_askedFor x1 u0) (fun (x3 : Int32) (u1 : qM) => q_jn (fun (x4 : Int32) (u2 : qM) => some (x4, u2)) (fun j1 => if (0 : Int32) ≤ x3 then q_bd (f_X11_isCell x1 x2 u1) (fun (x5 : Int32) (u3 : qM) => if x5 = 0 then q_bd (f_X11_meets 2 u3) (fun (x6 : Int32) (u4 : qM) => j1 x6 u4) else j1 0 u3) else j1 x3 u1))
set_option maxRecDepth 100000 in
set_option maxHeartbeats 4000000 in
theorem k_X11_askedCell (l : Launch) (G : qG) (x1 : Int32) (x2 : Int32)  (u0 : qM) : qCt l G m_X11_askedCell q_cI [.ref (q_ad G 11 0), .int x1, .int x2] u0 (f_X11_askedCell x1 x2 u0) := by
  refine q_entry pk_X11_askedCell (Nat.le_of_ble_eq_true rfl) ?_
  show qAW l G m_X11_askedCell (q_mq G q_cI) 0 [(0, .ref (q_ad G 11 0)), (1, .int x1), (2, .int x2)] [] u0 (f_X11_askedCell x1 x2 u0)
  unfold f_X11_askedCell
  refine aw_aload_n (i := 0) dX11_askedCell_0 1 rfl rfl 0 rfl ?_
  refine aw_iload_n (i := 1) dX11_askedCell_1 2 rfl rfl 1 rfl ?_
  refine aw_callV (M2 := m_X11_askedFor) (cv := q_cI) dX11_askedCell_2 5 rfl (k_X11_askedFor l G x1  u0) wd_274 wv_X11_askedFor pk_X11_askedFor rfl rfl ⟨by decide, by decide⟩ ⟨Nat.zero_le _, Nat.zero_le _⟩ at_11 (ok_11 (by decide)) rfl rfl rfl (Nat.le_of_ble_eq_true rfl) (fun x3 u1 => ?_)
  show qAW l G m_X11_askedCell (q_mq G q_cI) 5 [(0, .ref (q_ad G 11 0)), (1, .int x1), (2, .int x2)] [.int x3] u1 _
  refine aw_istore_n dX11_askedCell_5 6 rfl rfl [(3, .int x3), (0, .ref (q_ad G 11 0)), (1, .int x1), (2, .int x2)] (by decide) rfl ?_
  refine aw_iload_n (i := 3) dX11_askedCell_6 7 rfl rfl 0 rfl ?_
  refine aw_jn (fun k => ∀ (x4 : Int32) (u2 : qM), qAW l G m_X11_askedCell (q_mq G q_cI) 32 [] [.int x4] u2 (k x4 u2)) ?_ ?_
  · intro x4 u2
    exact aw_iret dX11_askedCell_32 rfl
  · intro j1 hj1
    refine aw_if_ge dX11_askedCell_7 10 rfl 14 rfl (fun h1 => ?_) (fun h1 => ?_)
    · refine aw_aload_n (i := 0) dX11_askedCell_14 15 rfl rfl 1 rfl ?_
      refine aw_iload_n (i := 1) dX11_askedCell_15 16 rfl rfl 2 rfl ?_
      refine aw_iload_n (i := 2) dX11_askedCell_16 17 rfl rfl 3 rfl ?_
      refine aw_callV (M2 := m_X11_isCell) (cv := q_cI) dX11_askedCell_17 20 rfl (k_X11_isCell l G x1 x2  u1) wd_252 wv_X11_isCell pk_X11_isCell rfl rfl ⟨by decide, by decide⟩ ⟨Nat.zero_le _, Nat.zero_le _⟩ at_11 (ok_11 (by decide)) rfl rfl rfl (Nat.le_of_ble_eq_true rfl) (fun x5 u3 => ?_)
      show qAW l G m_X11_askedCell (q_mq G q_cI) 20 [(3, .int x3), (0, .ref (q_ad G 11 0)), (1, .int x1), (2, .int x2)] [.int x5] u3 _
      refine aw_if_eq dX11_askedCell_20 23 rfl 27 rfl (fun h2 => ?_) (fun h2 => ?_)
      · refine aw_aload_n (i := 0) dX11_askedCell_27 28 rfl rfl 1 rfl ?_
        refine aw_iconst (x := 2) dX11_askedCell_28 29 rfl rfl ?_
        refine aw_callV (M2 := m_X11_meets) (cv := q_cI) dX11_askedCell_29 32 rfl (k_X11_meets l G 2  u3) wd_229 wv_X11_meets pk_X11_meets rfl rfl ⟨by decide, by decide⟩ ⟨Nat.zero_le _, Nat.zero_le _⟩ at_11 (ok_11 (by decide)) rfl rfl rfl (Nat.le_of_ble_eq_true rfl) (fun x6 u4 => ?_)
        show qAW l G m_X11_askedCell (q_mq G q_cI) 32 [(3, .int x3), (0, .ref (q_ad G 11 0)), (1, .int x1), (2, .int x2)] [.int x6] u4 _
        exact aw_conv [] rfl (hj1 x6 u4)
      · refine aw_iconst (x := 0) dX11_askedCell_23 24 rfl rfl ?_
        refine aw_goto dX11_askedCell_24 32 rfl ?_
        exact aw_conv [] rfl (hj1 0 u3)
    · refine aw_iload_n (i := 3) dX11_askedCell_10 11 rfl rfl 0 rfl ?_
      refine aw_goto dX11_askedCell_11 32 rfl ?_
      exact aw_conv [] rfl (hj1 x3 u1)
theorem dX11_bottom_0 : decode cX11_bottom 0 = .ok (.iload_n 3, 1) := by decide +kernel
theorem dX11_bottom_1 : decode cX11_bottom 1 = .ok (.sipush (-1000), 3) := by decide +kernel
theorem dX11_bottom_4 : decode cX11_bottom 4 = .ok (.sipush 1000, 3) := by decide +kernel
theorem dX11_bottom_7 : decode cX11_bottom 7 = .ok (.invokestatic 182, 3) := by decide +kernel
theorem dX11_bottom_10 : decode cX11_bottom 10 = .ok (.ifCond .ne 5, 3) := by decide +kernel
theorem dX11_bottom_13 : decode cX11_bottom 13 = .ok (.iconst (-1), 1) := by decide +kernel
theorem dX11_bottom_14 : decode cX11_bottom 14 = .ok (.ireturn, 1) := by decide +kernel
theorem dX11_bottom_15 : decode cX11_bottom 15 = .ok (.aload_n 0, 1) := by decide +kernel
theorem dX11_bottom_16 : decode cX11_bottom 16 = .ok (.iload_n 1, 1) := by decide +kernel
theorem dX11_bottom_17 : decode cX11_bottom 17 = .ok (.iload_n 2, 1) := by decide +kernel
theorem dX11_bottom_18 : decode cX11_bottom 18 = .ok (.invokevirtual 240, 3) := by decide +kernel
theorem dX11_bottom_21 : decode cX11_bottom 21 = .ok (.istore 4, 2) := by decide +kernel
theorem dX11_bottom_23 : decode cX11_bottom 23 = .ok (.iload 4, 2) := by decide +kernel
theorem dX11_bottom_25 : decode cX11_bottom 25 = .ok (.ifCond .ge 6, 3) := by decide +kernel
theorem dX11_bottom_28 : decode cX11_bottom 28 = .ok (.iload 4, 2) := by decide +kernel
theorem dX11_bottom_30 : decode cX11_bottom 30 = .ok (.ireturn, 1) := by decide +kernel
theorem dX11_bottom_31 : decode cX11_bottom 31 = .ok (.aload_n 0, 1) := by decide +kernel
theorem dX11_bottom_32 : decode cX11_bottom 32 = .ok (.aload_n 0, 1) := by decide +kernel
theorem dX11_bottom_33 : decode cX11_bottom 33 = .ok (.getfield 89, 3) := by decide +kernel
theorem dX11_bottom_36 : decode cX11_bottom 36 = .ok (.bipush 48, 2) := by decide +kernel
theorem dX11_bottom_38 : decode cX11_bottom 38 = .ok (.iload_n 1, 1) := by decide +kernel
theorem dX11_bottom_39 : decode cX11_bottom 39 = .ok (.imul, 1) := by decide +kernel
theorem dX11_bottom_40 : decode cX11_bottom 40 = .ok (.iload_n 2, 1) := by decide +kernel
theorem dX11_bottom_41 : decode cX11_bottom 41 = .ok (.iadd, 1) := by decide +kernel
theorem dX11_bottom_42 : decode cX11_bottom 42 = .ok (.iaload, 1) := by decide +kernel
theorem dX11_bottom_43 : decode cX11_bottom 43 = .ok (.putfield 176, 3) := by decide +kernel
theorem dX11_bottom_46 : decode cX11_bottom 46 = .ok (.aload_n 0, 1) := by decide +kernel
theorem dX11_bottom_47 : decode cX11_bottom 47 = .ok (.getfield 89, 3) := by decide +kernel
theorem dX11_bottom_50 : decode cX11_bottom 50 = .ok (.bipush 48, 2) := by decide +kernel
theorem dX11_bottom_52 : decode cX11_bottom 52 = .ok (.iload_n 1, 1) := by decide +kernel
theorem dX11_bottom_53 : decode cX11_bottom 53 = .ok (.imul, 1) := by decide +kernel
theorem dX11_bottom_54 : decode cX11_bottom 54 = .ok (.iload_n 2, 1) := by decide +kernel
theorem dX11_bottom_55 : decode cX11_bottom 55 = .ok (.iadd, 1) := by decide +kernel
theorem dX11_bottom_56 : decode cX11_bottom 56 = .ok (.iload_n 3, 1) := by decide +kernel
theorem dX11_bottom_57 : decode cX11_bottom 57 = .ok (.iastore, 1) := by decide +kernel
theorem dX11_bottom_58 : decode cX11_bottom 58 = .ok (.iconst 1, 1) := by decide +kernel
theorem dX11_bottom_59 : decode cX11_bottom 59 = .ok (.ireturn, 1) := by decide +kernel
noncomputable def f_X11_bottom (x1 : Int32) (x2 : Int32) (x3 : Int32) (u0 : qM) : Option (Int32 × qM) :=
  q_bd (f_X11_in x3 (-1000) 1000 u0) (fun (x4 : Int32) (u1 : qM) => if x4 = 0 then some ((-1), u1) else q_bd (f_X11_askedCell x1 x2 u1) (fun (x5 : Int32) (u2 : qM) => if (0 : Int32) ≤ x5 then q_ck (q_in ((48 * x1) + x2) 384) (q_lt (q_si u2 11 0 2 (u2.1 91 0 (Int32.toNatClampNeg ((48 * x1) + x2)))) (fun (u3 : qM) => q_ck (q_in ((48 * x1) + x2) 384) (q_lt (q_si u3 91 0 (Int32.toNatClampNeg ((48 * x1) + x2)) x3) (fun (u4 : qM) => some (1, u4))))) else some (x5, u2)))
set_option maxRecDepth 100000 in
set_option maxHeartbeats 4000000 in
theorem k_X11_bottom (l : Launch) (G : qG) (x1 : Int32) (x2 : Int32) (x3 : Int32)  (u0 : qM) : qCt l G m_X11_bottom q_cI [.ref (q_ad G 11 0), .int x1, .int x2, .int x3] u0 (f_X11_bottom x1 x2 x3 u0) := by
  refine q_entry pk_X11_bottom (Nat.le_of_ble_eq_true rfl) ?_
  show qAW l G m_X11_bottom (q_mq G q_cI) 0 [(0, .ref (q_ad G 11 0)), (1, .int x1), (2, .int x2), (3, .int x3)] [] u0 (f_X11_bottom x1 x2 x3 u0)
  unfold f_X11_bottom
  refine aw_iload_n (i := 3) dX11_bottom_0 1 rfl rfl 3 rfl ?_
  refine aw_sipush (x := (-1000)) dX11_bottom_1 4 rfl rfl ?_
  refine aw_sipush (x := 1000) dX11_bottom_4 7 rfl rfl ?_
  refine aw_callS (M2 := m_X11_in) (cv := q_cI) dX11_bottom_7 10 rfl (k_X11_in l G x3 (-1000) 1000  u0) wd_226 wv_X11_in pk_X11_in rfl ⟨by decide, by decide⟩ ⟨Nat.zero_le _, Nat.zero_le _⟩ rfl (Nat.le_of_ble_eq_true rfl) (fun x4 u1 => ?_)
  show qAW l G m_X11_bottom (q_mq G q_cI) 10 [(0, .ref (q_ad G 11 0)), (1, .int x1), (2, .int x2), (3, .int x3)] [.int x4] u1 _
  refine aw_if_ne dX11_bottom_10 13 rfl 15 rfl (fun h1 => ?_) (fun h1 => ?_)
  · refine aw_aload_n (i := 0) dX11_bottom_15 16 rfl rfl 0 rfl ?_
    refine aw_iload_n (i := 1) dX11_bottom_16 17 rfl rfl 1 rfl ?_
    refine aw_iload_n (i := 2) dX11_bottom_17 18 rfl rfl 2 rfl ?_
    refine aw_callV (M2 := m_X11_askedCell) (cv := q_cI) dX11_bottom_18 21 rfl (k_X11_askedCell l G x1 x2  u1) wd_275 wv_X11_askedCell pk_X11_askedCell rfl rfl ⟨by decide, by decide⟩ ⟨Nat.zero_le _, Nat.zero_le _⟩ at_11 (ok_11 (by decide)) rfl rfl rfl (Nat.le_of_ble_eq_true rfl) (fun x5 u2 => ?_)
    show qAW l G m_X11_bottom (q_mq G q_cI) 21 [(0, .ref (q_ad G 11 0)), (1, .int x1), (2, .int x2), (3, .int x3)] [.int x5] u2 _
    refine aw_istore dX11_bottom_21 23 rfl [(4, .int x5), (0, .ref (q_ad G 11 0)), (1, .int x1), (2, .int x2), (3, .int x3)] (by decide) rfl ?_
    refine aw_iload (i := 4) dX11_bottom_23 25 rfl 0 rfl ?_
    refine aw_if_ge dX11_bottom_25 28 rfl 31 rfl (fun h2 => ?_) (fun h2 => ?_)
    · refine aw_aload_n (i := 0) dX11_bottom_31 32 rfl rfl 1 rfl ?_
      refine aw_aload_n (i := 0) dX11_bottom_32 33 rfl rfl 1 rfl ?_
      refine gf_X11_31 dX11_bottom_33 36 rfl wd_248 (ok_11 (by decide)) ?_
      refine aw_bipush (x := 48) dX11_bottom_36 38 rfl rfl ?_
      refine aw_iload_n (i := 1) dX11_bottom_38 39 rfl rfl 2 rfl ?_
      refine aw_imul dX11_bottom_39 40 rfl ?_
      refine aw_iload_n (i := 2) dX11_bottom_40 41 rfl rfl 3 rfl ?_
      refine aw_iadd dX11_bottom_41 42 rfl ?_
      refine aw_iald dX11_bottom_42 43 rfl at_91 (al_91 _) (ok_91 (by decide)) (fun h3 => ?_)
      refine pf_X11_2 dX11_bottom_43 46 rfl wd_223 (ok_11 (by decide)) ?_
      refine aw_ltm (fun u3 => ?_)
      refine aw_aload_n (i := 0) dX11_bottom_46 47 rfl rfl 1 rfl ?_
      refine gf_X11_31 dX11_bottom_47 50 rfl wd_248 (ok_11 (by decide)) ?_
      refine aw_bipush (x := 48) dX11_bottom_50 52 rfl rfl ?_
      refine aw_iload_n (i := 1) dX11_bottom_52 53 rfl rfl 2 rfl ?_
      refine aw_imul dX11_bottom_53 54 rfl ?_
      refine aw_iload_n (i := 2) dX11_bottom_54 55 rfl rfl 3 rfl ?_
      refine aw_iadd dX11_bottom_55 56 rfl ?_
      refine aw_iload_n (i := 3) dX11_bottom_56 57 rfl rfl 4 rfl ?_
      refine aw_iast dX11_bottom_57 58 rfl at_91 (al_91 _) (ok_91 (by decide)) (fun h4 => ?_)
      refine aw_ltm (fun u4 => ?_)
      refine aw_iconst (x := 1) dX11_bottom_58 59 rfl rfl ?_
      exact aw_iret dX11_bottom_59 rfl
    · refine aw_iload (i := 4) dX11_bottom_28 30 rfl 0 rfl ?_
      exact aw_iret dX11_bottom_30 rfl
  · refine aw_iconst (x := (-1)) dX11_bottom_13 14 rfl rfl ?_
    exact aw_iret dX11_bottom_14 rfl
theorem dX11_water_0 : decode cX11_water 0 = .ok (.iload_n 3, 1) := by decide +kernel
theorem dX11_water_1 : decode cX11_water 1 = .ok (.iconst 0, 1) := by decide +kernel
theorem dX11_water_2 : decode cX11_water 2 = .ok (.ldc 195, 2) := by decide +kernel
theorem dX11_water_4 : decode cX11_water 4 = .ok (.invokestatic 182, 3) := by decide +kernel
theorem dX11_water_7 : decode cX11_water 7 = .ok (.ifCond .ne 5, 3) := by decide +kernel
theorem dX11_water_10 : decode cX11_water 10 = .ok (.iconst (-1), 1) := by decide +kernel
theorem dX11_water_11 : decode cX11_water 11 = .ok (.ireturn, 1) := by decide +kernel
theorem dX11_water_12 : decode cX11_water 12 = .ok (.aload_n 0, 1) := by decide +kernel
theorem dX11_water_13 : decode cX11_water 13 = .ok (.iload_n 1, 1) := by decide +kernel
theorem dX11_water_14 : decode cX11_water 14 = .ok (.iload_n 2, 1) := by decide +kernel
theorem dX11_water_15 : decode cX11_water 15 = .ok (.invokevirtual 240, 3) := by decide +kernel
theorem dX11_water_18 : decode cX11_water 18 = .ok (.istore 4, 2) := by decide +kernel
theorem dX11_water_20 : decode cX11_water 20 = .ok (.iload 4, 2) := by decide +kernel
theorem dX11_water_22 : decode cX11_water 22 = .ok (.ifCond .ge 6, 3) := by decide +kernel
theorem dX11_water_25 : decode cX11_water 25 = .ok (.iload 4, 2) := by decide +kernel
theorem dX11_water_27 : decode cX11_water 27 = .ok (.ireturn, 1) := by decide +kernel
theorem dX11_water_28 : decode cX11_water 28 = .ok (.aload_n 0, 1) := by decide +kernel
theorem dX11_water_29 : decode cX11_water 29 = .ok (.getfield 92, 3) := by decide +kernel
theorem dX11_water_32 : decode cX11_water 32 = .ok (.bipush 48, 2) := by decide +kernel
theorem dX11_water_34 : decode cX11_water 34 = .ok (.iload_n 1, 1) := by decide +kernel
theorem dX11_water_35 : decode cX11_water 35 = .ok (.imul, 1) := by decide +kernel
theorem dX11_water_36 : decode cX11_water 36 = .ok (.iload_n 2, 1) := by decide +kernel
theorem dX11_water_37 : decode cX11_water 37 = .ok (.iadd, 1) := by decide +kernel
theorem dX11_water_38 : decode cX11_water 38 = .ok (.iaload, 1) := by decide +kernel
theorem dX11_water_39 : decode cX11_water 39 = .ok (.istore 5, 2) := by decide +kernel
theorem dX11_water_41 : decode cX11_water 41 = .ok (.aload_n 0, 1) := by decide +kernel
theorem dX11_water_42 : decode cX11_water 42 = .ok (.getfield 92, 3) := by decide +kernel
theorem dX11_water_45 : decode cX11_water 45 = .ok (.bipush 48, 2) := by decide +kernel
theorem dX11_water_47 : decode cX11_water 47 = .ok (.iload_n 1, 1) := by decide +kernel
theorem dX11_water_48 : decode cX11_water 48 = .ok (.imul, 1) := by decide +kernel
theorem dX11_water_49 : decode cX11_water 49 = .ok (.iload_n 2, 1) := by decide +kernel
theorem dX11_water_50 : decode cX11_water 50 = .ok (.iadd, 1) := by decide +kernel
theorem dX11_water_51 : decode cX11_water 51 = .ok (.iload_n 3, 1) := by decide +kernel
theorem dX11_water_52 : decode cX11_water 52 = .ok (.iastore, 1) := by decide +kernel
theorem dX11_water_53 : decode cX11_water 53 = .ok (.iload 5, 2) := by decide +kernel
theorem dX11_water_55 : decode cX11_water 55 = .ok (.ireturn, 1) := by decide +kernel
noncomputable def f_X11_water (x1 : Int32) (x2 : Int32) (x3 : Int32) (u0 : qM) : Option (Int32 × qM) :=
  q_bd (f_X11_in x3 0 100000 u0) (fun (x4 : Int32) (u1 : qM) => if x4 = 0 then some ((-1), u1) else q_bd (f_X11_askedCell x1 x2 u1) (fun (x5 : Int32) (u2 : qM) => if (0 : Int32) ≤ x5 then q_ck (q_in ((48 * x1) + x2) 384) (q_lt (u2.1 92 0 (Int32.toNatClampNeg ((48 * x1) + x2))) (fun (x6 : Int32) => q_ck (q_in ((48 * x1) + x2) 384) (q_lt (q_si u2 92 0 (Int32.toNatClampNeg ((48 * x1) + x2)) x3) (fun (u3 : qM) => some (x6, u3))))) else some (x5, u2)))
set_option maxRecDepth 100000 in
set_option maxHeartbeats 4000000 in
theorem k_X11_water (l : Launch) (G : qG) (x1 : Int32) (x2 : Int32) (x3 : Int32)  (u0 : qM) : qCt l G m_X11_water q_cI [.ref (q_ad G 11 0), .int x1, .int x2, .int x3] u0 (f_X11_water x1 x2 x3 u0) := by
  refine q_entry pk_X11_water (Nat.le_of_ble_eq_true rfl) ?_
  show qAW l G m_X11_water (q_mq G q_cI) 0 [(0, .ref (q_ad G 11 0)), (1, .int x1), (2, .int x2), (3, .int x3)] [] u0 (f_X11_water x1 x2 x3 u0)
  unfold f_X11_water
  refine aw_iload_n (i := 3) dX11_water_0 1 rfl rfl 3 rfl ?_
  refine aw_iconst (x := 0) dX11_water_1 2 rfl rfl ?_
  refine aw_ldc (x := 100000) dX11_water_2 4 rfl wd_232 ?_
  refine aw_callS (M2 := m_X11_in) (cv := q_cI) dX11_water_4 7 rfl (k_X11_in l G x3 0 100000  u0) wd_226 wv_X11_in pk_X11_in rfl ⟨by decide, by decide⟩ ⟨Nat.zero_le _, Nat.zero_le _⟩ rfl (Nat.le_of_ble_eq_true rfl) (fun x4 u1 => ?_)
  show qAW l G m_X11_water (q_mq G q_cI) 7 [(0, .ref (q_ad G 11 0)), (1, .int x1), (2, .int x2), (3, .int x3)] [.int x4] u1 _
  refine aw_if_ne dX11_water_7 10 rfl 12 rfl (fun h1 => ?_) (fun h1 => ?_)
  · refine aw_aload_n (i := 0) dX11_water_12 13 rfl rfl 0 rfl ?_
    refine aw_iload_n (i := 1) dX11_water_13 14 rfl rfl 1 rfl ?_
    refine aw_iload_n (i := 2) dX11_water_14 15 rfl rfl 2 rfl ?_
    refine aw_callV (M2 := m_X11_askedCell) (cv := q_cI) dX11_water_15 18 rfl (k_X11_askedCell l G x1 x2  u1) wd_275 wv_X11_askedCell pk_X11_askedCell rfl rfl ⟨by decide, by decide⟩ ⟨Nat.zero_le _, Nat.zero_le _⟩ at_11 (ok_11 (by decide)) rfl rfl rfl (Nat.le_of_ble_eq_true rfl) (fun x5 u2 => ?_)
    show qAW l G m_X11_water (q_mq G q_cI) 18 [(0, .ref (q_ad G 11 0)), (1, .int x1), (2, .int x2), (3, .int x3)] [.int x5] u2 _
    refine aw_istore dX11_water_18 20 rfl [(4, .int x5), (0, .ref (q_ad G 11 0)), (1, .int x1), (2, .int x2), (3, .int x3)] (by decide) rfl ?_
    refine aw_iload (i := 4) dX11_water_20 22 rfl 0 rfl ?_
    refine aw_if_ge dX11_water_22 25 rfl 28 rfl (fun h2 => ?_) (fun h2 => ?_)
    · refine aw_aload_n (i := 0) dX11_water_28 29 rfl rfl 1 rfl ?_
      refine gf_X11_32 dX11_water_29 32 rfl wd_249 (ok_11 (by decide)) ?_
      refine aw_bipush (x := 48) dX11_water_32 34 rfl rfl ?_
      refine aw_iload_n (i := 1) dX11_water_34 35 rfl rfl 2 rfl ?_
      refine aw_imul dX11_water_35 36 rfl ?_
      refine aw_iload_n (i := 2) dX11_water_36 37 rfl rfl 3 rfl ?_
      refine aw_iadd dX11_water_37 38 rfl ?_
      refine aw_iald dX11_water_38 39 rfl at_92 (al_92 _) (ok_92 (by decide)) (fun h3 => ?_)
      refine aw_lti (fun x6 => ?_)
      refine aw_istore dX11_water_39 41 rfl [(5, .int x6), (4, .int x5), (0, .ref (q_ad G 11 0)), (1, .int x1), (2, .int x2), (3, .int x3)] (by decide) rfl ?_
      refine aw_aload_n (i := 0) dX11_water_41 42 rfl rfl 2 rfl ?_
      refine gf_X11_32 dX11_water_42 45 rfl wd_249 (ok_11 (by decide)) ?_
      refine aw_bipush (x := 48) dX11_water_45 47 rfl rfl ?_
      refine aw_iload_n (i := 1) dX11_water_47 48 rfl rfl 3 rfl ?_
      refine aw_imul dX11_water_48 49 rfl ?_
      refine aw_iload_n (i := 2) dX11_water_49 50 rfl rfl 4 rfl ?_
      refine aw_iadd dX11_water_50 51 rfl ?_
      refine aw_iload_n (i := 3) dX11_water_51 52 rfl rfl 5 rfl ?_
      refine aw_iast dX11_water_52 53 rfl at_92 (al_92 _) (ok_92 (by decide)) (fun h4 => ?_)
      refine aw_ltm (fun u3 => ?_)
      refine aw_iload (i := 5) dX11_water_53 55 rfl 0 rfl ?_
      exact aw_iret dX11_water_55 rfl
    · refine aw_iload (i := 4) dX11_water_25 27 rfl 0 rfl ?_
      exact aw_iret dX11_water_27 rfl
  · refine aw_iconst (x := (-1)) dX11_water_10 11 rfl rfl ?_
    exact aw_iret dX11_water_11 rfl
theorem dX11_spill_0 : decode cX11_spill 0 = .ok (.iload_n 3, 1) := by decide +kernel
theorem dX11_spill_1 : decode cX11_spill 1 = .ok (.iconst 0, 1) := by decide +kernel
theorem dX11_spill_2 : decode cX11_spill 2 = .ok (.iconst 2, 1) := by decide +kernel
theorem dX11_spill_3 : decode cX11_spill 3 = .ok (.invokestatic 182, 3) := by decide +kernel
theorem dX11_spill_6 : decode cX11_spill 6 = .ok (.ifCond .eq 14, 3) := by decide +kernel
theorem dX11_spill_9 : decode cX11_spill 9 = .ok (.iload 4, 2) := by decide +kernel
theorem dX11_spill_11 : decode cX11_spill 11 = .ok (.iconst 0, 1) := by decide +kernel
theorem dX11_spill_12 : decode cX11_spill 12 = .ok (.ldc 195, 2) := by decide +kernel
theorem dX11_spill_14 : decode cX11_spill 14 = .ok (.invokestatic 182, 3) := by decide +kernel
theorem dX11_spill_17 : decode cX11_spill 17 = .ok (.ifCond .ne 5, 3) := by decide +kernel
theorem dX11_spill_20 : decode cX11_spill 20 = .ok (.iconst (-1), 1) := by decide +kernel
theorem dX11_spill_21 : decode cX11_spill 21 = .ok (.ireturn, 1) := by decide +kernel
theorem dX11_spill_22 : decode cX11_spill 22 = .ok (.aload_n 0, 1) := by decide +kernel
theorem dX11_spill_23 : decode cX11_spill 23 = .ok (.iload_n 1, 1) := by decide +kernel
theorem dX11_spill_24 : decode cX11_spill 24 = .ok (.iload_n 2, 1) := by decide +kernel
theorem dX11_spill_25 : decode cX11_spill 25 = .ok (.invokevirtual 240, 3) := by decide +kernel
theorem dX11_spill_28 : decode cX11_spill 28 = .ok (.istore 5, 2) := by decide +kernel
theorem dX11_spill_30 : decode cX11_spill 30 = .ok (.iload 5, 2) := by decide +kernel
theorem dX11_spill_32 : decode cX11_spill 32 = .ok (.ifCond .ge 6, 3) := by decide +kernel
theorem dX11_spill_35 : decode cX11_spill 35 = .ok (.iload 5, 2) := by decide +kernel
theorem dX11_spill_37 : decode cX11_spill 37 = .ok (.ireturn, 1) := by decide +kernel
theorem dX11_spill_38 : decode cX11_spill 38 = .ok (.sipush 144, 3) := by decide +kernel
theorem dX11_spill_41 : decode cX11_spill 41 = .ok (.iload_n 1, 1) := by decide +kernel
theorem dX11_spill_42 : decode cX11_spill 42 = .ok (.imul, 1) := by decide +kernel
theorem dX11_spill_43 : decode cX11_spill 43 = .ok (.bipush 48, 2) := by decide +kernel
theorem dX11_spill_45 : decode cX11_spill 45 = .ok (.iload_n 3, 1) := by decide +kernel
theorem dX11_spill_46 : decode cX11_spill 46 = .ok (.imul, 1) := by decide +kernel
theorem dX11_spill_47 : decode cX11_spill 47 = .ok (.iadd, 1) := by decide +kernel
theorem dX11_spill_48 : decode cX11_spill 48 = .ok (.iload_n 2, 1) := by decide +kernel
theorem dX11_spill_49 : decode cX11_spill 49 = .ok (.iadd, 1) := by decide +kernel
theorem dX11_spill_50 : decode cX11_spill 50 = .ok (.istore 6, 2) := by decide +kernel
theorem dX11_spill_52 : decode cX11_spill 52 = .ok (.aload_n 0, 1) := by decide +kernel
theorem dX11_spill_53 : decode cX11_spill 53 = .ok (.getfield 95, 3) := by decide +kernel
theorem dX11_spill_56 : decode cX11_spill 56 = .ok (.iload 6, 2) := by decide +kernel
theorem dX11_spill_58 : decode cX11_spill 58 = .ok (.iaload, 1) := by decide +kernel
theorem dX11_spill_59 : decode cX11_spill 59 = .ok (.istore 7, 2) := by decide +kernel
theorem dX11_spill_61 : decode cX11_spill 61 = .ok (.aload_n 0, 1) := by decide +kernel
theorem dX11_spill_62 : decode cX11_spill 62 = .ok (.getfield 95, 3) := by decide +kernel
theorem dX11_spill_65 : decode cX11_spill 65 = .ok (.iload 6, 2) := by decide +kernel
theorem dX11_spill_67 : decode cX11_spill 67 = .ok (.iload 4, 2) := by decide +kernel
theorem dX11_spill_69 : decode cX11_spill 69 = .ok (.iastore, 1) := by decide +kernel
theorem dX11_spill_70 : decode cX11_spill 70 = .ok (.iload 7, 2) := by decide +kernel
theorem dX11_spill_72 : decode cX11_spill 72 = .ok (.ireturn, 1) := by decide +kernel
noncomputable def f_X11_spill (x1 : Int32) (x2 : Int32) (x3 : Int32) (x4 : Int32) (u0 : qM) : Option (Int32 × qM) :=
  q_bd (f_X11_in x3 0 2 u0) (fun (x5 : Int32) (u1 : qM) => q_jn (fun  (u2 : qM) => some ((-1), u2)) (fun j1 => if x5 = 0 then j1 u1 else q_bd (f_X11_in x4 0 100000 u1) (fun (x6 : Int32) (u3 : qM) => if x6 = 0 then j1 u3 else q_bd (f_X11_askedCell x1 x2 u3) (fun (x7 : Int32) (u4 : qM) => if (0 : Int32) ≤ x7 then q_lt (((144 * x1) + (48 * x3)) + x2) (fun (x8 : Int32) => q_ck (q_in x8 1152) (q_lt (u4.1 93 0 (Int32.toNatClampNeg x8)) (fun (x9 : Int32) => q_ck (q_in x8 1152) (q_lt (q_si u4 93 0 (Int32.toNatClampNeg x8) x4) (fun (u5 : qM) => some (x9, u5)))))) else some (x7, u4)))))
set_option maxRecDepth 100000 in
set_option maxHeartbeats 4000000 in
theorem k_X11_spill (l : Launch) (G : qG) (x1 : Int32) (x2 : Int32) (x3 : Int32) (x4 : Int32)  (u0 : qM) : qCt l G m_X11_spill q_cI [.ref (q_ad G 11 0), .int x1, .int x2, .int x3, .int x4] u0 (f_X11_spill x1 x2 x3 x4 u0) := by
  refine q_entry pk_X11_spill (Nat.le_of_ble_eq_true rfl) ?_
  show qAW l G m_X11_spill (q_mq G q_cI) 0 [(0, .ref (q_ad G 11 0)), (1, .int x1), (2, .int x2), (3, .int x3), (4, .int x4)] [] u0 (f_X11_spill x1 x2 x3 x4 u0)
  unfold f_X11_spill
  refine aw_iload_n (i := 3) dX11_spill_0 1 rfl rfl 3 rfl ?_
  refine aw_iconst (x := 0) dX11_spill_1 2 rfl rfl ?_
  refine aw_iconst (x := 2) dX11_spill_2 3 rfl rfl ?_
  refine aw_callS (M2 := m_X11_in) (cv := q_cI) dX11_spill_3 6 rfl (k_X11_in l G x3 0 2  u0) wd_226 wv_X11_in pk_X11_in rfl ⟨by decide, by decide⟩ ⟨Nat.zero_le _, Nat.zero_le _⟩ rfl (Nat.le_of_ble_eq_true rfl) (fun x5 u1 => ?_)
  show qAW l G m_X11_spill (q_mq G q_cI) 6 [(0, .ref (q_ad G 11 0)), (1, .int x1), (2, .int x2), (3, .int x3), (4, .int x4)] [.int x5] u1 _
  refine aw_jn (fun k => ∀  (u2 : qM), qAW l G m_X11_spill (q_mq G q_cI) 20 [] [] u2 (k u2)) ?_ ?_
  · intro u2
    refine aw_iconst (x := (-1)) dX11_spill_20 21 rfl rfl ?_
    exact aw_iret dX11_spill_21 rfl
  · intro j1 hj1
    refine aw_if_eq dX11_spill_6 9 rfl 20 rfl (fun h1 => ?_) (fun h1 => ?_)
    · exact aw_conv [] rfl (hj1 u1)
    · refine aw_iload (i := 4) dX11_spill_9 11 rfl 4 rfl ?_
      refine aw_iconst (x := 0) dX11_spill_11 12 rfl rfl ?_
      refine aw_ldc (x := 100000) dX11_spill_12 14 rfl wd_232 ?_
      refine aw_callS (M2 := m_X11_in) (cv := q_cI) dX11_spill_14 17 rfl (k_X11_in l G x4 0 100000  u1) wd_226 wv_X11_in pk_X11_in rfl ⟨by decide, by decide⟩ ⟨Nat.zero_le _, Nat.zero_le _⟩ rfl (Nat.le_of_ble_eq_true rfl) (fun x6 u3 => ?_)
      show qAW l G m_X11_spill (q_mq G q_cI) 17 [(0, .ref (q_ad G 11 0)), (1, .int x1), (2, .int x2), (3, .int x3), (4, .int x4)] [.int x6] u3 _
      refine aw_if_ne dX11_spill_17 20 rfl 22 rfl (fun h2 => ?_) (fun h2 => ?_)
      · refine aw_aload_n (i := 0) dX11_spill_22 23 rfl rfl 0 rfl ?_
        refine aw_iload_n (i := 1) dX11_spill_23 24 rfl rfl 1 rfl ?_
        refine aw_iload_n (i := 2) dX11_spill_24 25 rfl rfl 2 rfl ?_
        refine aw_callV (M2 := m_X11_askedCell) (cv := q_cI) dX11_spill_25 28 rfl (k_X11_askedCell l G x1 x2  u3) wd_275 wv_X11_askedCell pk_X11_askedCell rfl rfl ⟨by decide, by decide⟩ ⟨Nat.zero_le _, Nat.zero_le _⟩ at_11 (ok_11 (by decide)) rfl rfl rfl (Nat.le_of_ble_eq_true rfl) (fun x7 u4 => ?_)
        show qAW l G m_X11_spill (q_mq G q_cI) 28 [(0, .ref (q_ad G 11 0)), (1, .int x1), (2, .int x2), (3, .int x3), (4, .int x4)] [.int x7] u4 _
        refine aw_istore dX11_spill_28 30 rfl [(5, .int x7), (0, .ref (q_ad G 11 0)), (1, .int x1), (2, .int x2), (3, .int x3), (4, .int x4)] (by decide) rfl ?_
        refine aw_iload (i := 5) dX11_spill_30 32 rfl 0 rfl ?_
        refine aw_if_ge dX11_spill_32 35 rfl 38 rfl (fun h3 => ?_) (fun h3 => ?_)
        · refine aw_sipush (x := 144) dX11_spill_38 41 rfl rfl ?_
          refine aw_iload_n (i := 1) dX11_spill_41 42 rfl rfl 2 rfl ?_
          refine aw_imul dX11_spill_42 43 rfl ?_
          refine aw_bipush (x := 48) dX11_spill_43 45 rfl rfl ?_
          refine aw_iload_n (i := 3) dX11_spill_45 46 rfl rfl 4 rfl ?_
          refine aw_imul dX11_spill_46 47 rfl ?_
          refine aw_iadd dX11_spill_47 48 rfl ?_
          refine aw_iload_n (i := 2) dX11_spill_48 49 rfl rfl 3 rfl ?_
          refine aw_iadd dX11_spill_49 50 rfl ?_
          refine aw_lti (fun x8 => ?_)
          refine aw_istore dX11_spill_50 52 rfl [(6, .int x8), (5, .int x7), (0, .ref (q_ad G 11 0)), (1, .int x1), (2, .int x2), (3, .int x3), (4, .int x4)] (by decide) rfl ?_
          refine aw_aload_n (i := 0) dX11_spill_52 53 rfl rfl 2 rfl ?_
          refine gf_X11_33 dX11_spill_53 56 rfl wd_269 (ok_11 (by decide)) ?_
          refine aw_iload (i := 6) dX11_spill_56 58 rfl 0 rfl ?_
          refine aw_iald dX11_spill_58 59 rfl at_93 (al_93 _) (ok_93 (by decide)) (fun h4 => ?_)
          refine aw_lti (fun x9 => ?_)
          refine aw_istore dX11_spill_59 61 rfl [(7, .int x9), (6, .int x8), (5, .int x7), (0, .ref (q_ad G 11 0)), (1, .int x1), (2, .int x2), (3, .int x3), (4, .int x4)] (by decide) rfl ?_
          refine aw_aload_n (i := 0) dX11_spill_61 62 rfl rfl 3 rfl ?_
          refine gf_X11_33 dX11_spill_62 65 rfl wd_269 (ok_11 (by decide)) ?_
          refine aw_iload (i := 6) dX11_spill_65 67 rfl 1 rfl ?_
          refine aw_iload (i := 4) dX11_spill_67 69 rfl 7 rfl ?_
          refine aw_iast dX11_spill_69 70 rfl at_93 (al_93 _) (ok_93 (by decide)) (fun h5 => ?_)
          refine aw_ltm (fun u5 => ?_)
          refine aw_iload (i := 7) dX11_spill_70 72 rfl 0 rfl ?_
          exact aw_iret dX11_spill_72 rfl
        · refine aw_iload (i := 5) dX11_spill_35 37 rfl 0 rfl ?_
          exact aw_iret dX11_spill_37 rfl
      · exact aw_conv [] rfl (hj1 u3)
theorem dX11_cell_0 : decode cX11_cell 0 = .ok (.iload_n 3, 1) := by decide +kernel
theorem dX11_cell_1 : decode cX11_cell 1 = .ok (.iconst 0, 1) := by decide +kernel
theorem dX11_cell_2 : decode cX11_cell 2 = .ok (.iconst 5, 1) := by decide +kernel
theorem dX11_cell_3 : decode cX11_cell 3 = .ok (.invokestatic 182, 3) := by decide +kernel
theorem dX11_cell_6 : decode cX11_cell 6 = .ok (.ifCond .ne 5, 3) := by decide +kernel
theorem dX11_cell_9 : decode cX11_cell 9 = .ok (.iconst (-1), 1) := by decide +kernel
theorem dX11_cell_10 : decode cX11_cell 10 = .ok (.ireturn, 1) := by decide +kernel
theorem dX11_cell_11 : decode cX11_cell 11 = .ok (.aload_n 0, 1) := by decide +kernel
theorem dX11_cell_12 : decode cX11_cell 12 = .ok (.iload_n 1, 1) := by decide +kernel
theorem dX11_cell_13 : decode cX11_cell 13 = .ok (.iload_n 2, 1) := by decide +kernel
theorem dX11_cell_14 : decode cX11_cell 14 = .ok (.invokevirtual 240, 3) := by decide +kernel
theorem dX11_cell_17 : decode cX11_cell 17 = .ok (.istore 4, 2) := by decide +kernel
theorem dX11_cell_19 : decode cX11_cell 19 = .ok (.iload 4, 2) := by decide +kernel
theorem dX11_cell_21 : decode cX11_cell 21 = .ok (.ifCond .ge 6, 3) := by decide +kernel
theorem dX11_cell_24 : decode cX11_cell 24 = .ok (.iload 4, 2) := by decide +kernel
theorem dX11_cell_26 : decode cX11_cell 26 = .ok (.ireturn, 1) := by decide +kernel
theorem dX11_cell_27 : decode cX11_cell 27 = .ok (.aload_n 0, 1) := by decide +kernel
theorem dX11_cell_28 : decode cX11_cell 28 = .ok (.iload_n 3, 1) := by decide +kernel
theorem dX11_cell_29 : decode cX11_cell 29 = .ok (.ifCond .ne 17, 3) := by decide +kernel
theorem dX11_cell_32 : decode cX11_cell 32 = .ok (.aload_n 0, 1) := by decide +kernel
theorem dX11_cell_33 : decode cX11_cell 33 = .ok (.getfield 89, 3) := by decide +kernel
theorem dX11_cell_36 : decode cX11_cell 36 = .ok (.bipush 48, 2) := by decide +kernel
theorem dX11_cell_38 : decode cX11_cell 38 = .ok (.iload_n 1, 1) := by decide +kernel
theorem dX11_cell_39 : decode cX11_cell 39 = .ok (.imul, 1) := by decide +kernel
theorem dX11_cell_40 : decode cX11_cell 40 = .ok (.iload_n 2, 1) := by decide +kernel
theorem dX11_cell_41 : decode cX11_cell 41 = .ok (.iadd, 1) := by decide +kernel
theorem dX11_cell_42 : decode cX11_cell 42 = .ok (.iaload, 1) := by decide +kernel
theorem dX11_cell_43 : decode cX11_cell 43 = .ok (.goto 55, 3) := by decide +kernel
theorem dX11_cell_46 : decode cX11_cell 46 = .ok (.iload_n 3, 1) := by decide +kernel
theorem dX11_cell_47 : decode cX11_cell 47 = .ok (.iconst 1, 1) := by decide +kernel
theorem dX11_cell_48 : decode cX11_cell 48 = .ok (.if_icmp .ne 17, 3) := by decide +kernel
theorem dX11_cell_51 : decode cX11_cell 51 = .ok (.aload_n 0, 1) := by decide +kernel
theorem dX11_cell_52 : decode cX11_cell 52 = .ok (.getfield 92, 3) := by decide +kernel
theorem dX11_cell_55 : decode cX11_cell 55 = .ok (.bipush 48, 2) := by decide +kernel
theorem dX11_cell_57 : decode cX11_cell 57 = .ok (.iload_n 1, 1) := by decide +kernel
theorem dX11_cell_58 : decode cX11_cell 58 = .ok (.imul, 1) := by decide +kernel
theorem dX11_cell_59 : decode cX11_cell 59 = .ok (.iload_n 2, 1) := by decide +kernel
theorem dX11_cell_60 : decode cX11_cell 60 = .ok (.iadd, 1) := by decide +kernel
theorem dX11_cell_61 : decode cX11_cell 61 = .ok (.iaload, 1) := by decide +kernel
theorem dX11_cell_62 : decode cX11_cell 62 = .ok (.goto 36, 3) := by decide +kernel
theorem dX11_cell_65 : decode cX11_cell 65 = .ok (.iload_n 3, 1) := by decide +kernel
theorem dX11_cell_66 : decode cX11_cell 66 = .ok (.iconst 2, 1) := by decide +kernel
theorem dX11_cell_67 : decode cX11_cell 67 = .ok (.if_icmp .ne 12, 3) := by decide +kernel
theorem dX11_cell_70 : decode cX11_cell 70 = .ok (.aload_n 0, 1) := by decide +kernel
theorem dX11_cell_71 : decode cX11_cell 71 = .ok (.iload_n 1, 1) := by decide +kernel
theorem dX11_cell_72 : decode cX11_cell 72 = .ok (.iload_n 2, 1) := by decide +kernel
theorem dX11_cell_73 : decode cX11_cell 73 = .ok (.invokevirtual 243, 3) := by decide +kernel
theorem dX11_cell_76 : decode cX11_cell 76 = .ok (.goto 22, 3) := by decide +kernel
theorem dX11_cell_79 : decode cX11_cell 79 = .ok (.aload_n 0, 1) := by decide +kernel
theorem dX11_cell_80 : decode cX11_cell 80 = .ok (.getfield 95, 3) := by decide +kernel
theorem dX11_cell_83 : decode cX11_cell 83 = .ok (.sipush 144, 3) := by decide +kernel
theorem dX11_cell_86 : decode cX11_cell 86 = .ok (.iload_n 1, 1) := by decide +kernel
theorem dX11_cell_87 : decode cX11_cell 87 = .ok (.imul, 1) := by decide +kernel
theorem dX11_cell_88 : decode cX11_cell 88 = .ok (.bipush 48, 2) := by decide +kernel
theorem dX11_cell_90 : decode cX11_cell 90 = .ok (.iload_n 3, 1) := by decide +kernel
theorem dX11_cell_91 : decode cX11_cell 91 = .ok (.iconst 3, 1) := by decide +kernel
theorem dX11_cell_92 : decode cX11_cell 92 = .ok (.isub, 1) := by decide +kernel
theorem dX11_cell_93 : decode cX11_cell 93 = .ok (.imul, 1) := by decide +kernel
theorem dX11_cell_94 : decode cX11_cell 94 = .ok (.iadd, 1) := by decide +kernel
theorem dX11_cell_95 : decode cX11_cell 95 = .ok (.iload_n 2, 1) := by decide +kernel
theorem dX11_cell_96 : decode cX11_cell 96 = .ok (.iadd, 1) := by decide +kernel
theorem dX11_cell_97 : decode cX11_cell 97 = .ok (.iaload, 1) := by decide +kernel
theorem dX11_cell_98 : decode cX11_cell 98 = .ok (.iconst 1, 1) := by decide +kernel
theorem dX11_cell_99 : decode cX11_cell 99 = .ok (.invokevirtual 202, 3) := by decide +kernel
theorem dX11_cell_102 : decode cX11_cell 102 = .ok (.ireturn, 1) := by decide +kernel
noncomputable def f_X11_cell (x1 : Int32) (x2 : Int32) (x3 : Int32) (u0 : qM) : Option (Int32 × qM) :=
  q_bd (f_X11_in x3 0 5 u0) (fun (x4 : Int32) (u1 : qM) => if x4 = 0 then some ((-1), u1) else q_bd (f_X11_askedCell x1 x2 u1) (fun (x5 : Int32) (u2 : qM) => if (0 : Int32) ≤ x5 then q_jn (fun (x6 : Int32) (u3 : qM) => q_bd (f_X11_ask x6 1 u3) (fun (x7 : Int32) (u4 : qM) => some (x7, u4))) (fun j1 => if x3 = 0 then q_ck (q_in ((48 * x1) + x2) 384) (j1 (u2.1 91 0 (Int32.toNatClampNeg ((48 * x1) + x2))) u2) else if x3 = 1 then q_ck (q_in ((48 * x1) + x2) 384) (j1 (u2.1 92 0 (Int32.toNatClampNeg ((48 * x1) + x2))) u2) else if x3 = 2 then q_bd (f_X11_level x1 x2 u2) (fun (x8 : Int32) (u5 : qM) => j1 x8 u5) else q_ck (q_in (((144 * x1) + (48 * (x3 - 3))) + x2) 1152) (j1 (u2.1 93 0 (Int32.toNatClampNeg (((144 * x1) + (48 * (x3 - 3))) + x2))) u2)) else some (x5, u2)))
set_option maxRecDepth 100000 in
set_option maxHeartbeats 4000000 in
theorem k_X11_cell (l : Launch) (G : qG) (x1 : Int32) (x2 : Int32) (x3 : Int32)  (u0 : qM) : qCt l G m_X11_cell q_cI [.ref (q_ad G 11 0), .int x1, .int x2, .int x3] u0 (f_X11_cell x1 x2 x3 u0) := by
  refine q_entry pk_X11_cell (Nat.le_of_ble_eq_true rfl) ?_
  show qAW l G m_X11_cell (q_mq G q_cI) 0 [(0, .ref (q_ad G 11 0)), (1, .int x1), (2, .int x2), (3, .int x3)] [] u0 (f_X11_cell x1 x2 x3 u0)
  unfold f_X11_cell
  refine aw_iload_n (i := 3) dX11_cell_0 1 rfl rfl 3 rfl ?_
  refine aw_iconst (x := 0) dX11_cell_1 2 rfl rfl ?_
  refine aw_iconst (x := 5) dX11_cell_2 3 rfl rfl ?_
  refine aw_callS (M2 := m_X11_in) (cv := q_cI) dX11_cell_3 6 rfl (k_X11_in l G x3 0 5  u0) wd_226 wv_X11_in pk_X11_in rfl ⟨by decide, by decide⟩ ⟨Nat.zero_le _, Nat.zero_le _⟩ rfl (Nat.le_of_ble_eq_true rfl) (fun x4 u1 => ?_)
  show qAW l G m_X11_cell (q_mq G q_cI) 6 [(0, .ref (q_ad G 11 0)), (1, .int x1), (2, .int x2), (3, .int x3)] [.int x4] u1 _
  refine aw_if_ne dX11_cell_6 9 rfl 11 rfl (fun h1 => ?_) (fun h1 => ?_)
  · refine aw_aload_n (i := 0) dX11_cell_11 12 rfl rfl 0 rfl ?_
    refine aw_iload_n (i := 1) dX11_cell_12 13 rfl rfl 1 rfl ?_
    refine aw_iload_n (i := 2) dX11_cell_13 14 rfl rfl 2 rfl ?_
    refine aw_callV (M2 := m_X11_askedCell) (cv := q_cI) dX11_cell_14 17 rfl (k_X11_askedCell l G x1 x2  u1) wd_275 wv_X11_askedCell pk_X11_askedCell rfl rfl ⟨by decide, by decide⟩ ⟨Nat.zero_le _, Nat.zero_le _⟩ at_11 (ok_11 (by decide)) rfl rfl rfl (Nat.le_of_ble_eq_true rfl) (fun x5 u2 => ?_)
    show qAW l G m_X11_cell (q_mq G q_cI) 17 [(0, .ref (q_ad G 11 0)), (1, .int x1), (2, .int x2), (3, .int x3)] [.int x5] u2 _
    refine aw_istore dX11_cell_17 19 rfl [(4, .int x5), (0, .ref (q_ad G 11 0)), (1, .int x1), (2, .int x2), (3, .int x3)] (by decide) rfl ?_
    refine aw_iload (i := 4) dX11_cell_19 21 rfl 0 rfl ?_
    refine aw_if_ge dX11_cell_21 24 rfl 27 rfl (fun h2 => ?_) (fun h2 => ?_)
    · refine aw_aload_n (i := 0) dX11_cell_27 28 rfl rfl 1 rfl ?_
      refine aw_iload_n (i := 3) dX11_cell_28 29 rfl rfl 4 rfl ?_
      refine aw_jn (fun k => ∀ (x6 : Int32) (u3 : qM), qAW l G m_X11_cell (q_mq G q_cI) 98 [] [.int x6, .ref (q_ad G 11 0)] u3 (k x6 u3)) ?_ ?_
      · intro x6 u3
        refine aw_iconst (x := 1) dX11_cell_98 99 rfl rfl ?_
        refine aw_callV (M2 := m_X11_ask) (cv := q_cI) dX11_cell_99 102 rfl (k_X11_ask l G x6 1  u3) wd_236 wv_X11_ask pk_X11_ask rfl rfl ⟨by decide, by decide⟩ ⟨Nat.zero_le _, Nat.zero_le _⟩ at_11 (ok_11 (by decide)) rfl rfl rfl (Nat.le_of_ble_eq_true rfl) (fun x7 u4 => ?_)
        show qAW l G m_X11_cell (q_mq G q_cI) 102 [] [.int x7] u4 _
        exact aw_iret dX11_cell_102 rfl
      · intro j1 hj1
        refine aw_if_ne dX11_cell_29 32 rfl 46 rfl (fun h3 => ?_) (fun h3 => ?_)
        · refine aw_iload_n (i := 3) dX11_cell_46 47 rfl rfl 4 rfl ?_
          refine aw_iconst (x := 1) dX11_cell_47 48 rfl rfl ?_
          refine aw_icmp_ne dX11_cell_48 51 rfl 65 rfl (fun h4 => ?_) (fun h4 => ?_)
          · refine aw_iload_n (i := 3) dX11_cell_65 66 rfl rfl 4 rfl ?_
            refine aw_iconst (x := 2) dX11_cell_66 67 rfl rfl ?_
            refine aw_icmp_ne dX11_cell_67 70 rfl 79 rfl (fun h5 => ?_) (fun h5 => ?_)
            · refine aw_aload_n (i := 0) dX11_cell_79 80 rfl rfl 1 rfl ?_
              refine gf_X11_33 dX11_cell_80 83 rfl wd_269 (ok_11 (by decide)) ?_
              refine aw_sipush (x := 144) dX11_cell_83 86 rfl rfl ?_
              refine aw_iload_n (i := 1) dX11_cell_86 87 rfl rfl 2 rfl ?_
              refine aw_imul dX11_cell_87 88 rfl ?_
              refine aw_bipush (x := 48) dX11_cell_88 90 rfl rfl ?_
              refine aw_iload_n (i := 3) dX11_cell_90 91 rfl rfl 4 rfl ?_
              refine aw_iconst (x := 3) dX11_cell_91 92 rfl rfl ?_
              refine aw_isub dX11_cell_92 93 rfl ?_
              refine aw_imul dX11_cell_93 94 rfl ?_
              refine aw_iadd dX11_cell_94 95 rfl ?_
              refine aw_iload_n (i := 2) dX11_cell_95 96 rfl rfl 3 rfl ?_
              refine aw_iadd dX11_cell_96 97 rfl ?_
              refine aw_iald dX11_cell_97 98 rfl at_93 (al_93 _) (ok_93 (by decide)) (fun h6 => ?_)
              exact aw_conv [] rfl (hj1 (u2.1 93 0 (Int32.toNatClampNeg (((144 * x1) + (48 * (x3 - 3))) + x2))) u2)
            · refine aw_aload_n (i := 0) dX11_cell_70 71 rfl rfl 1 rfl ?_
              refine aw_iload_n (i := 1) dX11_cell_71 72 rfl rfl 2 rfl ?_
              refine aw_iload_n (i := 2) dX11_cell_72 73 rfl rfl 3 rfl ?_
              refine aw_callV (M2 := m_X11_level) (cv := q_cI) dX11_cell_73 76 rfl (k_X11_level l G x1 x2  u2) wd_276 wv_X11_level pk_X11_level rfl rfl ⟨by decide, by decide⟩ ⟨Nat.zero_le _, Nat.zero_le _⟩ at_11 (ok_11 (by decide)) rfl rfl rfl (Nat.le_of_ble_eq_true rfl) (fun x8 u5 => ?_)
              show qAW l G m_X11_cell (q_mq G q_cI) 76 [(4, .int x5), (0, .ref (q_ad G 11 0)), (1, .int x1), (2, .int x2), (3, .int x3)] [.int x8, .ref (q_ad G 11 0)] u5 _
              refine aw_goto dX11_cell_76 98 rfl ?_
              exact aw_conv [] rfl (hj1 x8 u5)
          · refine aw_aload_n (i := 0) dX11_cell_51 52 rfl rfl 1 rfl ?_
            refine gf_X11_32 dX11_cell_52 55 rfl wd_249 (ok_11 (by decide)) ?_
            refine aw_bipush (x := 48) dX11_cell_55 57 rfl rfl ?_
            refine aw_iload_n (i := 1) dX11_cell_57 58 rfl rfl 2 rfl ?_
            refine aw_imul dX11_cell_58 59 rfl ?_
            refine aw_iload_n (i := 2) dX11_cell_59 60 rfl rfl 3 rfl ?_
            refine aw_iadd dX11_cell_60 61 rfl ?_
            refine aw_iald dX11_cell_61 62 rfl at_92 (al_92 _) (ok_92 (by decide)) (fun h7 => ?_)
            refine aw_goto dX11_cell_62 98 rfl ?_
            exact aw_conv [] rfl (hj1 (u2.1 92 0 (Int32.toNatClampNeg ((48 * x1) + x2))) u2)
        · refine aw_aload_n (i := 0) dX11_cell_32 33 rfl rfl 1 rfl ?_
          refine gf_X11_31 dX11_cell_33 36 rfl wd_248 (ok_11 (by decide)) ?_
          refine aw_bipush (x := 48) dX11_cell_36 38 rfl rfl ?_
          refine aw_iload_n (i := 1) dX11_cell_38 39 rfl rfl 2 rfl ?_
          refine aw_imul dX11_cell_39 40 rfl ?_
          refine aw_iload_n (i := 2) dX11_cell_40 41 rfl rfl 3 rfl ?_
          refine aw_iadd dX11_cell_41 42 rfl ?_
          refine aw_iald dX11_cell_42 43 rfl at_91 (al_91 _) (ok_91 (by decide)) (fun h8 => ?_)
          refine aw_goto dX11_cell_43 98 rfl ?_
          exact aw_conv [] rfl (hj1 (u2.1 91 0 (Int32.toNatClampNeg ((48 * x1) + x2))) u2)
    · refine aw_iload (i := 4) dX11_cell_24 26 rfl 0 rfl ?_
      exact aw_iret dX11_cell_26 rfl
  · refine aw_iconst (x := (-1)) dX11_cell_9 10 rfl rfl ?_
    exact aw_iret dX11_cell_10 rfl
theorem dX11_askedFace_0 : decode cX11_askedFace 0 = .ok (.aload_n 0, 1) := by decide +kernel
theorem dX11_askedFace_1 : decode cX11_askedFace 1 = .ok (.iload_n 1, 1) := by decide +kernel
theorem dX11_askedFace_2 : decode cX11_askedFace 2 = .ok (.invokevirtual 237, 3) := by decide +kernel
theorem dX11_askedFace_5 : decode cX11_askedFace 5 = .ok (.istore_n 3, 1) := by decide +kernel
theorem dX11_askedFace_6 : decode cX11_askedFace 6 = .ok (.iload_n 3, 1) := by decide +kernel
theorem dX11_askedFace_7 : decode cX11_askedFace 7 = .ok (.ifCond .ge 7, 3) := by decide +kernel
theorem dX11_askedFace_10 : decode cX11_askedFace 10 = .ok (.iload_n 3, 1) := by decide +kernel
theorem dX11_askedFace_11 : decode cX11_askedFace 11 = .ok (.goto 21, 3) := by decide +kernel
theorem dX11_askedFace_14 : decode cX11_askedFace 14 = .ok (.aload_n 0, 1) := by decide +kernel
theorem dX11_askedFace_15 : decode cX11_askedFace 15 = .ok (.iload_n 1, 1) := by decide +kernel
theorem dX11_askedFace_16 : decode cX11_askedFace 16 = .ok (.iload_n 2, 1) := by decide +kernel
theorem dX11_askedFace_17 : decode cX11_askedFace 17 = .ok (.invokevirtual 246, 3) := by decide +kernel
theorem dX11_askedFace_20 : decode cX11_askedFace 20 = .ok (.ifCond .lt 7, 3) := by decide +kernel
theorem dX11_askedFace_23 : decode cX11_askedFace 23 = .ok (.iconst 0, 1) := by decide +kernel
theorem dX11_askedFace_24 : decode cX11_askedFace 24 = .ok (.goto 8, 3) := by decide +kernel
theorem dX11_askedFace_27 : decode cX11_askedFace 27 = .ok (.aload_n 0, 1) := by decide +kernel
theorem dX11_askedFace_28 : decode cX11_askedFace 28 = .ok (.iconst 2, 1) := by decide +kernel
theorem dX11_askedFace_29 : decode cX11_askedFace 29 = .ok (.invokevirtual 190, 3) := by decide +kernel
theorem dX11_askedFace_32 : decode cX11_askedFace 32 = .ok (.ireturn, 1) := by decide +kernel
noncomputable def f_X11_askedFace (x1 : Int32) (x2 : Int32) (u0 : qM) : Option (Int32 × qM) :=
  q_bd (f_X11_askedFor x1 u0) (fun (x3 : Int32) (u1 : qM) => q_jn (fun (x4 : Int32) (u2 : qM) => some (x4, u2)) (fun j1 => if (0 : Int32) ≤ x3 then q_bd (f_X11_beyond x1 x2 u1) (fun (x5 : Int32) (u3 : qM) => if x5 < 0 then q_bd (f_X11_meets 2 u3) (fun (x6 : Int32) (u4 : qM) => j1 x6 u4) else j1 0 u3) else j1 x3 u1))
set_option maxRecDepth 100000 in
set_option maxHeartbeats 4000000 in
theorem k_X11_askedFace (l : Launch) (G : qG) (x1 : Int32) (x2 : Int32)  (u0 : qM) : qCt l G m_X11_askedFace q_cI [.ref (q_ad G 11 0), .int x1, .int x2] u0 (f_X11_askedFace x1 x2 u0) := by
  refine q_entry pk_X11_askedFace (Nat.le_of_ble_eq_true rfl) ?_
  show qAW l G m_X11_askedFace (q_mq G q_cI) 0 [(0, .ref (q_ad G 11 0)), (1, .int x1), (2, .int x2)] [] u0 (f_X11_askedFace x1 x2 u0)
  unfold f_X11_askedFace
  refine aw_aload_n (i := 0) dX11_askedFace_0 1 rfl rfl 0 rfl ?_
  refine aw_iload_n (i := 1) dX11_askedFace_1 2 rfl rfl 1 rfl ?_
  refine aw_callV (M2 := m_X11_askedFor) (cv := q_cI) dX11_askedFace_2 5 rfl (k_X11_askedFor l G x1  u0) wd_274 wv_X11_askedFor pk_X11_askedFor rfl rfl ⟨by decide, by decide⟩ ⟨Nat.zero_le _, Nat.zero_le _⟩ at_11 (ok_11 (by decide)) rfl rfl rfl (Nat.le_of_ble_eq_true rfl) (fun x3 u1 => ?_)
  show qAW l G m_X11_askedFace (q_mq G q_cI) 5 [(0, .ref (q_ad G 11 0)), (1, .int x1), (2, .int x2)] [.int x3] u1 _
  refine aw_istore_n dX11_askedFace_5 6 rfl rfl [(3, .int x3), (0, .ref (q_ad G 11 0)), (1, .int x1), (2, .int x2)] (by decide) rfl ?_
  refine aw_iload_n (i := 3) dX11_askedFace_6 7 rfl rfl 0 rfl ?_
  refine aw_jn (fun k => ∀ (x4 : Int32) (u2 : qM), qAW l G m_X11_askedFace (q_mq G q_cI) 32 [] [.int x4] u2 (k x4 u2)) ?_ ?_
  · intro x4 u2
    exact aw_iret dX11_askedFace_32 rfl
  · intro j1 hj1
    refine aw_if_ge dX11_askedFace_7 10 rfl 14 rfl (fun h1 => ?_) (fun h1 => ?_)
    · refine aw_aload_n (i := 0) dX11_askedFace_14 15 rfl rfl 1 rfl ?_
      refine aw_iload_n (i := 1) dX11_askedFace_15 16 rfl rfl 2 rfl ?_
      refine aw_iload_n (i := 2) dX11_askedFace_16 17 rfl rfl 3 rfl ?_
      refine aw_callV (M2 := m_X11_beyond) (cv := q_cI) dX11_askedFace_17 20 rfl (k_X11_beyond l G x1 x2  u1) wd_277 wv_X11_beyond pk_X11_beyond rfl rfl ⟨by decide, by decide⟩ ⟨Nat.zero_le _, Nat.zero_le _⟩ at_11 (ok_11 (by decide)) rfl rfl rfl (Nat.le_of_ble_eq_true rfl) (fun x5 u3 => ?_)
      show qAW l G m_X11_askedFace (q_mq G q_cI) 20 [(3, .int x3), (0, .ref (q_ad G 11 0)), (1, .int x1), (2, .int x2)] [.int x5] u3 _
      refine aw_if_lt dX11_askedFace_20 23 rfl 27 rfl (fun h2 => ?_) (fun h2 => ?_)
      · refine aw_aload_n (i := 0) dX11_askedFace_27 28 rfl rfl 1 rfl ?_
        refine aw_iconst (x := 2) dX11_askedFace_28 29 rfl rfl ?_
        refine aw_callV (M2 := m_X11_meets) (cv := q_cI) dX11_askedFace_29 32 rfl (k_X11_meets l G 2  u3) wd_229 wv_X11_meets pk_X11_meets rfl rfl ⟨by decide, by decide⟩ ⟨Nat.zero_le _, Nat.zero_le _⟩ at_11 (ok_11 (by decide)) rfl rfl rfl (Nat.le_of_ble_eq_true rfl) (fun x6 u4 => ?_)
        show qAW l G m_X11_askedFace (q_mq G q_cI) 32 [(3, .int x3), (0, .ref (q_ad G 11 0)), (1, .int x1), (2, .int x2)] [.int x6] u4 _
        exact aw_conv [] rfl (hj1 x6 u4)
      · refine aw_iconst (x := 0) dX11_askedFace_23 24 rfl rfl ?_
        refine aw_goto dX11_askedFace_24 32 rfl ?_
        exact aw_conv [] rfl (hj1 0 u3)
    · refine aw_iload_n (i := 3) dX11_askedFace_10 11 rfl rfl 0 rfl ?_
      refine aw_goto dX11_askedFace_11 32 rfl ?_
      exact aw_conv [] rfl (hj1 x3 u1)
theorem dX11_flow_0 : decode cX11_flow 0 = .ok (.aload_n 0, 1) := by decide +kernel
theorem dX11_flow_1 : decode cX11_flow 1 = .ok (.iload_n 1, 1) := by decide +kernel
theorem dX11_flow_2 : decode cX11_flow 2 = .ok (.iload_n 2, 1) := by decide +kernel
theorem dX11_flow_3 : decode cX11_flow 3 = .ok (.invokevirtual 249, 3) := by decide +kernel
theorem dX11_flow_6 : decode cX11_flow 6 = .ok (.istore_n 3, 1) := by decide +kernel
theorem dX11_flow_7 : decode cX11_flow 7 = .ok (.iload_n 3, 1) := by decide +kernel
theorem dX11_flow_8 : decode cX11_flow 8 = .ok (.ifCond .ge 7, 3) := by decide +kernel
theorem dX11_flow_11 : decode cX11_flow 11 = .ok (.iload_n 3, 1) := by decide +kernel
theorem dX11_flow_12 : decode cX11_flow 12 = .ok (.goto 19, 3) := by decide +kernel
theorem dX11_flow_15 : decode cX11_flow 15 = .ok (.aload_n 0, 1) := by decide +kernel
theorem dX11_flow_16 : decode cX11_flow 16 = .ok (.aload_n 0, 1) := by decide +kernel
theorem dX11_flow_17 : decode cX11_flow 17 = .ok (.getfield 98, 3) := by decide +kernel
theorem dX11_flow_20 : decode cX11_flow 20 = .ok (.bipush 96, 2) := by decide +kernel
theorem dX11_flow_22 : decode cX11_flow 22 = .ok (.iload_n 1, 1) := by decide +kernel
theorem dX11_flow_23 : decode cX11_flow 23 = .ok (.imul, 1) := by decide +kernel
theorem dX11_flow_24 : decode cX11_flow 24 = .ok (.iload_n 2, 1) := by decide +kernel
theorem dX11_flow_25 : decode cX11_flow 25 = .ok (.iadd, 1) := by decide +kernel
theorem dX11_flow_26 : decode cX11_flow 26 = .ok (.iaload, 1) := by decide +kernel
theorem dX11_flow_27 : decode cX11_flow 27 = .ok (.iconst 1, 1) := by decide +kernel
theorem dX11_flow_28 : decode cX11_flow 28 = .ok (.invokevirtual 202, 3) := by decide +kernel
theorem dX11_flow_31 : decode cX11_flow 31 = .ok (.ireturn, 1) := by decide +kernel
noncomputable def f_X11_flow (x1 : Int32) (x2 : Int32) (u0 : qM) : Option (Int32 × qM) :=
  q_bd (f_X11_askedFace x1 x2 u0) (fun (x3 : Int32) (u1 : qM) => q_jn (fun (x4 : Int32) (u2 : qM) => some (x4, u2)) (fun j1 => if (0 : Int32) ≤ x3 then q_ck (q_in ((96 * x1) + x2) 768) (q_bd (f_X11_ask (u1.1 94 0 (Int32.toNatClampNeg ((96 * x1) + x2))) 1 u1) (fun (x5 : Int32) (u3 : qM) => j1 x5 u3)) else j1 x3 u1))
set_option maxRecDepth 100000 in
set_option maxHeartbeats 4000000 in
theorem k_X11_flow (l : Launch) (G : qG) (x1 : Int32) (x2 : Int32)  (u0 : qM) : qCt l G m_X11_flow q_cI [.ref (q_ad G 11 0), .int x1, .int x2] u0 (f_X11_flow x1 x2 u0) := by
  refine q_entry pk_X11_flow (Nat.le_of_ble_eq_true rfl) ?_
  show qAW l G m_X11_flow (q_mq G q_cI) 0 [(0, .ref (q_ad G 11 0)), (1, .int x1), (2, .int x2)] [] u0 (f_X11_flow x1 x2 u0)
  unfold f_X11_flow
  refine aw_aload_n (i := 0) dX11_flow_0 1 rfl rfl 0 rfl ?_
  refine aw_iload_n (i := 1) dX11_flow_1 2 rfl rfl 1 rfl ?_
  refine aw_iload_n (i := 2) dX11_flow_2 3 rfl rfl 2 rfl ?_
  refine aw_callV (M2 := m_X11_askedFace) (cv := q_cI) dX11_flow_3 6 rfl (k_X11_askedFace l G x1 x2  u0) wd_278 wv_X11_askedFace pk_X11_askedFace rfl rfl ⟨by decide, by decide⟩ ⟨Nat.zero_le _, Nat.zero_le _⟩ at_11 (ok_11 (by decide)) rfl rfl rfl (Nat.le_of_ble_eq_true rfl) (fun x3 u1 => ?_)
  show qAW l G m_X11_flow (q_mq G q_cI) 6 [(0, .ref (q_ad G 11 0)), (1, .int x1), (2, .int x2)] [.int x3] u1 _
  refine aw_istore_n dX11_flow_6 7 rfl rfl [(3, .int x3), (0, .ref (q_ad G 11 0)), (1, .int x1), (2, .int x2)] (by decide) rfl ?_
  refine aw_iload_n (i := 3) dX11_flow_7 8 rfl rfl 0 rfl ?_
  refine aw_jn (fun k => ∀ (x4 : Int32) (u2 : qM), qAW l G m_X11_flow (q_mq G q_cI) 31 [] [.int x4] u2 (k x4 u2)) ?_ ?_
  · intro x4 u2
    exact aw_iret dX11_flow_31 rfl
  · intro j1 hj1
    refine aw_if_ge dX11_flow_8 11 rfl 15 rfl (fun h1 => ?_) (fun h1 => ?_)
    · refine aw_aload_n (i := 0) dX11_flow_15 16 rfl rfl 1 rfl ?_
      refine aw_aload_n (i := 0) dX11_flow_16 17 rfl rfl 1 rfl ?_
      refine gf_X11_34 dX11_flow_17 20 rfl wd_270 (ok_11 (by decide)) ?_
      refine aw_bipush (x := 96) dX11_flow_20 22 rfl rfl ?_
      refine aw_iload_n (i := 1) dX11_flow_22 23 rfl rfl 2 rfl ?_
      refine aw_imul dX11_flow_23 24 rfl ?_
      refine aw_iload_n (i := 2) dX11_flow_24 25 rfl rfl 3 rfl ?_
      refine aw_iadd dX11_flow_25 26 rfl ?_
      refine aw_iald dX11_flow_26 27 rfl at_94 (al_94 _) (ok_94 (by decide)) (fun h2 => ?_)
      refine aw_iconst (x := 1) dX11_flow_27 28 rfl rfl ?_
      refine aw_callV (M2 := m_X11_ask) (cv := q_cI) dX11_flow_28 31 rfl (k_X11_ask l G (u1.1 94 0 (Int32.toNatClampNeg ((96 * x1) + x2))) 1  u1) wd_236 wv_X11_ask pk_X11_ask rfl rfl ⟨by decide, by decide⟩ ⟨Nat.zero_le _, Nat.zero_le _⟩ at_11 (ok_11 (by decide)) rfl rfl rfl (Nat.le_of_ble_eq_true rfl) (fun x5 u3 => ?_)
      show qAW l G m_X11_flow (q_mq G q_cI) 31 [(3, .int x3), (0, .ref (q_ad G 11 0)), (1, .int x1), (2, .int x2)] [.int x5] u3 _
      exact aw_conv [] rfl (hj1 x5 u3)
    · refine aw_iload_n (i := 3) dX11_flow_11 12 rfl rfl 0 rfl ?_
      refine aw_goto dX11_flow_12 31 rfl ?_
      exact aw_conv [] rfl (hj1 x3 u1)
theorem dX11_gate_0 : decode cX11_gate 0 = .ok (.aload_n 0, 1) := by decide +kernel
theorem dX11_gate_1 : decode cX11_gate 1 = .ok (.iload_n 1, 1) := by decide +kernel
theorem dX11_gate_2 : decode cX11_gate 2 = .ok (.iload_n 2, 1) := by decide +kernel
theorem dX11_gate_3 : decode cX11_gate 3 = .ok (.invokevirtual 249, 3) := by decide +kernel
theorem dX11_gate_6 : decode cX11_gate 6 = .ok (.istore 4, 2) := by decide +kernel
theorem dX11_gate_8 : decode cX11_gate 8 = .ok (.iload 4, 2) := by decide +kernel
theorem dX11_gate_10 : decode cX11_gate 10 = .ok (.ifCond .ge 6, 3) := by decide +kernel
theorem dX11_gate_13 : decode cX11_gate 13 = .ok (.iload 4, 2) := by decide +kernel
theorem dX11_gate_15 : decode cX11_gate 15 = .ok (.ireturn, 1) := by decide +kernel
theorem dX11_gate_16 : decode cX11_gate 16 = .ok (.aload_n 0, 1) := by decide +kernel
theorem dX11_gate_17 : decode cX11_gate 17 = .ok (.getfield 101, 3) := by decide +kernel
theorem dX11_gate_20 : decode cX11_gate 20 = .ok (.bipush 96, 2) := by decide +kernel
theorem dX11_gate_22 : decode cX11_gate 22 = .ok (.iload_n 1, 1) := by decide +kernel
theorem dX11_gate_23 : decode cX11_gate 23 = .ok (.imul, 1) := by decide +kernel
theorem dX11_gate_24 : decode cX11_gate 24 = .ok (.iload_n 2, 1) := by decide +kernel
theorem dX11_gate_25 : decode cX11_gate 25 = .ok (.iadd, 1) := by decide +kernel
theorem dX11_gate_26 : decode cX11_gate 26 = .ok (.baload, 1) := by decide +kernel
theorem dX11_gate_27 : decode cX11_gate 27 = .ok (.ifCond .eq 7, 3) := by decide +kernel
theorem dX11_gate_30 : decode cX11_gate 30 = .ok (.iconst 1, 1) := by decide +kernel
theorem dX11_gate_31 : decode cX11_gate 31 = .ok (.goto 4, 3) := by decide +kernel
theorem dX11_gate_34 : decode cX11_gate 34 = .ok (.iconst 0, 1) := by decide +kernel
theorem dX11_gate_35 : decode cX11_gate 35 = .ok (.istore 5, 2) := by decide +kernel
theorem dX11_gate_37 : decode cX11_gate 37 = .ok (.aload_n 0, 1) := by decide +kernel
theorem dX11_gate_38 : decode cX11_gate 38 = .ok (.getfield 101, 3) := by decide +kernel
theorem dX11_gate_41 : decode cX11_gate 41 = .ok (.bipush 96, 2) := by decide +kernel
theorem dX11_gate_43 : decode cX11_gate 43 = .ok (.iload_n 1, 1) := by decide +kernel
theorem dX11_gate_44 : decode cX11_gate 44 = .ok (.imul, 1) := by decide +kernel
theorem dX11_gate_45 : decode cX11_gate 45 = .ok (.iload_n 2, 1) := by decide +kernel
theorem dX11_gate_46 : decode cX11_gate 46 = .ok (.iadd, 1) := by decide +kernel
theorem dX11_gate_47 : decode cX11_gate 47 = .ok (.iload_n 3, 1) := by decide +kernel
theorem dX11_gate_48 : decode cX11_gate 48 = .ok (.bastore, 1) := by decide +kernel
theorem dX11_gate_49 : decode cX11_gate 49 = .ok (.iload 5, 2) := by decide +kernel
theorem dX11_gate_51 : decode cX11_gate 51 = .ok (.ireturn, 1) := by decide +kernel
noncomputable def f_X11_gate (x1 : Int32) (x2 : Int32) (x3 : Int32) (u0 : qM) : Option (Int32 × qM) :=
  q_bd (f_X11_askedFace x1 x2 u0) (fun (x4 : Int32) (u1 : qM) => if (0 : Int32) ≤ x4 then q_ck (q_in ((96 * x1) + x2) 768) (q_jn (fun (x5 : Int32) (u2 : qM) => q_ck (q_in ((96 * x1) + x2) 768) (q_lt (q_si u2 95 0 (Int32.toNatClampNeg ((96 * x1) + x2)) (vp_nar .boolean x3)) (fun (u3 : qM) => some (x5, u3)))) (fun j1 => if (u1.1 95 0 (Int32.toNatClampNeg ((96 * x1) + x2))) = 0 then j1 0 u1 else j1 1 u1)) else some (x4, u1))
set_option maxRecDepth 100000 in
set_option maxHeartbeats 4000000 in
theorem k_X11_gate (l : Launch) (G : qG) (x1 : Int32) (x2 : Int32) (x3 : Int32)  (u0 : qM) : qCt l G m_X11_gate q_cI [.ref (q_ad G 11 0), .int x1, .int x2, .int x3] u0 (f_X11_gate x1 x2 x3 u0) := by
  refine q_entry pk_X11_gate (Nat.le_of_ble_eq_true rfl) ?_
  show qAW l G m_X11_gate (q_mq G q_cI) 0 [(0, .ref (q_ad G 11 0)), (1, .int x1), (2, .int x2), (3, .int x3)] [] u0 (f_X11_gate x1 x2 x3 u0)
  unfold f_X11_gate
  refine aw_aload_n (i := 0) dX11_gate_0 1 rfl rfl 0 rfl ?_
  refine aw_iload_n (i := 1) dX11_gate_1 2 rfl rfl 1 rfl ?_
  refine aw_iload_n (i := 2) dX11_gate_2 3 rfl rfl 2 rfl ?_
  refine aw_callV (M2 := m_X11_askedFace) (cv := q_cI) dX11_gate_3 6 rfl (k_X11_askedFace l G x1 x2  u0) wd_278 wv_X11_askedFace pk_X11_askedFace rfl rfl ⟨by decide, by decide⟩ ⟨Nat.zero_le _, Nat.zero_le _⟩ at_11 (ok_11 (by decide)) rfl rfl rfl (Nat.le_of_ble_eq_true rfl) (fun x4 u1 => ?_)
  show qAW l G m_X11_gate (q_mq G q_cI) 6 [(0, .ref (q_ad G 11 0)), (1, .int x1), (2, .int x2), (3, .int x3)] [.int x4] u1 _
  refine aw_istore dX11_gate_6 8 rfl [(4, .int x4), (0, .ref (q_ad G 11 0)), (1, .int x1), (2, .int x2), (3, .int x3)] (by decide) rfl ?_
  refine aw_iload (i := 4) dX11_gate_8 10 rfl 0 rfl ?_
  refine aw_if_ge dX11_gate_10 13 rfl 16 rfl (fun h1 => ?_) (fun h1 => ?_)
  · refine aw_aload_n (i := 0) dX11_gate_16 17 rfl rfl 1 rfl ?_
    refine gf_X11_35 dX11_gate_17 20 rfl wd_271 (ok_11 (by decide)) ?_
    refine aw_bipush (x := 96) dX11_gate_20 22 rfl rfl ?_
    refine aw_iload_n (i := 1) dX11_gate_22 23 rfl rfl 2 rfl ?_
    refine aw_imul dX11_gate_23 24 rfl ?_
    refine aw_iload_n (i := 2) dX11_gate_24 25 rfl rfl 3 rfl ?_
    refine aw_iadd dX11_gate_25 26 rfl ?_
    refine aw_zald dX11_gate_26 27 rfl at_95 (al_95 _) (ok_95 (by decide)) (fun h2 => ?_)
    refine aw_jn (fun k => ∀ (x5 : Int32) (u2 : qM), qAW l G m_X11_gate (q_mq G q_cI) 35 [(0, .ref (q_ad G 11 0)), (1, .int x1), (2, .int x2), (3, .int x3)] [.int x5] u2 (k x5 u2)) ?_ ?_
    · intro x5 u2
      refine aw_istore dX11_gate_35 37 rfl [(5, .int x5), (0, .ref (q_ad G 11 0)), (1, .int x1), (2, .int x2), (3, .int x3)] (by decide) rfl ?_
      refine aw_aload_n (i := 0) dX11_gate_37 38 rfl rfl 1 rfl ?_
      refine gf_X11_35 dX11_gate_38 41 rfl wd_271 (ok_11 (by decide)) ?_
      refine aw_bipush (x := 96) dX11_gate_41 43 rfl rfl ?_
      refine aw_iload_n (i := 1) dX11_gate_43 44 rfl rfl 2 rfl ?_
      refine aw_imul dX11_gate_44 45 rfl ?_
      refine aw_iload_n (i := 2) dX11_gate_45 46 rfl rfl 3 rfl ?_
      refine aw_iadd dX11_gate_46 47 rfl ?_
      refine aw_iload_n (i := 3) dX11_gate_47 48 rfl rfl 4 rfl ?_
      refine aw_zast dX11_gate_48 49 rfl at_95 (al_95 _) (ok_95 (by decide)) (fun h4 => ?_)
      refine aw_ltm (fun u3 => ?_)
      refine aw_iload (i := 5) dX11_gate_49 51 rfl 0 rfl ?_
      exact aw_iret dX11_gate_51 rfl
    · intro j1 hj1
      refine aw_if_eq dX11_gate_27 30 rfl 34 rfl (fun h3 => ?_) (fun h3 => ?_)
      · refine aw_iconst (x := 0) dX11_gate_34 35 rfl rfl ?_
        exact aw_conv [1, 2, 3, 4] rfl (hj1 0 u1)
      · refine aw_iconst (x := 1) dX11_gate_30 31 rfl rfl ?_
        refine aw_goto dX11_gate_31 35 rfl ?_
        exact aw_conv [1, 2, 3, 4] rfl (hj1 1 u1)
  · refine aw_iload (i := 4) dX11_gate_13 15 rfl 0 rfl ?_
    exact aw_iret dX11_gate_15 rfl
