theorem Gs_L {D : Nat → Bool} {σ κ : Nat → Nat} {nn : Int32 → Int32} {f : Nat → Int32} {c L s : Nat} (hL : ∀ s, D s = true → s < L ∧ σ s < L) : (if s < L then Gs D σ κ nn f c s else 0) = Gs D σ κ nn (fun s => if s < L then f s else 0) c s := by
  unfold Gs
  by_cases z : D s = true ∧ (κ s < c ∨ κ (σ s) < c)
  · obtain ⟨l1, l2⟩ := hL s z.1
    rw [if_pos z, if_pos z, if_pos l1]
    dsimp only
    rw [if_pos l2]
  · rw [if_neg z, if_neg z]
theorem Gs_all {Q : Int32 → Prop} {D : Nat → Bool} {σ κ : Nat → Nat} {nn : Int32 → Int32} {f : Nat → Int32} {c s : Nat} (h : ∀ s, Q (f s)) (hn : ∀ x, Q x → Q (nn x)) : Q (Gs D σ κ nn f c s) := by
  unfold Gs
  by_cases z : D s = true ∧ (κ s < c ∨ κ (σ s) < c)
  · rw [if_pos z]; exact hn _ (h _)
  · rw [if_neg z]; exact h _
theorem z_neg {x : Int32} (h : -2147483647 ≤ x.toInt) : (-x).toInt = -x.toInt := by
  have h2 : x.toInt < 2147483648 := by have := x.toInt_lt; omega
  rw [show -x = nI 0 - x from (Int32.zero_sub _).symm, z_sub (by rw [nI0]; omega) (by rw [nI0]; omega), nI0]
  omega
theorem WF_mir {n : Nat} {v : qB} (h : WF n v) : WF n (mir v) := by
  obtain ⟨⟨k, wd, hg, st, p, d, rc, pc, a0, a1, a2, a3, a4, a5, a6, a7, a8, a9, a10, a11, a12, a13, a14, a15, a16, a17, a18, a19, a20, a21, a22⟩, ⟨b1, b2, b3, b4, b5⟩, c1, c2⟩ := h
  have hn : nN v = wd * hg := (GD.nn a2 a5 a4 a7).1
  have hw : nW v = wd := (GD.nn a2 a5 a4 a7).2.1
  refine ⟨⟨k, wd, hg, st, p, d, rc, pc, a0, a1, a2, a3, a4, a5, a6, a7, a8, a9, a10, a11, a12, a13, a14, a15, a16, a17, a18, a19, a20, ?_, a22⟩, ⟨fun s => ?_, fun s => ?_, fun s => ?_, fun s => ?_, b5⟩, fun s hs => ?_, c2⟩
  · show -50 ≤ (-(v 0 10)).toInt ∧ (-(v 0 10)).toInt ≤ 50
    rw [z_neg (by omega)]
    omega
  · exact Gs_all (Q := fun x => -1000 ≤ x.toInt ∧ x.toInt ≤ 1000) b1 (fun _ q => q)
  · exact Gs_all (Q := fun x => 0 ≤ x.toInt ∧ x.toInt ≤ 100000) b2 (fun _ q => q)
  · show -100000 ≤ (if s % 2 = 1 then _ else _ : Int32).toInt ∧ (if s % 2 = 1 then _ else _ : Int32).toInt ≤ 100000
    by_cases z : s % 2 = 1
    · rw [if_pos z]
      exact Gs_all (Q := fun x => -100000 ≤ x.toInt ∧ x.toInt ≤ 100000) b3 (fun _ q => q)
    · rw [if_neg z]
      exact Gs_all (Q := fun x => -100000 ≤ x.toInt ∧ x.toInt ≤ 100000) b3 (fun x q => by rw [z_neg (by omega)]; omega)
  · show (if s % 2 = 1 then _ else _ : Int32) = 0 ∨ (if s % 2 = 1 then _ else _ : Int32) = 1
    by_cases z : s % 2 = 1
    · rw [if_pos z]
      exact Gs_all (Q := fun x => x = 0 ∨ x = 1) b4 (fun _ q => q)
    · rw [if_neg z]
      exact Gs_all (Q := fun x => x = 0 ∨ x = 1) b4 (fun _ q => q)
  · obtain ⟨c, hc, e⟩ := c1 s hs
    have hc' := hc
    rw [hn] at hc'
    refine ⟨opw wd c, ?_, ?_⟩
    · show opw wd c < nN v
      rw [hn]
      exact (opw_f a3 a4 hc').1
    · show (if s < rcN v then nI (opw (nW v) (v 7 s).toNatClampNeg) else v 7 s) = _
      rw [if_pos (show s < rcN v from hs), e, nI_clamp (by have := Nat.mul_le_mul a4 a7; omega), hw]
theorem lp_t81 {o w rc : Nat} {u : qM} {e : qM → Option (Unit × qM)} {P : Unit → qM → Prop} (h1 : 2 ≤ w) (h2 : w ≤ 8) (e12 : u.1 2 o 12 = nI w) (erc : u.1 4 o 2 = nI rc) (hrc : rc ≤ 4) (hcs : ∀ k, k < rc → ∃ c, c < 48 ∧ u.1 43 o k = nI c) (K : ∀ u', (∀ a i s, ¬ (a = 43 ∧ i = o) → u'.1 a i s = u.1 a i s) → u'.2 = u.2 → (∀ s, u'.1 43 o s = if s < rc then nI (opw w (u.1 43 o s).toNatClampNeg) else u.1 43 o s) → Ev (e u') P) : Ev (L_X0_turn_81 o q_fu (nI 0) u e) P := by
  refine lpc (fun f x t => L_X0_turn_81 o f x t e) (fun i t => (∀ a i s, ¬ (a = 43 ∧ i = o) → t.1 a i s = u.1 a i s) ∧ t.2 = u.2 ∧ (∀ s, t.1 43 o s = if s < i then nI (opw w (u.1 43 o s).toNatClampNeg) else u.1 43 o s)) rc (by omega) u ⟨fun _ _ _ _ => rfl, rfl, fun s => (if_neg (Nat.not_lt_zero s)).symm⟩ ?_ ?_
  · rintro f i t hi ⟨a1, a2, a3⟩ K2
    obtain ⟨c, hc, ec⟩ := hcs i hi
    have q1 : t.1 4 o 2 = nI rc := (a1 4 o 2 (by omega)).trans erc
    have q2 : t.1 43 o i = nI c := by rw [a3, if_neg (by omega), ec]
    have q3 : t.1 2 o 12 = nI w := (a1 2 o 12 (by omega)).trans e12
    show Ev (L_X0_turn_81 o (f + 1) (nI i) t e) P
    simp (disch := first | omega | decide) only [Nat.reduceAdd, Nat.reduceMul, ↓ev_bd, ↓ev_ck, ↓ev_if, ↓ev_lt, ↓ev_jn, ↓ev_so, ↓reduceIte, ↓ev_within, ↓ev_isBoard, ↓ev_isNumber, ↓ev_foundN, ↓ev_found_1, ↓ev_found_2, ↓ev_found_3, ↓ev_found_4, ↓ev_found_5, true_and, and_true, and_self, eq_self, not_true_eq_false, not_false_eq_true, ite_true, ite_false, true_or, or_true, false_or, or_false, false_and, and_false, ← zi_ni_0, ← zi_ni_1, ← zi_ni_2, ← zi_ni_3, ← zi_ni_4, ← zi_ni_5, ← zi_ni_6, ← zi_ni_7, ← zi_ni_8, ← zi_ni_9, ← zi_ni_10, ← zi_ni_12, ← zi_ni_24, ← zi_ni_25, ← zi_ni_40, ← zi_ni_45, ← zi_ni_47, ← zi_ni_48, ← zi_ni_95, ← zi_ni_96, ← zi_ni_97, ← zi_ni_100, ← zi_ni_144, ← zi_ni_288, nI_ltI, nI_leI, nI_eqI, nlt_T, nlt_F, nle_T, nle_F, neq_T, neq_F, nI_add, pk_mul, nI_clamp, q_inT, ng_lt, ng_tl, ng_le, ng_el, ng_eq, ng_qe, q_b0, q_b1, nar_0, nar_1, b01, b01', q_bn0, q_bn1, nar_n0, nar_n1, si_k, si_i, si_s, si_e, si_2, sl_1, sl_22, sl_k, sl_i, sl_s, sl_e, sp_1, sp_21, sp_22, sc_k, sc_i, sc_e, sc_2, mF_k, mF_2, mF_0, ↓eu_L_X0_turn_81, q1, q2]
    refine ev_opp h1 h2 hc q3 ?_
    try simp (disch := first | omega | decide) only [Nat.reduceAdd, Nat.reduceMul, ↓ev_bd, ↓ev_ck, ↓ev_if, ↓ev_lt, ↓ev_jn, ↓ev_so, ↓reduceIte, ↓ev_within, ↓ev_isBoard, ↓ev_isNumber, ↓ev_foundN, ↓ev_found_1, ↓ev_found_2, ↓ev_found_3, ↓ev_found_4, ↓ev_found_5, true_and, and_true, and_self, eq_self, not_true_eq_false, not_false_eq_true, ite_true, ite_false, true_or, or_true, false_or, or_false, false_and, and_false, ← zi_ni_0, ← zi_ni_1, ← zi_ni_2, ← zi_ni_3, ← zi_ni_4, ← zi_ni_5, ← zi_ni_6, ← zi_ni_7, ← zi_ni_8, ← zi_ni_9, ← zi_ni_10, ← zi_ni_12, ← zi_ni_24, ← zi_ni_25, ← zi_ni_40, ← zi_ni_45, ← zi_ni_47, ← zi_ni_48, ← zi_ni_95, ← zi_ni_96, ← zi_ni_97, ← zi_ni_100, ← zi_ni_144, ← zi_ni_288, nI_ltI, nI_leI, nI_eqI, nlt_T, nlt_F, nle_T, nle_F, neq_T, neq_F, nI_add, pk_mul, nI_clamp, q_inT, ng_lt, ng_tl, ng_le, ng_el, ng_eq, ng_qe, q_b0, q_b1, nar_0, nar_1, b01, b01', q_bn0, q_bn1, nar_n0, nar_n1, si_k, si_i, si_s, si_e, si_2, sl_1, sl_22, sl_k, sl_i, sl_s, sl_e, sp_1, sp_21, sp_22, sc_k, sc_i, sc_e, sc_2, mF_k, mF_2, mF_0]
    refine K2 _ ⟨fun a i' s q => ?_, a2, fun s => ?_⟩
    · rw [si_n (by omega)]
      exact a1 a i' s q
    · rw [si_c]
      by_cases z : s = i
      · rw [if_pos z, if_pos (by omega), z, ec, nI_clamp (by omega)]
      · rw [if_neg z, a3]
        by_cases z2 : s < i
        · rw [if_pos z2, if_pos (by omega)]
        · rw [if_neg z2, if_neg (by omega)]
  · rintro f t ⟨a1, a2, a3⟩
    have q1 : t.1 4 o 2 = nI rc := (a1 4 o 2 (by omega)).trans erc
    show Ev (L_X0_turn_81 o (f + 1) (nI rc) t e) P
    simp (disch := first | omega | decide) only [Nat.reduceAdd, Nat.reduceMul, ↓ev_bd, ↓ev_ck, ↓ev_if, ↓ev_lt, ↓ev_jn, ↓ev_so, ↓reduceIte, ↓ev_within, ↓ev_isBoard, ↓ev_isNumber, ↓ev_foundN, ↓ev_found_1, ↓ev_found_2, ↓ev_found_3, ↓ev_found_4, ↓ev_found_5, true_and, and_true, and_self, eq_self, not_true_eq_false, not_false_eq_true, ite_true, ite_false, true_or, or_true, false_or, or_false, false_and, and_false, ← zi_ni_0, ← zi_ni_1, ← zi_ni_2, ← zi_ni_3, ← zi_ni_4, ← zi_ni_5, ← zi_ni_6, ← zi_ni_7, ← zi_ni_8, ← zi_ni_9, ← zi_ni_10, ← zi_ni_12, ← zi_ni_24, ← zi_ni_25, ← zi_ni_40, ← zi_ni_45, ← zi_ni_47, ← zi_ni_48, ← zi_ni_95, ← zi_ni_96, ← zi_ni_97, ← zi_ni_100, ← zi_ni_144, ← zi_ni_288, nI_ltI, nI_leI, nI_eqI, nlt_T, nlt_F, nle_T, nle_F, neq_T, neq_F, nI_add, pk_mul, nI_clamp, q_inT, ng_lt, ng_tl, ng_le, ng_el, ng_eq, ng_qe, q_b0, q_b1, nar_0, nar_1, b01, b01', q_bn0, q_bn1, nar_n0, nar_n1, si_k, si_i, si_s, si_e, si_2, sl_1, sl_22, sl_k, sl_i, sl_s, sl_e, sp_1, sp_21, sp_22, sc_k, sc_i, sc_e, sc_2, mF_k, mF_2, mF_0, ↓eu_L_X0_turn_81, q1]
    exact K t a1 a2 a3
theorem ev_turn {o n w h : Nat} {u : qM} {P : Unit → qM → Prop} (hd : DW (cB u o) w h) (hw : WF n (cB u o)) (K : ∀ u', (∀ a i s, ¬ (i = o ∧ ((37 ≤ a ∧ a ≤ 41) ∨ (a = 3 ∧ s = 2) ∨ a = 43)) → u'.1 a i s = u.1 a i s) → u'.2 = u.2 → cB u' o = mir (cB u o) → P () u') : Ev (f_X0_turn o u) P := by
  obtain ⟨d1, d2, h1, h2, h3, h4, d7, d8, d9, hN⟩ := id hd
  have h5 : ∀ s, s < 96 → u.1 41 o s = 0 ∨ u.1 41 o s = 1 := fun s hs => by
    have := hw.2.1.2.2.2.1 s
    rwa [cR_5 hs] at this
  obtain ⟨rc, erc, hrc4⟩ : ∃ rc, u.1 4 o 2 = nI rc ∧ rc ≤ 4 := by
    obtain ⟨⟨k, wd, hg, st, p, d, rc, pc, a0, a1, a2, a3, a4, a5, a6, a7, a8, a9, a10, a11, a12, a13, a14, a15, a16, a17, -⟩, -⟩ := hw
    exact ⟨rc, a16, a17⟩
  have hrc : rcN (cB u o) = rc := by
    show (u.1 4 o 2).toNatClampNeg = rc
    rw [erc]; exact nI_clamp (by omega)
  have hcs : ∀ k, k < rc → ∃ c, c < 48 ∧ u.1 43 o k = nI c := fun k hk => by
    obtain ⟨c, hc, e⟩ := hw.2.2.1 k (by rw [show (cB u o 0 12).toNatClampNeg = rc from hrc]; exact hk)
    rw [d9] at hc
    rw [cR_7 (by omega)] at e
    exact ⟨c, by omega, e⟩
  refine eu_X0_turn.mpr ?_
  refine lp_turn hd h5 (fun u1 hT => ?_)
  obtain ⟨a1, a2, a3, a4, a5, a6, a7, a8, a9⟩ := hT
  refine ev_lt.mpr ?_
  refine lp_t81 (w := w) (rc := rc) h1 h2 ((a1 2 o 12 (by omega)).trans d1) ((a1 4 o 2 (by omega)).trans erc) hrc4 (fun k hk => ?_) (fun u3 b1 b2 b3 => ?_)
  · obtain ⟨c, hc, e⟩ := hcs k hk
    exact ⟨c, hc, (a1 43 o k (by omega)).trans e⟩
  have g : ∀ a i s, ¬ (i = o ∧ ((37 ≤ a ∧ a ≤ 41) ∨ (a = 3 ∧ s = 2) ∨ a = 43)) → u3.1 a i s = u.1 a i s := fun a i s q => by
    rw [b1 a i s (by omega), si_n (by omega)]
    exact a1 a i s (by omega)
  have g10 : u3.1 3 o 2 = -(u.1 3 o 2) := by
    rw [b1 3 o 2 (by omega), si_e, a1 3 o 2 (by omega)]
  have t1 : ∀ s, u3.1 37 o s = Gs (D1 (w * h)) (opw w) id id (u.1 37 o) (w * h) s := fun s => by rw [b1 37 o s (by omega), si_n (by omega)]; exact a3 s
  have t2 : ∀ s, u3.1 38 o s = Gs (D1 (w * h)) (opw w) id id (u.1 38 o) (w * h) s := fun s => by rw [b1 38 o s (by omega), si_n (by omega)]; exact a4 s
  have t3 : ∀ s, u3.1 39 o s = Gs (D3 (w * h)) (s3 w) k3 id (u.1 39 o) (3 * (w * h)) s := fun s => by rw [b1 39 o s (by omega), si_n (by omega)]; exact a5 s
  have t4 : ∀ s, s % 2 = 1 → u3.1 40 o s = Gs (Do (w * h)) (so w) hf2 id (u.1 40 o) (w * h) s := fun s hs => by rw [b1 40 o s (by omega), si_n (by omega)]; exact a6 s hs
  have t5 : ∀ s, s % 2 = 0 → u3.1 40 o s = Gs (De w (w * h)) (se w) hf2 (fun x => -x) (u.1 40 o) (w * h) s := fun s hs => by rw [b1 40 o s (by omega), si_n (by omega)]; exact a7 s hs
  have t6 : ∀ s, s % 2 = 1 → u3.1 41 o s = Gs (Do (w * h)) (so w) hf2 id (u.1 41 o) (w * h) s := fun s hs => by rw [b1 41 o s (by omega), si_n (by omega)]; exact a8 s hs
  have t7 : ∀ s, s % 2 = 0 → u3.1 41 o s = Gs (De w (w * h)) (se w) hf2 id (u.1 41 o) (w * h) s := fun s hs => by rw [b1 41 o s (by omega), si_n (by omega)]; exact a9 s hs
  have t8 : ∀ s, u3.1 43 o s = if s < rc then nI (opw w (u.1 43 o s).toNatClampNeg) else u.1 43 o s := fun s => by
    rw [b3, si_n (by omega), a1 43 o s (by omega)]
  refine ev_so.mpr (K u3 g (b2.trans a2) ?_)
  funext t s
  rcases (show t = 0 ∨ t = 1 ∨ t = 2 ∨ t = 3 ∨ t = 4 ∨ t = 5 ∨ t = 6 ∨ t = 7 ∨ t = 8 ∨ 9 ≤ t by omega) with rfl | rfl | rfl | rfl | rfl | rfl | rfl | rfl | rfl | ht
  · rcases (show s = 0 ∨ s = 1 ∨ s = 2 ∨ s = 3 ∨ s = 4 ∨ s = 5 ∨ s = 6 ∨ s = 7 ∨ s = 8 ∨ s = 9 ∨ s = 10 ∨ s = 11 ∨ s = 12 ∨ s = 13 ∨ 14 ≤ s by omega) with rfl | rfl | rfl | rfl | rfl | rfl | rfl | rfl | rfl | rfl | rfl | rfl | rfl | rfl | hs
    · exact g 2 o 11 (by omega)
    · exact g 2 o 12 (by omega)
    · exact g 2 o 13 (by omega)
    · exact g 2 o 14 (by omega)
    · exact g 2 o 15 (by omega)
    · exact g 2 o 16 (by omega)
    · exact g 2 o 17 (by omega)
    · exact g 2 o 18 (by omega)
    · exact g 3 o 0 (by omega)
    · exact g 3 o 1 (by omega)
    · exact g10
    · exact g 3 o 3 (by omega)
    · exact g 4 o 2 (by omega)
    · exact g 2 o 9 (by omega)
    · obtain ⟨z, rfl⟩ : ∃ z, s = z + 14 := ⟨s - 14, by omega⟩
      rfl
  · show (if s < 48 then u3.1 37 o s else 0) = Gs (D1 (nN (cB u o))) (opw (nW (cB u o))) id id (fun s => if s < 48 then u.1 37 o s else 0) (nN (cB u o)) s
    rw [t1 s, d9, d7]
    exact Gs_L (fun s q => ⟨by have := of_decide_eq_true q; omega, by have := of_decide_eq_true (iv1 h1 h2 s q).1; omega⟩)
  · show (if s < 48 then u3.1 38 o s else 0) = Gs (D1 (nN (cB u o))) (opw (nW (cB u o))) id id (fun s => if s < 48 then u.1 38 o s else 0) (nN (cB u o)) s
    rw [t2 s, d9, d7]
    exact Gs_L (fun s q => ⟨by have := of_decide_eq_true q; omega, by have := of_decide_eq_true (iv1 h1 h2 s q).1; omega⟩)
  · show (if s < 144 then u3.1 39 o s else 0) = Gs (D3 (nN (cB u o))) (s3 (nW (cB u o))) k3 id (fun s => if s < 144 then u.1 39 o s else 0) (3 * nN (cB u o)) s
    rw [t3 s, d9, d7]
    exact Gs_L (fun s q => ⟨(of_decide_eq_true q).1, (of_decide_eq_true (iv3 h1 h2 hN s q).1).1⟩)
  · show (if s < 96 then u3.1 40 o s else 0) = if s % 2 = 1 then Gs (Do (nN (cB u o))) (so (nW (cB u o))) hf2 id (fun s => if s < 96 then u.1 40 o s else 0) (nN (cB u o)) s else Gs (De (nW (cB u o)) (nN (cB u o))) (se (nW (cB u o))) hf2 (fun x => -x) (fun s => if s < 96 then u.1 40 o s else 0) (nN (cB u o)) s
    rw [d9, d7]
    by_cases z : s % 2 = 1
    · rw [if_pos z, t4 s z]
      exact Gs_L (fun s q => ⟨by have := (of_decide_eq_true q).2; omega, by have := (of_decide_eq_true (ivo h1 h2 s q).1).2; omega⟩)
    · rw [if_neg z, t5 s (by omega)]
      exact Gs_L (fun s q => ⟨by have := (of_decide_eq_true q).2.1; omega, by have := (of_decide_eq_true (ive h1 h2 s q).1).2.1; omega⟩)
  · show (if s < 96 then u3.1 41 o s else 0) = if s % 2 = 1 then Gs (Do (nN (cB u o))) (so (nW (cB u o))) hf2 id (fun s => if s < 96 then u.1 41 o s else 0) (nN (cB u o)) s else Gs (De (nW (cB u o)) (nN (cB u o))) (se (nW (cB u o))) hf2 id (fun s => if s < 96 then u.1 41 o s else 0) (nN (cB u o)) s
    rw [d9, d7]
    by_cases z : s % 2 = 1
    · rw [if_pos z, t6 s z]
      exact Gs_L (fun s q => ⟨by have := (of_decide_eq_true q).2; omega, by have := (of_decide_eq_true (ivo h1 h2 s q).1).2; omega⟩)
    · rw [if_neg z, t7 s (by omega)]
      exact Gs_L (fun s q => ⟨by have := (of_decide_eq_true q).2.1; omega, by have := (of_decide_eq_true (ive h1 h2 s q).1).2.1; omega⟩)
  · show (if s < 4 then u3.1 42 o s else 0) = (if s < 4 then u.1 42 o s else 0)
    rw [g 42 o s (by omega)]
  · show (if s < 4 then u3.1 43 o s else 0) = if s < rcN (cB u o) then nI (opw (nW (cB u o)) (cB u o 7 s).toNatClampNeg) else cB u o 7 s
    rw [t8 s, d7, hrc]
    by_cases z : s < rc
    · rw [if_pos (by omega), if_pos z, if_pos z, cR_7 (by omega)]
    · rw [if_neg z, if_neg z]
      rfl
  · show (if s < 4 then u3.1 44 o s else 0) = (if s < 4 then u.1 44 o s else 0)
    rw [g 44 o s (by omega)]
  · obtain ⟨z, rfl⟩ : ∃ z, t = z + 9 := ⟨t - 9, by omega⟩
    rfl


