theorem ev_advance {o n : Nat} {u : qM} {P : Int32 → qM → Prop} (hn : n ≤ 2000000) (hw : WF n (cB u o)) (hs : SZ (u.1 33 0)) (K0 : tmF (cB u o) = true → ∀ u', FA o u u' → cB u' o = cB u o → P 0 u') (K1 : tmF (cB u o) = false → ∀ u', FA o u u' → cB u' o = nxt (tdC u (cB u o)) (cB u o) → P 1 u') : Ev (f_X8_advance o u) P := by
  obtain ⟨w, h, hd⟩ := hw.gd.dw
  have hd' := hd
  obtain ⟨d1, d2, d3, d4, d5, d6, d7, d8, d9, d10⟩ := hd'
  have hg : SG (cB u o) w h := by
    obtain ⟨⟨k, wd, hg, st, p, d, rc, pc, a0, a1, a2, a3, a4, a5, a6, a7, a8, a9, b0, b1, b2, b3, b4, b5, b6, b7, b8, b9, c0, c1, c2⟩, -⟩ := hw
    exact ⟨hd, d, b3, b4, b5⟩
  have hr : ∃ rc, SR (cB u o) u o rc := by
    obtain ⟨⟨k, wd, hg, st, p, d, rc, pc, a0, a1, a2, a3, a4, a5, a6, a7, a8, a9, b0, b1, b2, b3, b4, b5, b6, b7, b8, b9, c0, c1, c2⟩, -, w2⟩ := hw
    have e : rcN (cB u o) = rc := by
      unfold rcN
      rw [b6, nI_clamp (by omega)]
    refine ⟨rc, b7, b6, e, fun k hk => ⟨(cR_7 (by omega)).symm, (cR_8 (by omega)).symm, w2.1 k ?_⟩⟩
    have e' : (cB u o 0 12).toNatClampNeg = rc := e
    rw [e']
    exact hk
  obtain ⟨rc, hr⟩ := hr
  have hw2 : ∀ c, 0 ≤ (cB u o 2 c).toInt := fun c => (hw.2.1.2.1 c).1
  have hrc := hr.2.2.1
  have h39 : ∀ s, s < 144 → u.1 39 o s = cB u o 3 s := rv_3
  have hsn : SN (cB u o) u o := SN.mk
  have hv0 : ∀ i, i < 14 → True := fun _ _ => trivial
  generalize hv : cB u o = v at *
  have x2 : u.1 2 o 12 = nI w := hsn.2.1.trans d1
  have x3 : u.1 2 o 13 = nI h := hsn.2.2.1.trans d2
  have crA : q_cr (nI 0) (nI 0) (nI (w * h)) 48 48 = true := q_crI (by decide) (by decide) (by omega) (by omega) (by omega)
  have crB : q_cr (nI 0) (nI 0) (nI (2 * (w * h))) 96 96 = true := q_crI (by decide) (by decide) (by omega) (by omega) (by omega)
  simp (disch := first | omega | decide) only [Nat.reduceAdd, Nat.reduceMul, ↓ev_bd, ↓ev_ck, ↓ev_if, ↓ev_lt, ↓ev_jn, ↓ev_so, ↓reduceIte, ↓ev_within, ↓ev_isBoard, ↓ev_isNumber, ↓ev_foundN, ↓ev_found_1, ↓ev_found_2, ↓ev_found_3, ↓ev_found_4, ↓ev_found_5, true_and, and_true, and_self, eq_self, not_true_eq_false, not_false_eq_true, ite_true, ite_false, true_or, or_true, false_or, or_false, false_and, and_false, ← zi_ni_0, ← zi_ni_1, ← zi_ni_2, ← zi_ni_3, ← zi_ni_4, ← zi_ni_5, ← zi_ni_6, ← zi_ni_7, ← zi_ni_8, ← zi_ni_9, ← zi_ni_10, ← zi_ni_12, ← zi_ni_24, ← zi_ni_25, ← zi_ni_40, ← zi_ni_45, ← zi_ni_47, ← zi_ni_48, ← zi_ni_95, ← zi_ni_96, ← zi_ni_97, ← zi_ni_100, ← zi_ni_144, ← zi_ni_288, nI_ltI, nI_leI, nI_eqI, nlt_T, nlt_F, nle_T, nle_F, neq_T, neq_F, nI_add, pk_mul, nI_clamp, q_inT, ng_lt, ng_tl, ng_le, ng_el, ng_eq, ng_qe, q_b0, q_b1, nar_0, nar_1, b01, b01', q_bn0, q_bn1, nar_n0, nar_n1, si_k, si_i, si_s, si_e, si_2, sl_1, sl_22, sl_k, sl_i, sl_s, sl_e, sp_1, sp_21, sp_22, sc_k, sc_i, sc_e, sc_2, mF_k, mF_2, mF_0, ↓eu_X8_advance, ↓eu_X8_pushFlows, ↓eu_X8_limitFlows, x2, x3]
  refine lp_push hg hsn (fun u1 h1 => ?_)
  obtain ⟨p1, p2, p3⟩ := h1
  simp (disch := first | omega | decide) only [Nat.reduceAdd, Nat.reduceMul, ↓ev_bd, ↓ev_ck, ↓ev_if, ↓ev_lt, ↓ev_jn, ↓ev_so, ↓reduceIte, ↓ev_within, ↓ev_isBoard, ↓ev_isNumber, ↓ev_foundN, ↓ev_found_1, ↓ev_found_2, ↓ev_found_3, ↓ev_found_4, ↓ev_found_5, true_and, and_true, and_self, eq_self, not_true_eq_false, not_false_eq_true, ite_true, ite_false, true_or, or_true, false_or, or_false, false_and, and_false, ← zi_ni_0, ← zi_ni_1, ← zi_ni_2, ← zi_ni_3, ← zi_ni_4, ← zi_ni_5, ← zi_ni_6, ← zi_ni_7, ← zi_ni_8, ← zi_ni_9, ← zi_ni_10, ← zi_ni_12, ← zi_ni_24, ← zi_ni_25, ← zi_ni_40, ← zi_ni_45, ← zi_ni_47, ← zi_ni_48, ← zi_ni_95, ← zi_ni_96, ← zi_ni_97, ← zi_ni_100, ← zi_ni_144, ← zi_ni_288, nI_ltI, nI_leI, nI_eqI, nlt_T, nlt_F, nle_T, nle_F, neq_T, neq_F, nI_add, pk_mul, nI_clamp, q_inT, ng_lt, ng_tl, ng_le, ng_el, ng_eq, ng_qe, q_b0, q_b1, nar_0, nar_1, b01, b01', q_bn0, q_bn1, nar_n0, nar_n1, si_k, si_i, si_s, si_e, si_2, sl_1, sl_22, sl_k, sl_i, sl_s, sl_e, sp_1, sp_21, sp_22, sc_k, sc_i, sc_e, sc_2, mF_k, mF_2, mF_0, ↓eu_X8_advance, ↓eu_X8_pushFlows, ↓eu_X8_limitFlows, x2, x3]
  refine lp_lim1 hd (hsn.k (fun k q1 q2 q3 q4 => p1 k q1)) (fun u2 h2 => ?_)
  obtain ⟨q1, q2, q3⟩ := h2
  have s2 : SN v u2 o := hsn.k (fun k z1 z2 z3 z4 => by rw [q1 k z2, p1 k z1])
  refine lp_lim2 hd s2 (fun s hs => by rw [q1 47 (by decide)]; exact p3 s hs) q3 (fun u3 h3 => ?_)
  obtain ⟨r1, r2, r3⟩ := h3
  have s3 : SN v u3 o := s2.k (fun k z1 z2 z3 z4 => r1 k z2)
  refine lp_lim3 hd hw2 s3 (fun s hs => by rw [r1 47 (by decide), q1 47 (by decide)]; exact p3 s hs) r3 (fun u4 h4 => ?_)
  obtain ⟨t1, t2, t3⟩ := h4
  have s4 : SN v u4 o := s3.k (fun k z1 z2 z3 z4 => t1 k z1)
  have e4 : ∀ k, k ≠ 47 → k ≠ 48 → u4.1 k = u.1 k := fun k z1 z2 => by rw [t1 k z1, r1 k z2, q1 k z2, p1 k z1]
  have y2 : u4.1 2 o 12 = nI w := s4.2.1.trans d1
  have y3 : u4.1 2 o 13 = nI h := s4.2.2.1.trans d2
  simp (disch := first | omega | decide) only [Nat.reduceAdd, Nat.reduceMul, ↓ev_bd, ↓ev_ck, ↓ev_if, ↓ev_lt, ↓ev_jn, ↓ev_so, ↓reduceIte, ↓ev_within, ↓ev_isBoard, ↓ev_isNumber, ↓ev_foundN, ↓ev_found_1, ↓ev_found_2, ↓ev_found_3, ↓ev_found_4, ↓ev_found_5, true_and, and_true, and_self, eq_self, not_true_eq_false, not_false_eq_true, ite_true, ite_false, true_or, or_true, false_or, or_false, false_and, and_false, ← zi_ni_0, ← zi_ni_1, ← zi_ni_2, ← zi_ni_3, ← zi_ni_4, ← zi_ni_5, ← zi_ni_6, ← zi_ni_7, ← zi_ni_8, ← zi_ni_9, ← zi_ni_10, ← zi_ni_12, ← zi_ni_24, ← zi_ni_25, ← zi_ni_40, ← zi_ni_45, ← zi_ni_47, ← zi_ni_48, ← zi_ni_95, ← zi_ni_96, ← zi_ni_97, ← zi_ni_100, ← zi_ni_144, ← zi_ni_288, nI_ltI, nI_leI, nI_eqI, nlt_T, nlt_F, nle_T, nle_F, neq_T, neq_F, nI_add, pk_mul, nI_clamp, q_inT, ng_lt, ng_tl, ng_le, ng_el, ng_eq, ng_qe, q_b0, q_b1, nar_0, nar_1, b01, b01', q_bn0, q_bn1, nar_n0, nar_n1, si_k, si_i, si_s, si_e, si_2, sl_1, sl_22, sl_k, sl_i, sl_s, sl_e, sp_1, sp_21, sp_22, sc_k, sc_i, sc_e, sc_2, mF_k, mF_2, mF_0, ↓eu_X8_moveWater, ↓eu_X0_cells, y2, y3, crA, ↓eu_X8_addRivers]
  refine lp_move (u := q_sc u4 38 o 49 0 0 0 (w * h)) hd (s4.k (fun k z1 z2 z3 z4 => sc_k z3)) (fun s hs => by rw [sc_k (by decide)]; exact t3 s hs) (fun c hc => by rw [sc_e, pk_cpy_in (Nat.zero_le _) (by omega), Nat.zero_add, Nat.sub_zero]; exact s4.2.2.2.2.2.2.2.2.1 c (by omega)) (fun u5 h5 => ?_)
  obtain ⟨a1, a2, a3⟩ := h5
  have e5 : ∀ k, k ≠ 47 → k ≠ 48 → k ≠ 49 → u5.1 k = u.1 k := fun k z1 z2 z3 => by rw [a1 k z3, sc_k z3, e4 k z1 z2]
  try simp (disch := first | omega | decide) only [Nat.reduceAdd, Nat.reduceMul, ↓ev_bd, ↓ev_ck, ↓ev_if, ↓ev_lt, ↓ev_jn, ↓ev_so, ↓reduceIte, ↓ev_within, ↓ev_isBoard, ↓ev_isNumber, ↓ev_foundN, ↓ev_found_1, ↓ev_found_2, ↓ev_found_3, ↓ev_found_4, ↓ev_found_5, true_and, and_true, and_self, eq_self, not_true_eq_false, not_false_eq_true, ite_true, ite_false, true_or, or_true, false_or, or_false, false_and, and_false, ← zi_ni_0, ← zi_ni_1, ← zi_ni_2, ← zi_ni_3, ← zi_ni_4, ← zi_ni_5, ← zi_ni_6, ← zi_ni_7, ← zi_ni_8, ← zi_ni_9, ← zi_ni_10, ← zi_ni_12, ← zi_ni_24, ← zi_ni_25, ← zi_ni_40, ← zi_ni_45, ← zi_ni_47, ← zi_ni_48, ← zi_ni_95, ← zi_ni_96, ← zi_ni_97, ← zi_ni_100, ← zi_ni_144, ← zi_ni_288, nI_ltI, nI_leI, nI_eqI, nlt_T, nlt_F, nle_T, nle_F, neq_T, neq_F, nI_add, pk_mul, nI_clamp, q_inT, ng_lt, ng_tl, ng_le, ng_el, ng_eq, ng_qe, q_b0, q_b1, nar_0, nar_1, b01, b01', q_bn0, q_bn1, nar_n0, nar_n1, si_k, si_i, si_s, si_e, si_2, sl_1, sl_22, sl_k, sl_i, sl_s, sl_e, sp_1, sp_21, sp_22, sc_k, sc_i, sc_e, sc_2, mF_k, mF_2, mF_0, ↓eu_X8_addRivers, ↓eu_X8_tooMuch]
  refine lp_riv hd (hr.k (fun k z1 z2 z3 z4 => e5 k z1 z2 z3)) a3 (fun u6 h6 => ?_)
  obtain ⟨b1, b2, b3⟩ := h6
  have e6 : ∀ k, k ≠ 47 → k ≠ 48 → k ≠ 49 → u6.1 k = u.1 k := fun k z1 z2 z3 => by rw [b1 k z3, e5 k z1 z2 z3]
  have l6 : u6.2 = u.2 := by rw [b2, a2, sc_2, t2, r2, q2, p2]
  have s6 : SN v u6 o := hsn.k (fun k z1 z2 z3 z4 => e6 k z1 z2 z3)
  have f6 : ∀ s, s < 2 * (w * h) → u6.1 47 0 s = lfl v s := fun s hs => by rw [b1 47 (by decide), a1 47 (by decide), sc_k (by decide)]; exact t3 s hs
  try simp (disch := first | omega | decide) only [Nat.reduceAdd, Nat.reduceMul, ↓ev_bd, ↓ev_ck, ↓ev_if, ↓ev_lt, ↓ev_jn, ↓ev_so, ↓reduceIte, ↓ev_within, ↓ev_isBoard, ↓ev_isNumber, ↓ev_foundN, ↓ev_found_1, ↓ev_found_2, ↓ev_found_3, ↓ev_found_4, ↓ev_found_5, true_and, and_true, and_self, eq_self, not_true_eq_false, not_false_eq_true, ite_true, ite_false, true_or, or_true, false_or, or_false, false_and, and_false, ← zi_ni_0, ← zi_ni_1, ← zi_ni_2, ← zi_ni_3, ← zi_ni_4, ← zi_ni_5, ← zi_ni_6, ← zi_ni_7, ← zi_ni_8, ← zi_ni_9, ← zi_ni_10, ← zi_ni_12, ← zi_ni_24, ← zi_ni_25, ← zi_ni_40, ← zi_ni_45, ← zi_ni_47, ← zi_ni_48, ← zi_ni_95, ← zi_ni_96, ← zi_ni_97, ← zi_ni_100, ← zi_ni_144, ← zi_ni_288, nI_ltI, nI_leI, nI_eqI, nlt_T, nlt_F, nle_T, nle_F, neq_T, neq_F, nI_add, pk_mul, nI_clamp, q_inT, ng_lt, ng_tl, ng_le, ng_el, ng_eq, ng_qe, q_b0, q_b1, nar_0, nar_1, b01, b01', q_bn0, q_bn1, nar_n0, nar_n1, si_k, si_i, si_s, si_e, si_2, sl_1, sl_22, sl_k, sl_i, sl_s, sl_e, sp_1, sp_21, sp_22, sc_k, sc_i, sc_e, sc_2, mF_k, mF_2, mF_0, ↓eu_X8_addRivers, ↓eu_X8_tooMuch]
  refine lp_too hd s6 hrc b3 (fun hf => ?_) (fun ht => ?_)
  · simp (disch := first | omega | decide) only [Nat.reduceAdd, Nat.reduceMul, ↓ev_bd, ↓ev_ck, ↓ev_if, ↓ev_lt, ↓ev_jn, ↓ev_so, ↓reduceIte, ↓ev_within, ↓ev_isBoard, ↓ev_isNumber, ↓ev_foundN, ↓ev_found_1, ↓ev_found_2, ↓ev_found_3, ↓ev_found_4, ↓ev_found_5, true_and, and_true, and_self, eq_self, not_true_eq_false, not_false_eq_true, ite_true, ite_false, true_or, or_true, false_or, or_false, false_and, and_false, ← zi_ni_0, ← zi_ni_1, ← zi_ni_2, ← zi_ni_3, ← zi_ni_4, ← zi_ni_5, ← zi_ni_6, ← zi_ni_7, ← zi_ni_8, ← zi_ni_9, ← zi_ni_10, ← zi_ni_12, ← zi_ni_24, ← zi_ni_25, ← zi_ni_40, ← zi_ni_45, ← zi_ni_47, ← zi_ni_48, ← zi_ni_95, ← zi_ni_96, ← zi_ni_97, ← zi_ni_100, ← zi_ni_144, ← zi_ni_288, nI_ltI, nI_leI, nI_eqI, nlt_T, nlt_F, nle_T, nle_F, neq_T, neq_F, nI_add, pk_mul, nI_clamp, q_inT, ng_lt, ng_tl, ng_le, ng_el, ng_eq, ng_qe, q_b0, q_b1, nar_0, nar_1, b01, b01', q_bn0, q_bn1, nar_n0, nar_n1, si_k, si_i, si_s, si_e, si_2, sl_1, sl_22, sl_k, sl_i, sl_s, sl_e, sp_1, sp_21, sp_22, sc_k, sc_i, sc_e, sc_2, mF_k, mF_2, mF_0, ↓eu_X8_addRivers, ↓eu_X8_tooMuch]
    refine lp_adv hd hw2 s6 (fun s hs => by rw [e6 39 (by decide) (by decide) (by decide)]; exact h39 s hs) f6 (fun u7 g1 g2 g3 => ?_)
    have e7 : ∀ k, k ≠ 47 → k ≠ 48 → k ≠ 49 → k ≠ 50 → k ≠ 39 → u7.1 k = u.1 k := fun k z1 z2 z3 z4 z5 => by
      rw [← e6 k z1 z2 z3]
      funext i s
      exact g1 k i s z4 (fun z => z5 z.1)
    have z2 : u7.1 2 o 12 = nI w := by rw [e7 2 (by decide) (by decide) (by decide) (by decide) (by decide)]; exact x2
    have z3 : u7.1 2 o 13 = nI h := by rw [e7 2 (by decide) (by decide) (by decide) (by decide) (by decide)]; exact x3
    simp (disch := first | omega | decide) only [Nat.reduceAdd, Nat.reduceMul, ↓ev_bd, ↓ev_ck, ↓ev_if, ↓ev_lt, ↓ev_jn, ↓ev_so, ↓reduceIte, ↓ev_within, ↓ev_isBoard, ↓ev_isNumber, ↓ev_foundN, ↓ev_found_1, ↓ev_found_2, ↓ev_found_3, ↓ev_found_4, ↓ev_found_5, true_and, and_true, and_self, eq_self, not_true_eq_false, not_false_eq_true, ite_true, ite_false, true_or, or_true, false_or, or_false, false_and, and_false, ← zi_ni_0, ← zi_ni_1, ← zi_ni_2, ← zi_ni_3, ← zi_ni_4, ← zi_ni_5, ← zi_ni_6, ← zi_ni_7, ← zi_ni_8, ← zi_ni_9, ← zi_ni_10, ← zi_ni_12, ← zi_ni_24, ← zi_ni_25, ← zi_ni_40, ← zi_ni_45, ← zi_ni_47, ← zi_ni_48, ← zi_ni_95, ← zi_ni_96, ← zi_ni_97, ← zi_ni_100, ← zi_ni_144, ← zi_ni_288, nI_ltI, nI_leI, nI_eqI, nlt_T, nlt_F, nle_T, nle_F, neq_T, neq_F, nI_add, pk_mul, nI_clamp, q_inT, ng_lt, ng_tl, ng_le, ng_el, ng_eq, ng_qe, q_b0, q_b1, nar_0, nar_1, b01, b01', q_bn0, q_bn1, nar_n0, nar_n1, si_k, si_i, si_s, si_e, si_2, sl_1, sl_22, sl_k, sl_i, sl_s, sl_e, sp_1, sp_21, sp_22, sc_k, sc_i, sc_e, sc_2, mF_k, mF_2, mF_0, ↓eu_X0_cells, z2, z3, crA, crB]
    have body : ∀ t : qM, t = q_si (q_sc (q_sc u7 47 0 40 o 0 0 (2 * (w * h))) 49 0 38 o 0 0 (w * h)) 2 o 15 (u7.1 2 o 15 + rainF v rc) → cB t o = st0 v ∧ (∀ k i s, k < 47 ∨ 50 < k → ¬ (i = o ∧ (k = 38 ∨ k = 39 ∨ k = 40 ∨ (k = 2 ∧ s = 15))) → t.1 k i s = u.1 k i s) ∧ t.2 = u.2 := by
      intro t ht
      have T : ∀ k i s, ¬ (k = 50) → ¬ (k = 38 ∧ i = o) → ¬ (k = 39 ∧ i = o) → ¬ (k = 40 ∧ i = o) → k ≠ 47 → k ≠ 48 → k ≠ 49 → ¬ (k = 2 ∧ i = o ∧ s = 15) → t.1 k i s = u.1 k i s := by
        intro k i s y1 y2 y3 y4 y5 y6 y7 y8
        rw [ht, si_n y8, sc_n y2, sc_n y4, g1 k i s y1 y3]
        exact congrFun (congrFun (e6 k y5 y6 y7) i) s
      have V : ∀ t' s', cB u o t' s' = v t' s' := fun t' s' => by rw [hv]
      refine ⟨?_, fun k i s y1 y2 => ?_, ?_⟩
      · funext t' s
        rcases (show t' = 0 ∨ t' = 1 ∨ t' = 2 ∨ t' = 3 ∨ t' = 4 ∨ t' = 5 ∨ t' = 6 ∨ t' = 7 ∨ t' = 8 ∨ 9 ≤ t' by omega) with rfl | rfl | rfl | rfl | rfl | rfl | rfl | rfl | rfl | ht
        · rcases (show s = 0 ∨ s = 1 ∨ s = 2 ∨ s = 3 ∨ s = 4 ∨ s = 5 ∨ s = 6 ∨ s = 7 ∨ s = 8 ∨ s = 9 ∨ s = 10 ∨ s = 11 ∨ s = 12 ∨ s = 13 ∨ 14 ≤ s by omega) with rfl | rfl | rfl | rfl | rfl | rfl | rfl | rfl | rfl | rfl | rfl | rfl | rfl | rfl | hs
          · show t.1 2 o 11 = v 0 0
            rw [T 2 o 11 (by decide) (by omega) (by omega) (by omega) (by decide) (by decide) (by decide) (by omega), ← V 0 0]
            rfl
          · show t.1 2 o 12 = v 0 1
            rw [T 2 o 12 (by decide) (by omega) (by omega) (by omega) (by decide) (by decide) (by decide) (by omega), ← V 0 1]
            rfl
          · show t.1 2 o 13 = v 0 2
            rw [T 2 o 13 (by decide) (by omega) (by omega) (by omega) (by decide) (by decide) (by decide) (by omega), ← V 0 2]
            rfl
          · show t.1 2 o 14 = v 0 3
            rw [T 2 o 14 (by decide) (by omega) (by omega) (by omega) (by decide) (by decide) (by decide) (by omega), ← V 0 3]
            rfl
          · show t.1 2 o 15 = v 0 4 + rainF v (rcN v)
            rw [ht, si_e, e7 2 (by decide) (by decide) (by decide) (by decide) (by decide), hrc, ← V 0 4]
            rfl
          · show t.1 2 o 16 = v 0 5
            rw [T 2 o 16 (by decide) (by omega) (by omega) (by omega) (by decide) (by decide) (by decide) (by omega), ← V 0 5]
            rfl
          · show t.1 2 o 17 = v 0 6
            rw [T 2 o 17 (by decide) (by omega) (by omega) (by omega) (by decide) (by decide) (by decide) (by omega), ← V 0 6]
            rfl
          · show t.1 2 o 18 = v 0 7
            rw [T 2 o 18 (by decide) (by omega) (by omega) (by omega) (by decide) (by decide) (by decide) (by omega), ← V 0 7]
            rfl
          · show t.1 3 o 0 = v 0 8
            rw [T 3 o 0 (by decide) (by omega) (by omega) (by omega) (by decide) (by decide) (by decide) (by omega), ← V 0 8]
            rfl
          · show t.1 3 o 1 = v 0 9
            rw [T 3 o 1 (by decide) (by omega) (by omega) (by omega) (by decide) (by decide) (by decide) (by omega), ← V 0 9]
            rfl
          · show t.1 3 o 2 = v 0 10
            rw [T 3 o 2 (by decide) (by omega) (by omega) (by omega) (by decide) (by decide) (by decide) (by omega), ← V 0 10]
            rfl
          · show t.1 3 o 3 = v 0 11
            rw [T 3 o 3 (by decide) (by omega) (by omega) (by omega) (by decide) (by decide) (by decide) (by omega), ← V 0 11]
            rfl
          · show t.1 4 o 2 = v 0 12
            rw [T 4 o 2 (by decide) (by omega) (by omega) (by omega) (by decide) (by decide) (by decide) (by omega), ← V 0 12]
            rfl
          · show t.1 2 o 9 = v 0 13
            rw [T 2 o 9 (by decide) (by omega) (by omega) (by omega) (by decide) (by decide) (by decide) (by omega), ← V 0 13]
            rfl
          · obtain ⟨z, rfl⟩ : ∃ z, s = z + 14 := ⟨s - 14, by omega⟩
            show _ = if z + 14 = 4 then v 0 4 + rainF v (rcN v) else v 0 (z + 14)
            rw [if_neg (by omega), ← V 0 (z + 14)]
            rfl
        · show (if s < 48 then t.1 37 o s else 0) = v 1 s
          rw [← V 1 s]
          show _ = (if s < 48 then u.1 37 o s else 0)
          rw [T 37 o s (by decide) (by omega) (by omega) (by omega) (by decide) (by decide) (by decide) (by omega)]
        · show (if s < 48 then t.1 38 o s else 0) = (if s < nN v then rivF v (rcN v) s else v 2 s)
          rw [d9, hrc, ht, si_k (by decide), sc_e]
          by_cases q : s < w * h
          · rw [if_pos (show s < 48 by omega), if_pos q, pk_cpy_in (Nat.zero_le _) (by omega), Nat.zero_add, Nat.sub_zero, sc_k (by decide), g1 49 0 s (by decide) (by omega)]
            exact b3 s q
          · rw [if_neg q, ← V 2 s]
            show _ = (if s < 48 then u.1 38 o s else 0)
            rw [pk_cpy_out (by omega), sc_k (by decide), e7 38 (by decide) (by decide) (by decide) (by decide) (by decide)]
        · show (if s < 144 then t.1 39 o s else 0) = (if s % 48 < nN v ∧ s < 144 then stuF v (s / 48) (2 * nN v) (s % 48) else v 3 s)
          rw [d9, ht, si_k (by decide), sc_k (by decide), sc_k (by decide)]
          by_cases q : s < 144
          · rw [if_pos q, g3 s q]
            by_cases q2 : s % 48 < w * h
            · rw [if_pos q2, if_pos ⟨q2, q⟩]
            · rw [if_neg q2, if_neg (fun z => q2 z.1)]
          · rw [if_neg q, if_neg (fun z => q z.2), ← V 3 s]
            show _ = (if s < 144 then u.1 39 o s else 0)
            rw [if_neg q]
        · show (if s < 96 then t.1 40 o s else 0) = (if s < 2 * nN v then lfl v s else v 4 s)
          rw [d9, ht, si_k (by decide), sc_k (by decide), sc_e]
          by_cases q : s < 2 * (w * h)
          · rw [if_pos (show s < 96 by omega), if_pos q, pk_cpy_in (Nat.zero_le _) (by omega), Nat.zero_add, Nat.sub_zero, g1 47 0 s (by decide) (by omega)]
            exact f6 s q
          · rw [if_neg q, ← V 4 s]
            show _ = (if s < 96 then u.1 40 o s else 0)
            rw [pk_cpy_out (by omega), e7 40 (by decide) (by decide) (by decide) (by decide) (by decide)]
        · show (if s < 96 then t.1 41 o s else 0) = v 5 s
          rw [← V 5 s]
          show _ = (if s < 96 then u.1 41 o s else 0)
          rw [T 41 o s (by decide) (by omega) (by omega) (by omega) (by decide) (by decide) (by decide) (by omega)]
        · show (if s < 4 then t.1 42 o s else 0) = v 6 s
          rw [← V 6 s]
          show _ = (if s < 4 then u.1 42 o s else 0)
          rw [T 42 o s (by decide) (by omega) (by omega) (by omega) (by decide) (by decide) (by decide) (by omega)]
        · show (if s < 4 then t.1 43 o s else 0) = v 7 s
          rw [← V 7 s]
          show _ = (if s < 4 then u.1 43 o s else 0)
          rw [T 43 o s (by decide) (by omega) (by omega) (by omega) (by decide) (by decide) (by decide) (by omega)]
        · show (if s < 4 then t.1 44 o s else 0) = v 8 s
          rw [← V 8 s]
          show _ = (if s < 4 then u.1 44 o s else 0)
          rw [T 44 o s (by decide) (by omega) (by omega) (by omega) (by decide) (by decide) (by decide) (by omega)]
        · obtain ⟨z, rfl⟩ : ∃ z, t' = z + 9 := ⟨t' - 9, by omega⟩
          show _ = v (z + 9) s
          rw [← V (z + 9) s]
          rfl
      · exact T k i s (by omega) (by omega) (by omega) (by omega) (by omega) (by omega) (by omega) (by omega)
      · rw [ht]
        show u7.2 = u.2
        rw [g2, l6]
    obtain ⟨y1, y2, y3⟩ := body _ rfl
    generalize q_si (q_sc (q_sc u7 47 0 40 o 0 0 (2 * (w * h))) 49 0 38 o 0 0 (w * h)) 2 o 15 (u7.1 2 o 15 + rainF v rc) = t at y1 y2 y3 ⊢
    · skip
      have y33 : SZ (t.1 33 0) := by
        have : t.1 33 0 = u.1 33 0 := funext (fun s => y2 33 0 s (by omega) (by omega))
        rw [this]
        exact hs
      have yst : ∀ i, i ≠ 4 → st0 v 0 i = v 0 i := fun i q => if_neg q
      have hwt : WF0 n (cB t o) := by
        rw [y1]
        unfold WF0
        rw [yst 0 (by decide), yst 1 (by decide), yst 2 (by decide), yst 3 (by decide), yst 8 (by decide), yst 9 (by decide), yst 12 (by decide), yst 13 (by decide), yst 6 (by decide), yst 10 (by decide), yst 11 (by decide)]
        exact hw.1
      have htd : tdC t (cB t o) = tdC u v := by
        unfold tdC
        rw [y1, td_s (yst 0 (by decide)) (yst 3 (by decide)) (yst 6 (by decide)) (yst 7 (by decide))]
        have e33 : t.1 33 0 = u.1 33 0 := funext (fun s => y2 33 0 s (by omega) (by omega))
        have e30 : t.1 30 = u.1 30 := funext (fun i => funext (fun s => y2 30 i s (by omega) (by omega)))
        rw [e33, e30]
      cases hq : tdC u v with
      | none =>
        refine ev_hasTide0 hn hwt y33 (by rw [htd]; exact hq) ?_
        have k1 := K1 hf (q_si t 2 o 14 (t.1 2 o 14 + nI 1)) ⟨fun k i s q1 q2 => ?_, y3⟩ ?_
        · try simp (disch := first | omega | decide) only [Nat.reduceAdd, Nat.reduceMul, ↓ev_bd, ↓ev_ck, ↓ev_if, ↓ev_lt, ↓ev_jn, ↓ev_so, ↓reduceIte, ↓ev_within, ↓ev_isBoard, ↓ev_isNumber, ↓ev_foundN, ↓ev_found_1, ↓ev_found_2, ↓ev_found_3, ↓ev_found_4, ↓ev_found_5, true_and, and_true, and_self, eq_self, not_true_eq_false, not_false_eq_true, ite_true, ite_false, true_or, or_true, false_or, or_false, false_and, and_false, ← zi_ni_0, ← zi_ni_1, ← zi_ni_2, ← zi_ni_3, ← zi_ni_4, ← zi_ni_5, ← zi_ni_6, ← zi_ni_7, ← zi_ni_8, ← zi_ni_9, ← zi_ni_10, ← zi_ni_12, ← zi_ni_24, ← zi_ni_25, ← zi_ni_40, ← zi_ni_45, ← zi_ni_47, ← zi_ni_48, ← zi_ni_95, ← zi_ni_96, ← zi_ni_97, ← zi_ni_100, ← zi_ni_144, ← zi_ni_288, nI_ltI, nI_leI, nI_eqI, nlt_T, nlt_F, nle_T, nle_F, neq_T, neq_F, nI_add, pk_mul, nI_clamp, q_inT, ng_lt, ng_tl, ng_le, ng_el, ng_eq, ng_qe, q_b0, q_b1, nar_0, nar_1, b01, b01', q_bn0, q_bn1, nar_n0, nar_n1, si_k, si_i, si_s, si_e, si_2, sl_1, sl_22, sl_k, sl_i, sl_s, sl_e, sp_1, sp_21, sp_22, sc_k, sc_i, sc_e, sc_2, mF_k, mF_2, mF_0, ↓eu_X8_addRivers, ↓eu_X8_tooMuch]
          exact k1
        · rw [si_n (by omega)]
          exact y2 k i s q1 (by omega)
        · rw [cW_0_3, y1, hq]
          show bset (st0 v) 0 3 _ = bset (st0 v) 0 3 _
          rw [show t.1 2 o 14 = v 0 3 from (congrFun (congrFun y1 0) 3).trans (yst 3 (by decide))]
      | some x =>
        refine ev_hasTide1 hn hwt y33 (by rw [htd]; exact hq) ?_
        try simp (disch := first | omega | decide) only [Nat.reduceAdd, Nat.reduceMul, ↓ev_bd, ↓ev_ck, ↓ev_if, ↓ev_lt, ↓ev_jn, ↓ev_so, ↓reduceIte, ↓ev_within, ↓ev_isBoard, ↓ev_isNumber, ↓ev_foundN, ↓ev_found_1, ↓ev_found_2, ↓ev_found_3, ↓ev_found_4, ↓ev_found_5, true_and, and_true, and_self, eq_self, not_true_eq_false, not_false_eq_true, ite_true, ite_false, true_or, or_true, false_or, or_false, false_and, and_false, ← zi_ni_0, ← zi_ni_1, ← zi_ni_2, ← zi_ni_3, ← zi_ni_4, ← zi_ni_5, ← zi_ni_6, ← zi_ni_7, ← zi_ni_8, ← zi_ni_9, ← zi_ni_10, ← zi_ni_12, ← zi_ni_24, ← zi_ni_25, ← zi_ni_40, ← zi_ni_45, ← zi_ni_47, ← zi_ni_48, ← zi_ni_95, ← zi_ni_96, ← zi_ni_97, ← zi_ni_100, ← zi_ni_144, ← zi_ni_288, nI_ltI, nI_leI, nI_eqI, nlt_T, nlt_F, nle_T, nle_F, neq_T, neq_F, nI_add, pk_mul, nI_clamp, q_inT, ng_lt, ng_tl, ng_le, ng_el, ng_eq, ng_qe, q_b0, q_b1, nar_0, nar_1, b01, b01', q_bn0, q_bn1, nar_n0, nar_n1, si_k, si_i, si_s, si_e, si_2, sl_1, sl_22, sl_k, sl_i, sl_s, sl_e, sp_1, sp_21, sp_22, sc_k, sc_i, sc_e, sc_2, mF_k, mF_2, mF_0, ↓eu_X8_addRivers, ↓eu_X8_tooMuch]
        refine ev_tideLevel hn hwt y33 (by rw [htd]; exact hq) ?_
        have hdt : DW (cB t o) w h := by
          rw [y1]
          refine ⟨(yst 1 (by decide)).trans d1, (yst 2 (by decide)).trans d2, d3, d4, d5, d6, ?_, ?_, ?_, d10⟩
          · rw [nW_s (v := v) (yst 1 (by decide))]; exact d7
          · rw [nH_s (v := v) (yst 2 (by decide))]; exact d8
          · rw [nN_s (v := v) (yst 1 (by decide)) (yst 2 (by decide))]; exact d9
        try simp (disch := first | omega | decide) only [Nat.reduceAdd, Nat.reduceMul, ↓ev_bd, ↓ev_ck, ↓ev_if, ↓ev_lt, ↓ev_jn, ↓ev_so, ↓reduceIte, ↓ev_within, ↓ev_isBoard, ↓ev_isNumber, ↓ev_foundN, ↓ev_found_1, ↓ev_found_2, ↓ev_found_3, ↓ev_found_4, ↓ev_found_5, true_and, and_true, and_self, eq_self, not_true_eq_false, not_false_eq_true, ite_true, ite_false, true_or, or_true, false_or, or_false, false_and, and_false, ← zi_ni_0, ← zi_ni_1, ← zi_ni_2, ← zi_ni_3, ← zi_ni_4, ← zi_ni_5, ← zi_ni_6, ← zi_ni_7, ← zi_ni_8, ← zi_ni_9, ← zi_ni_10, ← zi_ni_12, ← zi_ni_24, ← zi_ni_25, ← zi_ni_40, ← zi_ni_45, ← zi_ni_47, ← zi_ni_48, ← zi_ni_95, ← zi_ni_96, ← zi_ni_97, ← zi_ni_100, ← zi_ni_144, ← zi_ni_288, nI_ltI, nI_leI, nI_eqI, nlt_T, nlt_F, nle_T, nle_F, neq_T, neq_F, nI_add, pk_mul, nI_clamp, q_inT, ng_lt, ng_tl, ng_le, ng_el, ng_eq, ng_qe, q_b0, q_b1, nar_0, nar_1, b01, b01', q_bn0, q_bn1, nar_n0, nar_n1, si_k, si_i, si_s, si_e, si_2, sl_1, sl_22, sl_k, sl_i, sl_s, sl_e, sp_1, sp_21, sp_22, sc_k, sc_i, sc_e, sc_2, mF_k, mF_2, mF_0, ↓eu_X8_leadRim]
        refine lp_rim hdt (fun u8 f1 f2 f3 => ?_)
        try simp (disch := first | omega | decide) only [Nat.reduceAdd, Nat.reduceMul, ↓ev_bd, ↓ev_ck, ↓ev_if, ↓ev_lt, ↓ev_jn, ↓ev_so, ↓reduceIte, ↓ev_within, ↓ev_isBoard, ↓ev_isNumber, ↓ev_foundN, ↓ev_found_1, ↓ev_found_2, ↓ev_found_3, ↓ev_found_4, ↓ev_found_5, true_and, and_true, and_self, eq_self, not_true_eq_false, not_false_eq_true, ite_true, ite_false, true_or, or_true, false_or, or_false, false_and, and_false, ← zi_ni_0, ← zi_ni_1, ← zi_ni_2, ← zi_ni_3, ← zi_ni_4, ← zi_ni_5, ← zi_ni_6, ← zi_ni_7, ← zi_ni_8, ← zi_ni_9, ← zi_ni_10, ← zi_ni_12, ← zi_ni_24, ← zi_ni_25, ← zi_ni_40, ← zi_ni_45, ← zi_ni_47, ← zi_ni_48, ← zi_ni_95, ← zi_ni_96, ← zi_ni_97, ← zi_ni_100, ← zi_ni_144, ← zi_ni_288, nI_ltI, nI_leI, nI_eqI, nlt_T, nlt_F, nle_T, nle_F, neq_T, neq_F, nI_add, pk_mul, nI_clamp, q_inT, ng_lt, ng_tl, ng_le, ng_el, ng_eq, ng_qe, q_b0, q_b1, nar_0, nar_1, b01, b01', q_bn0, q_bn1, nar_n0, nar_n1, si_k, si_i, si_s, si_e, si_2, sl_1, sl_22, sl_k, sl_i, sl_s, sl_e, sp_1, sp_21, sp_22, sc_k, sc_i, sc_e, sc_2, mF_k, mF_2, mF_0, ↓eu_X8_addRivers, ↓eu_X8_tooMuch]
        refine K1 hf (q_si u8 2 o 14 (u8.1 2 o 14 + nI 1)) ⟨fun k i s q1 q2 => ?_, f2.trans y3⟩ ?_
        · rw [si_n (by omega), f1 k i s (by omega) (by omega)]
          exact y2 k i s q1 (by omega)
        · rw [cW_0_3, f3, y1, hq]
          show bset (rimF x (st0 v) h) 0 3 _ = bset (rimF x (st0 v) (nH v)) 0 3 _
          rw [d8, f1 2 o 14 (by omega) (by omega), show t.1 2 o 14 = v 0 3 from (congrFun (congrFun y1 0) 3).trans (yst 3 (by decide))]
  · simp (disch := first | omega | decide) only [Nat.reduceAdd, Nat.reduceMul, ↓ev_bd, ↓ev_ck, ↓ev_if, ↓ev_lt, ↓ev_jn, ↓ev_so, ↓reduceIte, ↓ev_within, ↓ev_isBoard, ↓ev_isNumber, ↓ev_foundN, ↓ev_found_1, ↓ev_found_2, ↓ev_found_3, ↓ev_found_4, ↓ev_found_5, true_and, and_true, and_self, eq_self, not_true_eq_false, not_false_eq_true, ite_true, ite_false, true_or, or_true, false_or, or_false, false_and, and_false, ← zi_ni_0, ← zi_ni_1, ← zi_ni_2, ← zi_ni_3, ← zi_ni_4, ← zi_ni_5, ← zi_ni_6, ← zi_ni_7, ← zi_ni_8, ← zi_ni_9, ← zi_ni_10, ← zi_ni_12, ← zi_ni_24, ← zi_ni_25, ← zi_ni_40, ← zi_ni_45, ← zi_ni_47, ← zi_ni_48, ← zi_ni_95, ← zi_ni_96, ← zi_ni_97, ← zi_ni_100, ← zi_ni_144, ← zi_ni_288, nI_ltI, nI_leI, nI_eqI, nlt_T, nlt_F, nle_T, nle_F, neq_T, neq_F, nI_add, pk_mul, nI_clamp, q_inT, ng_lt, ng_tl, ng_le, ng_el, ng_eq, ng_qe, q_b0, q_b1, nar_0, nar_1, b01, b01', q_bn0, q_bn1, nar_n0, nar_n1, si_k, si_i, si_s, si_e, si_2, sl_1, sl_22, sl_k, sl_i, sl_s, sl_e, sp_1, sp_21, sp_22, sc_k, sc_i, sc_e, sc_2, mF_k, mF_2, mF_0, ↓eu_X8_addRivers, ↓eu_X8_tooMuch]
    refine K0 ht u6 ⟨fun k i s z1 z2 => ?_, l6⟩ ?_
    · exact congrFun (congrFun (e6 k (by omega) (by omega) (by omega)) i) s
    · rw [← hv]
      apply cB_ext <;> rw [e6 _ (by decide) (by decide) (by decide)]


