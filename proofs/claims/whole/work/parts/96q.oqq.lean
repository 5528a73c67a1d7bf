/-! down: the reference, one cell in turn. -/
theorem fset_self {v : Nat → Int32} {q : Nat} : fset v q (v q) = v := by
  funext t
  unfold fset
  by_cases e : t = q
  · rw [if_pos e, e]
  · rw [if_neg e]
theorem mk_0 {a : Int32} : mk a (nI 0) = nI 0 := by
  have e1 : (nI 1).toInt = 1 := by decide +kernel
  unfold mk
  by_cases h : nI 1 ≤ a
  · have h' := h
    rw [x_le, e1] at h'
    rw [if_pos h, if_pos (by rw [x_le, nI0]; omega)]
  · rw [if_neg h]
theorem sub_0 {x : Int32} : x - nI 0 = x := Int32.sub_zero x
theorem tk_rest {a x : Int32} (hx : 0 ≤ x.toInt) : 0 ≤ (x - tk a x).toInt := by
  have hx2 : x.toInt < 2147483648 := by have := x.toInt_lt; omega
  unfold tk
  by_cases h2 : a < x
  · have h2' := h2
    rw [x_lt] at h2'
    rw [if_pos h2]
    by_cases h3 : nI 0 < a
    · have h3' := h3
      rw [x_lt, nI0] at h3'
      rw [if_pos h3, z_sub (by omega) (by omega)]
      omega
    · rw [if_neg h3, sub_0]
      exact hx
  · rw [if_neg h2]
    by_cases h3 : nI 0 < x
    · rw [if_pos h3, z_sub (by omega) (by omega)]
      omega
    · rw [if_neg h3, sub_0]
      exact hx
theorem m132 {q f : Nat} {y x1 x3 x4 x7 : Int32} {m0 m : qM} {v : Nat → Int32} {e : Int32 → qM → Option (Int32 × qM)} {P : Int32 → qM → Prop} (hq : q < 4) (h1 : FRW m0 m) (h2 : WC m v) (hb : -200000 ≤ (v q).toInt) (K : ∀ m', FRW m0 m' → WC m' (dnS (v, y) q).1 → Ev (L_X11_down_132 x1 x3 x4 x7 f (dnS (v, y) q).2 (nI (q + 1)) m' e) P) : Ev (L_X11_down_132 x1 x3 x4 x7 (f + 1) y (nI q) m e) P := by
  have e3 : m.1 118 0 q = v q := h2 q hq
  have hx2 : (v q).toInt < 2147483648 := by have := (v q).toInt_lt; omega
  obtain ⟨g, hg⟩ : ∃ g, q_fu = g + 1 + 1 + 1 + 1 := ⟨3996, rfl⟩
  by_cases c1 : nI 0 ≤ v q
  · have c1' := c1
    rw [x_le, nI0] at c1'
    have hu : unF v q = (v, nI 0) := if_neg (by rw [show -(v q) = nI 0 - v q from (Int32.zero_sub _).symm, x_lt, z_sub (by rw [nI0]; omega) (by rw [nI0]; omega), nI0]; omega)
    unfold dnS at K
    rw [hu] at K
    simp (disch := first | omega | decide) only [Nat.reduceAdd, Nat.reduceMul, ↓ev_bd, ↓ev_ck, ↓ev_if, ↓ev_lt, ↓ev_jn, ↓ev_so, ↓reduceIte, ↓ev_within, ↓ev_in, ↓ev_isBoard, ↓ev_isGauge, ↓ev_isNumber, ↓ev_isSix, ↓ev_isEight, ↓ev_foundN, ↓ev_meetsN, ↓ev_found_1, ↓ev_meets_1, ↓ev_found_2, ↓ev_meets_2, ↓ev_found_3, ↓ev_meets_3, ↓ev_found_4, ↓ev_meets_4, ↓ev_found_5, ↓ev_meets_5, true_and, and_true, and_self, eq_self, not_true_eq_false, not_false_eq_true, ite_true, ite_false, true_or, or_true, false_or, or_false, false_and, and_false, ← zi_ni_0, ← zi_ni_1, ← zi_ni_2, ← zi_ni_3, ← zi_ni_4, ← zi_ni_5, ← zi_ni_6, ← zi_ni_7, ← zi_ni_8, ← zi_ni_9, ← zi_ni_10, ← zi_ni_12, ← zi_ni_24, ← zi_ni_25, ← zi_ni_40, ← zi_ni_45, ← zi_ni_47, ← zi_ni_48, ← zi_ni_95, ← zi_ni_96, ← zi_ni_97, ← zi_ni_100, ← zi_ni_144, ← zi_ni_288, nI_ltI, nI_leI, nI_eqI, nlt_T, nlt_F, nle_T, nle_F, neq_T, neq_F, nI_add, pk_mul, nI_clamp, q_inT, ng_lt, ng_tl, ng_le, ng_el, ng_eq, ng_qe, q_b0, q_b1, nar_0, nar_1, b01, b01', q_bn0, q_bn1, nar_n0, nar_n1, si_k, si_i, si_s, si_e, si_2, sl_1, sl_22, sl_k, sl_i, sl_s, sl_e, sp_1, sp_21, sp_22, sc_k, sc_i, sc_e, sc_2, mF_k, mM_k, mF_2, mM_2, mF_0, mM_11, ↓eu_L_X11_down_132, e3, c1]
    rw [hg]
    have a0 : v q + nI 0 = v q := Int32.add_zero _
    rw [a0]
    have hw0 : WC (q_si m 118 0 q (v q)) v := by
      have := h2.si (q := q) (x := v q)
      rwa [fset_self] at this
    refine m177 (m0 := m0) (v := v) hq (by decide) h1.si hw0 (fun t1 p1 p2 => ?_)
    rw [mk_0, sub_0, fset_self] at p2
    rw [mk_0, sub_0]
    refine m177 (m0 := m0) (v := v) hq (by decide) p1 p2 (fun t2 r1 r2 => ?_)
    rw [mk_0, sub_0, fset_self] at r2
    rw [mk_0, sub_0]
    refine m177 (m0 := m0) (v := v) hq (by decide) r1 r2 (fun t3 s1 s2 => ?_)
    rw [mk_0, sub_0, fset_self] at s2
    rw [mk_0, sub_0]
    simp (disch := first | omega | decide) only [Nat.reduceAdd, Nat.reduceMul, ↓ev_bd, ↓ev_ck, ↓ev_if, ↓ev_lt, ↓ev_jn, ↓ev_so, ↓reduceIte, ↓ev_within, ↓ev_in, ↓ev_isBoard, ↓ev_isGauge, ↓ev_isNumber, ↓ev_isSix, ↓ev_isEight, ↓ev_foundN, ↓ev_meetsN, ↓ev_found_1, ↓ev_meets_1, ↓ev_found_2, ↓ev_meets_2, ↓ev_found_3, ↓ev_meets_3, ↓ev_found_4, ↓ev_meets_4, ↓ev_found_5, ↓ev_meets_5, true_and, and_true, and_self, eq_self, not_true_eq_false, not_false_eq_true, ite_true, ite_false, true_or, or_true, false_or, or_false, false_and, and_false, ← zi_ni_0, ← zi_ni_1, ← zi_ni_2, ← zi_ni_3, ← zi_ni_4, ← zi_ni_5, ← zi_ni_6, ← zi_ni_7, ← zi_ni_8, ← zi_ni_9, ← zi_ni_10, ← zi_ni_12, ← zi_ni_24, ← zi_ni_25, ← zi_ni_40, ← zi_ni_45, ← zi_ni_47, ← zi_ni_48, ← zi_ni_95, ← zi_ni_96, ← zi_ni_97, ← zi_ni_100, ← zi_ni_144, ← zi_ni_288, nI_ltI, nI_leI, nI_eqI, nlt_T, nlt_F, nle_T, nle_F, neq_T, neq_F, nI_add, pk_mul, nI_clamp, q_inT, ng_lt, ng_tl, ng_le, ng_el, ng_eq, ng_qe, q_b0, q_b1, nar_0, nar_1, b01, b01', q_bn0, q_bn1, nar_n0, nar_n1, si_k, si_i, si_s, si_e, si_2, sl_1, sl_22, sl_k, sl_i, sl_s, sl_e, sp_1, sp_21, sp_22, sc_k, sc_i, sc_e, sc_2, mF_k, mM_k, mF_2, mM_2, mF_0, mM_11, ↓eu_L_X11_down_177]
    exact K t3 s1 s2
  · have c1' := c1
    rw [x_le, nI0] at c1'
    have en : (-(v q)).toInt = -(v q).toInt := by
      rw [show -(v q) = nI 0 - v q from (Int32.zero_sub _).symm, z_sub (by rw [nI0]; omega) (by rw [nI0]; omega), nI0]
      omega
    have hu : unF v q = unA v q := if_pos (by rw [x_lt, nI0, en]; omega)
    unfold dnS at K
    rw [hu] at K
    simp (disch := first | omega | decide) only [Nat.reduceAdd, Nat.reduceMul, ↓ev_bd, ↓ev_ck, ↓ev_if, ↓ev_lt, ↓ev_jn, ↓ev_so, ↓reduceIte, ↓ev_within, ↓ev_in, ↓ev_isBoard, ↓ev_isGauge, ↓ev_isNumber, ↓ev_isSix, ↓ev_isEight, ↓ev_foundN, ↓ev_meetsN, ↓ev_found_1, ↓ev_meets_1, ↓ev_found_2, ↓ev_meets_2, ↓ev_found_3, ↓ev_meets_3, ↓ev_found_4, ↓ev_meets_4, ↓ev_found_5, ↓ev_meets_5, true_and, and_true, and_self, eq_self, not_true_eq_false, not_false_eq_true, ite_true, ite_false, true_or, or_true, false_or, or_false, false_and, and_false, ← zi_ni_0, ← zi_ni_1, ← zi_ni_2, ← zi_ni_3, ← zi_ni_4, ← zi_ni_5, ← zi_ni_6, ← zi_ni_7, ← zi_ni_8, ← zi_ni_9, ← zi_ni_10, ← zi_ni_12, ← zi_ni_24, ← zi_ni_25, ← zi_ni_40, ← zi_ni_45, ← zi_ni_47, ← zi_ni_48, ← zi_ni_95, ← zi_ni_96, ← zi_ni_97, ← zi_ni_100, ← zi_ni_144, ← zi_ni_288, nI_ltI, nI_leI, nI_eqI, nlt_T, nlt_F, nle_T, nle_F, neq_T, neq_F, nI_add, pk_mul, nI_clamp, q_inT, ng_lt, ng_tl, ng_le, ng_el, ng_eq, ng_qe, q_b0, q_b1, nar_0, nar_1, b01, b01', q_bn0, q_bn1, nar_n0, nar_n1, si_k, si_i, si_s, si_e, si_2, sl_1, sl_22, sl_k, sl_i, sl_s, sl_e, sp_1, sp_21, sp_22, sc_k, sc_i, sc_e, sc_2, mF_k, mM_k, mF_2, mM_2, mF_0, mM_11, ↓eu_L_X11_down_132, e3, c1]
    rw [hg]
    have a0 : v q + -(v q) = nI 0 := Int32.add_right_neg _
    rw [a0]
    have z0 : 0 ≤ (-(v q)).toInt := by omega
    refine m177 (m0 := m0) hq (by decide) h1.si (h2.si (q := q) (x := nI 0)) (fun t1 p1 p2 => ?_)
    rw [mk_tk z0] at p2 ⊢
    have z1 := tk_rest (a := fset v q (nI 0) ((q + 1) % 4)) z0
    refine m177 (m0 := m0) hq (by decide) p1 p2 (fun t2 r1 r2 => ?_)
    rw [mk_tk z1] at r2 ⊢
    refine m177 (m0 := m0) hq (by decide) r1 r2 (fun t3 s1 s2 => ?_)
    rw [mk_tk (tk_rest z1)] at s2 ⊢
    simp (disch := first | omega | decide) only [Nat.reduceAdd, Nat.reduceMul, ↓ev_bd, ↓ev_ck, ↓ev_if, ↓ev_lt, ↓ev_jn, ↓ev_so, ↓reduceIte, ↓ev_within, ↓ev_in, ↓ev_isBoard, ↓ev_isGauge, ↓ev_isNumber, ↓ev_isSix, ↓ev_isEight, ↓ev_foundN, ↓ev_meetsN, ↓ev_found_1, ↓ev_meets_1, ↓ev_found_2, ↓ev_meets_2, ↓ev_found_3, ↓ev_meets_3, ↓ev_found_4, ↓ev_meets_4, ↓ev_found_5, ↓ev_meets_5, true_and, and_true, and_self, eq_self, not_true_eq_false, not_false_eq_true, ite_true, ite_false, true_or, or_true, false_or, or_false, false_and, and_false, ← zi_ni_0, ← zi_ni_1, ← zi_ni_2, ← zi_ni_3, ← zi_ni_4, ← zi_ni_5, ← zi_ni_6, ← zi_ni_7, ← zi_ni_8, ← zi_ni_9, ← zi_ni_10, ← zi_ni_12, ← zi_ni_24, ← zi_ni_25, ← zi_ni_40, ← zi_ni_45, ← zi_ni_47, ← zi_ni_48, ← zi_ni_95, ← zi_ni_96, ← zi_ni_97, ← zi_ni_100, ← zi_ni_144, ← zi_ni_288, nI_ltI, nI_leI, nI_eqI, nlt_T, nlt_F, nle_T, nle_F, neq_T, neq_F, nI_add, pk_mul, nI_clamp, q_inT, ng_lt, ng_tl, ng_le, ng_el, ng_eq, ng_qe, q_b0, q_b1, nar_0, nar_1, b01, b01', q_bn0, q_bn1, nar_n0, nar_n1, si_k, si_i, si_s, si_e, si_2, sl_1, sl_22, sl_k, sl_i, sl_s, sl_e, sp_1, sp_21, sp_22, sc_k, sc_i, sc_e, sc_2, mF_k, mM_k, mF_2, mM_2, mF_0, mM_11, ↓eu_L_X11_down_177]
    exact K t3 s1 s2
