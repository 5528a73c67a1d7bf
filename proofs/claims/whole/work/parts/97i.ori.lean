/-! mirror, the whole call. -/
theorem op_mirror (a : Int32) : Op (f_X10_mirror a) (f_X11_mirror a) := by
  intro n μ hn h
  rcases y_ix6 a with ⟨j, hj, rfl⟩ | ha
  · rcases BD_of (h.2.2.2.1 j hj) with ⟨g1, g2⟩ | ⟨k, wd, hg, st, p, d, rc, pc, hD, hN⟩
    · simp (disch := first | omega | decide) only [Nat.reduceAdd, Nat.reduceMul, ↓ev_bd, ↓ev_ck, ↓ev_if, ↓ev_lt, ↓ev_jn, ↓ev_so, ↓reduceIte, ↓ev_within, ↓ev_in, ↓ev_isBoard, ↓ev_isGauge, ↓ev_isNumber, ↓ev_isSix, ↓ev_isEight, ↓ev_foundN, ↓ev_meetsN, ↓ev_found_1, ↓ev_meets_1, ↓ev_found_2, ↓ev_meets_2, ↓ev_found_3, ↓ev_meets_3, ↓ev_found_4, ↓ev_meets_4, ↓ev_found_5, ↓ev_meets_5, true_and, and_true, and_self, eq_self, not_true_eq_false, not_false_eq_true, ite_true, ite_false, true_or, or_true, false_or, or_false, false_and, and_false, ← zi_ni_0, ← zi_ni_1, ← zi_ni_2, ← zi_ni_3, ← zi_ni_4, ← zi_ni_5, ← zi_ni_6, ← zi_ni_7, ← zi_ni_8, ← zi_ni_9, ← zi_ni_10, ← zi_ni_12, ← zi_ni_24, ← zi_ni_25, ← zi_ni_40, ← zi_ni_45, ← zi_ni_47, ← zi_ni_48, ← zi_ni_95, ← zi_ni_96, ← zi_ni_97, ← zi_ni_100, ← zi_ni_144, ← zi_ni_288, nI_ltI, nI_leI, nI_eqI, nlt_T, nlt_F, nle_T, nle_F, neq_T, neq_F, nI_add, pk_mul, nI_clamp, q_inT, ng_lt, ng_tl, ng_le, ng_el, ng_eq, ng_qe, q_b0, q_b1, nar_0, nar_1, b01, b01', q_bn0, q_bn1, nar_n0, nar_n1, si_k, si_i, si_s, si_e, si_2, sl_1, sl_22, sl_k, sl_i, sl_s, sl_e, sp_1, sp_21, sp_22, sc_k, sc_i, sc_e, sc_2, mF_k, mM_k, mF_2, mM_2, mF_0, mM_11, ↓eu_X10_mirror, ↓eu_X11_mirror, ↓eu_X10_boardRefused, ↓eu_X11_askedFor, ↓eu_X10_bearsNest, g1, g2]
      exact h.met
    · obtain ⟨d0, ⟨d1, f1⟩, ⟨d2, f2⟩, ⟨d3, f3⟩, ⟨d4, f4⟩, ⟨d5, f5⟩, ⟨d6, f6⟩, ⟨d7, f7⟩, ⟨d8, f8⟩⟩ := hD
      obtain ⟨n1, n2, n3, n4, n5, n6, n7, n8, n9, n10, n11, n12, n13, n14⟩ := hN
      have hb3 := h.2.2.2.1 j hj
      have hEq := bEq hb3 d0
      have hWF := bWF (h.succ.2.2.2.1 j hj) d0
      by_cases hk2 : k = 2
      · subst hk2
        simp (disch := first | omega | decide) only [Nat.reduceAdd, Nat.reduceMul, ↓ev_bd, ↓ev_ck, ↓ev_if, ↓ev_lt, ↓ev_jn, ↓ev_so, ↓reduceIte, ↓ev_within, ↓ev_in, ↓ev_isBoard, ↓ev_isGauge, ↓ev_isNumber, ↓ev_isSix, ↓ev_isEight, ↓ev_foundN, ↓ev_meetsN, ↓ev_found_1, ↓ev_meets_1, ↓ev_found_2, ↓ev_meets_2, ↓ev_found_3, ↓ev_meets_3, ↓ev_found_4, ↓ev_meets_4, ↓ev_found_5, ↓ev_meets_5, true_and, and_true, and_self, eq_self, not_true_eq_false, not_false_eq_true, ite_true, ite_false, true_or, or_true, false_or, or_false, false_and, and_false, ← zi_ni_0, ← zi_ni_1, ← zi_ni_2, ← zi_ni_3, ← zi_ni_4, ← zi_ni_5, ← zi_ni_6, ← zi_ni_7, ← zi_ni_8, ← zi_ni_9, ← zi_ni_10, ← zi_ni_12, ← zi_ni_24, ← zi_ni_25, ← zi_ni_40, ← zi_ni_45, ← zi_ni_47, ← zi_ni_48, ← zi_ni_95, ← zi_ni_96, ← zi_ni_97, ← zi_ni_100, ← zi_ni_144, ← zi_ni_288, nI_ltI, nI_leI, nI_eqI, nlt_T, nlt_F, nle_T, nle_F, neq_T, neq_F, nI_add, pk_mul, nI_clamp, q_inT, ng_lt, ng_tl, ng_le, ng_el, ng_eq, ng_qe, q_b0, q_b1, nar_0, nar_1, b01, b01', q_bn0, q_bn1, nar_n0, nar_n1, si_k, si_i, si_s, si_e, si_2, sl_1, sl_22, sl_k, sl_i, sl_s, sl_e, sp_1, sp_21, sp_22, sc_k, sc_i, sc_e, sc_2, mF_k, mM_k, mF_2, mM_2, mF_0, mM_11, ↓eu_X10_mirror, ↓eu_X11_mirror, ↓eu_X10_boardRefused, ↓eu_X11_askedFor, ↓eu_X10_bearsNest, d0, d1, f1]
        exact h.met
      · obtain ⟨th, ne, on, dep, hf, hm, hnf, -⟩ := h.facts
        obtain ⟨gn1, gn2, gn3⟩ := GD.nn (v := cB μ j) d2 d3 n3 n5
        have hN48 : wd * hg ≤ 48 := Nat.mul_le_mul n3 n5
        have hDW : DW (cB μ j) wd hg := ⟨d2, d3, n2, n3, n4, n5, gn2, gn3, gn1, hN48⟩
        refine Ev.hide (fun P' K => ?_)
        simp (disch := first | omega | decide) only [Nat.reduceAdd, Nat.reduceMul, ↓ev_bd, ↓ev_ck, ↓ev_if, ↓ev_lt, ↓ev_jn, ↓ev_so, ↓reduceIte, ↓ev_within, ↓ev_in, ↓ev_isBoard, ↓ev_isGauge, ↓ev_isNumber, ↓ev_isSix, ↓ev_isEight, ↓ev_foundN, ↓ev_meetsN, ↓ev_found_1, ↓ev_meets_1, ↓ev_found_2, ↓ev_meets_2, ↓ev_found_3, ↓ev_meets_3, ↓ev_found_4, ↓ev_meets_4, ↓ev_found_5, ↓ev_meets_5, true_and, and_true, and_self, eq_self, not_true_eq_false, not_false_eq_true, ite_true, ite_false, true_or, or_true, false_or, or_false, false_and, and_false, ← zi_ni_0, ← zi_ni_1, ← zi_ni_2, ← zi_ni_3, ← zi_ni_4, ← zi_ni_5, ← zi_ni_6, ← zi_ni_7, ← zi_ni_8, ← zi_ni_9, ← zi_ni_10, ← zi_ni_12, ← zi_ni_24, ← zi_ni_25, ← zi_ni_40, ← zi_ni_45, ← zi_ni_47, ← zi_ni_48, ← zi_ni_95, ← zi_ni_96, ← zi_ni_97, ← zi_ni_100, ← zi_ni_144, ← zi_ni_288, nI_ltI, nI_leI, nI_eqI, nlt_T, nlt_F, nle_T, nle_F, neq_T, neq_F, nI_add, pk_mul, nI_clamp, q_inT, ng_lt, ng_tl, ng_le, ng_el, ng_eq, ng_qe, q_b0, q_b1, nar_0, nar_1, b01, b01', q_bn0, q_bn1, nar_n0, nar_n1, si_k, si_i, si_s, si_e, si_2, sl_1, sl_22, sl_k, sl_i, sl_s, sl_e, sp_1, sp_21, sp_22, sc_k, sc_i, sc_e, sc_2, mF_k, mM_k, mF_2, mM_2, mF_0, mM_11, ↓eu_X10_mirror, ↓eu_X11_mirror, ↓eu_X10_boardRefused, ↓eu_X11_askedFor, ↓eu_X10_bearsNest, d0, d1, f1]
        refine lp_bears hj hf hnf (fun ex => ?_) (fun nx => ?_)
        · try simp (disch := first | omega | decide) only [Nat.reduceAdd, Nat.reduceMul, ↓ev_bd, ↓ev_ck, ↓ev_if, ↓ev_lt, ↓ev_jn, ↓ev_so, ↓reduceIte, ↓ev_within, ↓ev_in, ↓ev_isBoard, ↓ev_isGauge, ↓ev_isNumber, ↓ev_isSix, ↓ev_isEight, ↓ev_foundN, ↓ev_meetsN, ↓ev_found_1, ↓ev_meets_1, ↓ev_found_2, ↓ev_meets_2, ↓ev_found_3, ↓ev_meets_3, ↓ev_found_4, ↓ev_meets_4, ↓ev_found_5, ↓ev_meets_5, true_and, and_true, and_self, eq_self, not_true_eq_false, not_false_eq_true, ite_true, ite_false, true_or, or_true, false_or, or_false, false_and, and_false, ← zi_ni_0, ← zi_ni_1, ← zi_ni_2, ← zi_ni_3, ← zi_ni_4, ← zi_ni_5, ← zi_ni_6, ← zi_ni_7, ← zi_ni_8, ← zi_ni_9, ← zi_ni_10, ← zi_ni_12, ← zi_ni_24, ← zi_ni_25, ← zi_ni_40, ← zi_ni_45, ← zi_ni_47, ← zi_ni_48, ← zi_ni_95, ← zi_ni_96, ← zi_ni_97, ← zi_ni_100, ← zi_ni_144, ← zi_ni_288, nI_ltI, nI_leI, nI_eqI, nlt_T, nlt_F, nle_T, nle_F, neq_T, neq_F, nI_add, pk_mul, nI_clamp, q_inT, ng_lt, ng_tl, ng_le, ng_el, ng_eq, ng_qe, q_b0, q_b1, nar_0, nar_1, b01, b01', q_bn0, q_bn1, nar_n0, nar_n1, si_k, si_i, si_s, si_e, si_2, sl_1, sl_22, sl_k, sl_i, sl_s, sl_e, sp_1, sp_21, sp_22, sc_k, sc_i, sc_e, sc_2, mF_k, mM_k, mF_2, mM_2, mF_0, mM_11]
          refine K _ _ ?_
          show Ev (f_X11_mirror _ μ) _
          refine Ev.hide (fun P'' K'' => ?_)
          simp (disch := first | omega | decide) only [Nat.reduceAdd, Nat.reduceMul, ↓ev_bd, ↓ev_ck, ↓ev_if, ↓ev_lt, ↓ev_jn, ↓ev_so, ↓reduceIte, ↓ev_within, ↓ev_in, ↓ev_isBoard, ↓ev_isGauge, ↓ev_isNumber, ↓ev_isSix, ↓ev_isEight, ↓ev_foundN, ↓ev_meetsN, ↓ev_found_1, ↓ev_meets_1, ↓ev_found_2, ↓ev_meets_2, ↓ev_found_3, ↓ev_meets_3, ↓ev_found_4, ↓ev_meets_4, ↓ev_found_5, ↓ev_meets_5, true_and, and_true, and_self, eq_self, not_true_eq_false, not_false_eq_true, ite_true, ite_false, true_or, or_true, false_or, or_false, false_and, and_false, ← zi_ni_0, ← zi_ni_1, ← zi_ni_2, ← zi_ni_3, ← zi_ni_4, ← zi_ni_5, ← zi_ni_6, ← zi_ni_7, ← zi_ni_8, ← zi_ni_9, ← zi_ni_10, ← zi_ni_12, ← zi_ni_24, ← zi_ni_25, ← zi_ni_40, ← zi_ni_45, ← zi_ni_47, ← zi_ni_48, ← zi_ni_95, ← zi_ni_96, ← zi_ni_97, ← zi_ni_100, ← zi_ni_144, ← zi_ni_288, nI_ltI, nI_leI, nI_eqI, nlt_T, nlt_F, nle_T, nle_F, neq_T, neq_F, nI_add, pk_mul, nI_clamp, q_inT, ng_lt, ng_tl, ng_le, ng_el, ng_eq, ng_qe, q_b0, q_b1, nar_0, nar_1, b01, b01', q_bn0, q_bn1, nar_n0, nar_n1, si_k, si_i, si_s, si_e, si_2, sl_1, sl_22, sl_k, sl_i, sl_s, sl_e, sp_1, sp_21, sp_22, sc_k, sc_i, sc_e, sc_2, mF_k, mM_k, mF_2, mM_2, mF_0, mM_11, ↓eu_X10_mirror, ↓eu_X11_mirror, ↓eu_X10_boardRefused, ↓eu_X11_askedFor, ↓eu_X10_bearsNest, d0, d1, f1]
          refine lp_mbears hj hm hnf (fun _ => ?_) (fun nx => ?_)
          · try simp (disch := first | omega | decide) only [Nat.reduceAdd, Nat.reduceMul, ↓ev_bd, ↓ev_ck, ↓ev_if, ↓ev_lt, ↓ev_jn, ↓ev_so, ↓reduceIte, ↓ev_within, ↓ev_in, ↓ev_isBoard, ↓ev_isGauge, ↓ev_isNumber, ↓ev_isSix, ↓ev_isEight, ↓ev_foundN, ↓ev_meetsN, ↓ev_found_1, ↓ev_meets_1, ↓ev_found_2, ↓ev_meets_2, ↓ev_found_3, ↓ev_meets_3, ↓ev_found_4, ↓ev_meets_4, ↓ev_found_5, ↓ev_meets_5, true_and, and_true, and_self, eq_self, not_true_eq_false, not_false_eq_true, ite_true, ite_false, true_or, or_true, false_or, or_false, false_and, and_false, ← zi_ni_0, ← zi_ni_1, ← zi_ni_2, ← zi_ni_3, ← zi_ni_4, ← zi_ni_5, ← zi_ni_6, ← zi_ni_7, ← zi_ni_8, ← zi_ni_9, ← zi_ni_10, ← zi_ni_12, ← zi_ni_24, ← zi_ni_25, ← zi_ni_40, ← zi_ni_45, ← zi_ni_47, ← zi_ni_48, ← zi_ni_95, ← zi_ni_96, ← zi_ni_97, ← zi_ni_100, ← zi_ni_144, ← zi_ni_288, nI_ltI, nI_leI, nI_eqI, nlt_T, nlt_F, nle_T, nle_F, neq_T, neq_F, nI_add, pk_mul, nI_clamp, q_inT, ng_lt, ng_tl, ng_le, ng_el, ng_eq, ng_qe, q_b0, q_b1, nar_0, nar_1, b01, b01', q_bn0, q_bn1, nar_n0, nar_n1, si_k, si_i, si_s, si_e, si_2, sl_1, sl_22, sl_k, sl_i, sl_s, sl_e, sp_1, sp_21, sp_22, sc_k, sc_i, sc_e, sc_2, mF_k, mM_k, mF_2, mM_2, mF_0, mM_11]
            exact K'' _ _ ⟨rfl, h.succ⟩
          · obtain ⟨x, hx, q⟩ := ex
            exact absurd q (nx x hx)
        · try simp (disch := first | omega | decide) only [Nat.reduceAdd, Nat.reduceMul, ↓ev_bd, ↓ev_ck, ↓ev_if, ↓ev_lt, ↓ev_jn, ↓ev_so, ↓reduceIte, ↓ev_within, ↓ev_in, ↓ev_isBoard, ↓ev_isGauge, ↓ev_isNumber, ↓ev_isSix, ↓ev_isEight, ↓ev_foundN, ↓ev_meetsN, ↓ev_found_1, ↓ev_meets_1, ↓ev_found_2, ↓ev_meets_2, ↓ev_found_3, ↓ev_meets_3, ↓ev_found_4, ↓ev_meets_4, ↓ev_found_5, ↓ev_meets_5, true_and, and_true, and_self, eq_self, not_true_eq_false, not_false_eq_true, ite_true, ite_false, true_or, or_true, false_or, or_false, false_and, and_false, ← zi_ni_0, ← zi_ni_1, ← zi_ni_2, ← zi_ni_3, ← zi_ni_4, ← zi_ni_5, ← zi_ni_6, ← zi_ni_7, ← zi_ni_8, ← zi_ni_9, ← zi_ni_10, ← zi_ni_12, ← zi_ni_24, ← zi_ni_25, ← zi_ni_40, ← zi_ni_45, ← zi_ni_47, ← zi_ni_48, ← zi_ni_95, ← zi_ni_96, ← zi_ni_97, ← zi_ni_100, ← zi_ni_144, ← zi_ni_288, nI_ltI, nI_leI, nI_eqI, nlt_T, nlt_F, nle_T, nle_F, neq_T, neq_F, nI_add, pk_mul, nI_clamp, q_inT, ng_lt, ng_tl, ng_le, ng_el, ng_eq, ng_qe, q_b0, q_b1, nar_0, nar_1, b01, b01', q_bn0, q_bn1, nar_n0, nar_n1, si_k, si_i, si_s, si_e, si_2, sl_1, sl_22, sl_k, sl_i, sl_s, sl_e, sp_1, sp_21, sp_22, sc_k, sc_i, sc_e, sc_2, mF_k, mM_k, mF_2, mM_2, mF_0, mM_11]
          refine ev_turn hDW hWF (fun u1 r0 r1 r2 => ?_)
          try simp (disch := first | omega | decide) only [Nat.reduceAdd, Nat.reduceMul, ↓ev_bd, ↓ev_ck, ↓ev_if, ↓ev_lt, ↓ev_jn, ↓ev_so, ↓reduceIte, ↓ev_within, ↓ev_in, ↓ev_isBoard, ↓ev_isGauge, ↓ev_isNumber, ↓ev_isSix, ↓ev_isEight, ↓ev_foundN, ↓ev_meetsN, ↓ev_found_1, ↓ev_meets_1, ↓ev_found_2, ↓ev_meets_2, ↓ev_found_3, ↓ev_meets_3, ↓ev_found_4, ↓ev_meets_4, ↓ev_found_5, ↓ev_meets_5, true_and, and_true, and_self, eq_self, not_true_eq_false, not_false_eq_true, ite_true, ite_false, true_or, or_true, false_or, or_false, false_and, and_false, ← zi_ni_0, ← zi_ni_1, ← zi_ni_2, ← zi_ni_3, ← zi_ni_4, ← zi_ni_5, ← zi_ni_6, ← zi_ni_7, ← zi_ni_8, ← zi_ni_9, ← zi_ni_10, ← zi_ni_12, ← zi_ni_24, ← zi_ni_25, ← zi_ni_40, ← zi_ni_45, ← zi_ni_47, ← zi_ni_48, ← zi_ni_95, ← zi_ni_96, ← zi_ni_97, ← zi_ni_100, ← zi_ni_144, ← zi_ni_288, nI_ltI, nI_leI, nI_eqI, nlt_T, nlt_F, nle_T, nle_F, neq_T, neq_F, nI_add, pk_mul, nI_clamp, q_inT, ng_lt, ng_tl, ng_le, ng_el, ng_eq, ng_qe, q_b0, q_b1, nar_0, nar_1, b01, b01', q_bn0, q_bn1, nar_n0, nar_n1, si_k, si_i, si_s, si_e, si_2, sl_1, sl_22, sl_k, sl_i, sl_s, sl_e, sp_1, sp_21, sp_22, sc_k, sc_i, sc_e, sc_2, mF_k, mM_k, mF_2, mM_2, mF_0, mM_11]
          have hR5 := h.2.2.2.2.2.1
          have hR6 := h.2.2.2.2.2.2.1
          have bt : ∀ k, k < 8 → μ.1 8 k 0 = nI j → ∃ c, c < wd * hg ∧ μ.1 8 k 1 = nI c ∧ μ.1 105 0 k = nI j ∧ μ.1 106 0 k = nI c := fun k hk e => by
            rcases hR5 k hk with ⟨z1, -⟩ | ⟨b, c, d', hb, e1, e2, e3, e4, e5, e6, -⟩
            · rw [z1] at e
              exact absurd e.symm (by rw [show (-9 : Int32) = -nI 9 from rfl, ng_qe (by decide) (by decide) (by omega)]; exact fun q => q)
            · rw [e2, nI_eq (by omega) (by omega)] at e
              subst e
              rw [gn1] at e4
              exact ⟨c, e4, e5, e3, e6⟩
          have gt : ∀ k, k < 8 → μ.1 9 k 2 = nI j → ∃ c, c < wd * hg ∧ μ.1 9 k 3 = nI c ∧ μ.1 108 0 k = nI j ∧ μ.1 109 0 k = nI c := fun k hk e => by
            rcases hR6 k hk with ⟨z1, -⟩ | ⟨b, c, f, m, hb, e1, e2, e3, e4, e5, e6, -⟩
            · rw [z1] at e
              exact absurd e.symm (by rw [show (-9 : Int32) = -nI 9 from rfl, ng_qe (by decide) (by decide) (by omega)]; exact fun q => q)
            · rw [e2, nI_eq (by omega) (by omega)] at e
              subst e
              rw [gn1] at e4
              exact ⟨c, e4, e5, e3, e6⟩
          have bt2 : ∀ k, k < 8 → μ.1 105 0 k = nI j → μ.1 8 k 0 = nI j := fun k hk e => by
            rcases hR5 k hk with ⟨-, z1⟩ | ⟨b, c, d', hb, e1, e2, e3, -⟩
            · rw [z1] at e
              exact absurd e.symm (by rw [show (-9 : Int32) = -nI 9 from rfl, ng_qe (by decide) (by decide) (by omega)]; exact fun q => q)
            · rw [e2, ← e3]; exact e
          have gt2 : ∀ k, k < 8 → μ.1 108 0 k = nI j → μ.1 9 k 2 = nI j := fun k hk e => by
            rcases hR6 k hk with ⟨-, z1⟩ | ⟨b, c, f, m, hb, e1, e2, e3, -⟩
            · rw [z1] at e
              exact absurd e.symm (by rw [show (-9 : Int32) = -nI 9 from rfl, ng_qe (by decide) (by decide) (by omega)]; exact fun q => q)
            · rw [e2, ← e3]; exact e
          refine lp_m52 hj n2 n3 ((r0 2 j 12 (by omega)).trans d2) (fun k hk e => ?_) (fun u2 p1 p2 p3 => ?_)
          · rw [r0 8 k 0 (by omega)] at e
            obtain ⟨c, l1, l2, -⟩ := bt k hk e
            exact ⟨c, by omega, (r0 8 k 1 (by omega)).trans l2⟩
          try simp (disch := first | omega | decide) only [Nat.reduceAdd, Nat.reduceMul, ↓ev_bd, ↓ev_ck, ↓ev_if, ↓ev_lt, ↓ev_jn, ↓ev_so, ↓reduceIte, ↓ev_within, ↓ev_in, ↓ev_isBoard, ↓ev_isGauge, ↓ev_isNumber, ↓ev_isSix, ↓ev_isEight, ↓ev_foundN, ↓ev_meetsN, ↓ev_found_1, ↓ev_meets_1, ↓ev_found_2, ↓ev_meets_2, ↓ev_found_3, ↓ev_meets_3, ↓ev_found_4, ↓ev_meets_4, ↓ev_found_5, ↓ev_meets_5, true_and, and_true, and_self, eq_self, not_true_eq_false, not_false_eq_true, ite_true, ite_false, true_or, or_true, false_or, or_false, false_and, and_false, ← zi_ni_0, ← zi_ni_1, ← zi_ni_2, ← zi_ni_3, ← zi_ni_4, ← zi_ni_5, ← zi_ni_6, ← zi_ni_7, ← zi_ni_8, ← zi_ni_9, ← zi_ni_10, ← zi_ni_12, ← zi_ni_24, ← zi_ni_25, ← zi_ni_40, ← zi_ni_45, ← zi_ni_47, ← zi_ni_48, ← zi_ni_95, ← zi_ni_96, ← zi_ni_97, ← zi_ni_100, ← zi_ni_144, ← zi_ni_288, nI_ltI, nI_leI, nI_eqI, nlt_T, nlt_F, nle_T, nle_F, neq_T, neq_F, nI_add, pk_mul, nI_clamp, q_inT, ng_lt, ng_tl, ng_le, ng_el, ng_eq, ng_qe, q_b0, q_b1, nar_0, nar_1, b01, b01', q_bn0, q_bn1, nar_n0, nar_n1, si_k, si_i, si_s, si_e, si_2, sl_1, sl_22, sl_k, sl_i, sl_s, sl_e, sp_1, sp_21, sp_22, sc_k, sc_i, sc_e, sc_2, mF_k, mM_k, mF_2, mM_2, mF_0, mM_11]
          refine lp_m106 hj n2 n3 ((p1 2 j 12 (by omega)).trans ((r0 2 j 12 (by omega)).trans d2)) (fun k hk e => ?_) (fun u3 o1 o2 o3 => ?_)
          · rw [p1 9 k 2 (by omega), r0 9 k 2 (by omega)] at e
            obtain ⟨c, l1, l2, -⟩ := gt k hk e
            exact ⟨c, by omega, (p1 9 k 3 (by omega)).trans ((r0 9 k 3 (by omega)).trans l2)⟩
          try simp (disch := first | omega | decide) only [Nat.reduceAdd, Nat.reduceMul, ↓ev_bd, ↓ev_ck, ↓ev_if, ↓ev_lt, ↓ev_jn, ↓ev_so, ↓reduceIte, ↓ev_within, ↓ev_in, ↓ev_isBoard, ↓ev_isGauge, ↓ev_isNumber, ↓ev_isSix, ↓ev_isEight, ↓ev_foundN, ↓ev_meetsN, ↓ev_found_1, ↓ev_meets_1, ↓ev_found_2, ↓ev_meets_2, ↓ev_found_3, ↓ev_meets_3, ↓ev_found_4, ↓ev_meets_4, ↓ev_found_5, ↓ev_meets_5, true_and, and_true, and_self, eq_self, not_true_eq_false, not_false_eq_true, ite_true, ite_false, true_or, or_true, false_or, or_false, false_and, and_false, ← zi_ni_0, ← zi_ni_1, ← zi_ni_2, ← zi_ni_3, ← zi_ni_4, ← zi_ni_5, ← zi_ni_6, ← zi_ni_7, ← zi_ni_8, ← zi_ni_9, ← zi_ni_10, ← zi_ni_12, ← zi_ni_24, ← zi_ni_25, ← zi_ni_40, ← zi_ni_45, ← zi_ni_47, ← zi_ni_48, ← zi_ni_95, ← zi_ni_96, ← zi_ni_97, ← zi_ni_100, ← zi_ni_144, ← zi_ni_288, nI_ltI, nI_leI, nI_eqI, nlt_T, nlt_F, nle_T, nle_F, neq_T, neq_F, nI_add, pk_mul, nI_clamp, q_inT, ng_lt, ng_tl, ng_le, ng_el, ng_eq, ng_qe, q_b0, q_b1, nar_0, nar_1, b01, b01', q_bn0, q_bn1, nar_n0, nar_n1, si_k, si_i, si_s, si_e, si_2, sl_1, sl_22, sl_k, sl_i, sl_s, sl_e, sp_1, sp_21, sp_22, sc_k, sc_i, sc_e, sc_2, mF_k, mM_k, mF_2, mM_2, mF_0, mM_11]
          refine K _ _ ?_
          show Ev (f_X11_mirror _ u3) _
          have C : ∀ a i s, ¬ (i = j ∧ ((37 ≤ a ∧ a ≤ 41) ∨ (a = 3 ∧ s = 2) ∨ a = 43)) → ¬ (a = 8 ∧ i < 8 ∧ s = 1) → ¬ (a = 9 ∧ i < 8 ∧ s = 3) → u3.1 a i s = μ.1 a i s := fun a i s q1 q2 q3 => (o1 a i s q3).trans ((p1 a i s q2).trans (r0 a i s q1))
          have E : ∀ a, 60 ≤ a ∨ a = 11 → u3.1 a = μ.1 a := fun a q => funext (fun i => funext (fun s => C a i s (by omega) (by omega) (by omega)))
          have cl2 : u3.2 = μ.2 := o2.trans (p2.trans r1)
          have b8 : ∀ k, k < 8 → (¬ μ.1 8 k 0 = nI j → u3.1 8 k 1 = μ.1 8 k 1) ∧ (μ.1 8 k 0 = nI j → ∀ c, c < 48 → μ.1 8 k 1 = nI c → u3.1 8 k 1 = nI (opw wd c)) := fun k hk => by
            have := p3 k hk
            rw [r0 8 k 0 (by omega), r0 8 k 1 (by omega)] at this
            rw [o1 8 k 1 (by omega)]
            exact this
          have b9 : ∀ k, k < 8 → (¬ μ.1 9 k 2 = nI j → u3.1 9 k 3 = μ.1 9 k 3) ∧ (μ.1 9 k 2 = nI j → ∀ c, c < 48 → μ.1 9 k 3 = nI c → u3.1 9 k 3 = nI (opw wd c)) := fun k hk => by
            have := o3 k hk
            rw [p1 9 k 2 (by omega), r0 9 k 2 (by omega), p1 9 k 3 (by omega), r0 9 k 3 (by omega)] at this
            exact this
          have m3j : ∀ x, mB u3 x = mB μ x := fun x => mB_ext (E _ (by decide)) (E _ (by decide)) (E _ (by decide)) (E _ (by decide)) (E _ (by decide)) (E _ (by decide)) (E _ (by decide)) (E _ (by decide)) (E _ (by decide)) (E _ (by decide)) (E _ (by decide)) (E _ (by decide)) (E _ (by decide)) (E _ (by decide)) (E _ (by decide)) (E _ (by decide)) (E _ (by decide)) (E _ (by decide)) (E _ (by decide)) (E _ (by decide)) (E _ (by decide)) (E _ (by decide))
          have c3j : cB u3 j = mir (cB μ j) := by
            rw [← r2]
            apply cB_ext <;> exact funext (fun s => (o1 _ j s (by omega)).trans (p1 _ j s (by omega)))
          have c3x : ∀ x, x ≠ j → cB u3 x = cB μ x := fun x q => by apply cB_ext <;> exact funext (fun s => C _ x s (by omega) (by omega) (by omega))
          have e74 : u3.1 74 = μ.1 74 := E 74 (by decide)
          have e96 : u3.1 96 = μ.1 96 := E 96 (by decide)
          refine Ev.hide (fun P'' K'' => ?_)
          simp (disch := first | omega | decide) only [Nat.reduceAdd, Nat.reduceMul, ↓ev_bd, ↓ev_ck, ↓ev_if, ↓ev_lt, ↓ev_jn, ↓ev_so, ↓reduceIte, ↓ev_within, ↓ev_in, ↓ev_isBoard, ↓ev_isGauge, ↓ev_isNumber, ↓ev_isSix, ↓ev_isEight, ↓ev_foundN, ↓ev_meetsN, ↓ev_found_1, ↓ev_meets_1, ↓ev_found_2, ↓ev_meets_2, ↓ev_found_3, ↓ev_meets_3, ↓ev_found_4, ↓ev_meets_4, ↓ev_found_5, ↓ev_meets_5, true_and, and_true, and_self, eq_self, not_true_eq_false, not_false_eq_true, ite_true, ite_false, true_or, or_true, false_or, or_false, false_and, and_false, ← zi_ni_0, ← zi_ni_1, ← zi_ni_2, ← zi_ni_3, ← zi_ni_4, ← zi_ni_5, ← zi_ni_6, ← zi_ni_7, ← zi_ni_8, ← zi_ni_9, ← zi_ni_10, ← zi_ni_12, ← zi_ni_24, ← zi_ni_25, ← zi_ni_40, ← zi_ni_45, ← zi_ni_47, ← zi_ni_48, ← zi_ni_95, ← zi_ni_96, ← zi_ni_97, ← zi_ni_100, ← zi_ni_144, ← zi_ni_288, nI_ltI, nI_leI, nI_eqI, nlt_T, nlt_F, nle_T, nle_F, neq_T, neq_F, nI_add, pk_mul, nI_clamp, q_inT, ng_lt, ng_tl, ng_le, ng_el, ng_eq, ng_qe, q_b0, q_b1, nar_0, nar_1, b01, b01', q_bn0, q_bn1, nar_n0, nar_n1, si_k, si_i, si_s, si_e, si_2, sl_1, sl_22, sl_k, sl_i, sl_s, sl_e, sp_1, sp_21, sp_22, sc_k, sc_i, sc_e, sc_2, mF_k, mM_k, mF_2, mM_2, mF_0, mM_11, ↓eu_X10_mirror, ↓eu_X11_mirror, ↓eu_X10_boardRefused, ↓eu_X11_askedFor, ↓eu_X10_bearsNest, e74, f1]
          refine lp_mbears hj (hm.of e74 e96) hnf (fun ex => ?_) (fun _ => ?_)
          · obtain ⟨x, hx, q⟩ := ex
            exact absurd q (nx x hx)
          try simp (disch := first | omega | decide) only [Nat.reduceAdd, Nat.reduceMul, ↓ev_bd, ↓ev_ck, ↓ev_if, ↓ev_lt, ↓ev_jn, ↓ev_so, ↓reduceIte, ↓ev_within, ↓ev_in, ↓ev_isBoard, ↓ev_isGauge, ↓ev_isNumber, ↓ev_isSix, ↓ev_isEight, ↓ev_foundN, ↓ev_meetsN, ↓ev_found_1, ↓ev_meets_1, ↓ev_found_2, ↓ev_meets_2, ↓ev_found_3, ↓ev_meets_3, ↓ev_found_4, ↓ev_meets_4, ↓ev_found_5, ↓ev_meets_5, true_and, and_true, and_self, eq_self, not_true_eq_false, not_false_eq_true, ite_true, ite_false, true_or, or_true, false_or, or_false, false_and, and_false, ← zi_ni_0, ← zi_ni_1, ← zi_ni_2, ← zi_ni_3, ← zi_ni_4, ← zi_ni_5, ← zi_ni_6, ← zi_ni_7, ← zi_ni_8, ← zi_ni_9, ← zi_ni_10, ← zi_ni_12, ← zi_ni_24, ← zi_ni_25, ← zi_ni_40, ← zi_ni_45, ← zi_ni_47, ← zi_ni_48, ← zi_ni_95, ← zi_ni_96, ← zi_ni_97, ← zi_ni_100, ← zi_ni_144, ← zi_ni_288, nI_ltI, nI_leI, nI_eqI, nlt_T, nlt_F, nle_T, nle_F, neq_T, neq_F, nI_add, pk_mul, nI_clamp, q_inT, ng_lt, ng_tl, ng_le, ng_el, ng_eq, ng_qe, q_b0, q_b1, nar_0, nar_1, b01, b01', q_bn0, q_bn1, nar_n0, nar_n1, si_k, si_i, si_s, si_e, si_2, sl_1, sl_22, sl_k, sl_i, sl_s, sl_e, sp_1, sp_21, sp_22, sc_k, sc_i, sc_e, sc_2, mF_k, mM_k, mF_2, mM_2, mF_0, mM_11]
          have h5v : ∀ s, cB μ j 5 s = 0 ∨ cB μ j 5 s = 1 := hWF.2.1.2.2.2.1
          have m3 : mB u3 j = cB μ j := (m3j j).trans hEq
          refine ev_bring (by omega) (by omega) (by omega) (fun s => by rw [m3]; exact h5v s) (fun u4 s0 s1 s2 s3 => ?_)
          try simp (disch := first | omega | decide) only [Nat.reduceAdd, Nat.reduceMul, ↓ev_bd, ↓ev_ck, ↓ev_if, ↓ev_lt, ↓ev_jn, ↓ev_so, ↓reduceIte, ↓ev_within, ↓ev_in, ↓ev_isBoard, ↓ev_isGauge, ↓ev_isNumber, ↓ev_isSix, ↓ev_isEight, ↓ev_foundN, ↓ev_meetsN, ↓ev_found_1, ↓ev_meets_1, ↓ev_found_2, ↓ev_meets_2, ↓ev_found_3, ↓ev_meets_3, ↓ev_found_4, ↓ev_meets_4, ↓ev_found_5, ↓ev_meets_5, true_and, and_true, and_self, eq_self, not_true_eq_false, not_false_eq_true, ite_true, ite_false, true_or, or_true, false_or, or_false, false_and, and_false, ← zi_ni_0, ← zi_ni_1, ← zi_ni_2, ← zi_ni_3, ← zi_ni_4, ← zi_ni_5, ← zi_ni_6, ← zi_ni_7, ← zi_ni_8, ← zi_ni_9, ← zi_ni_10, ← zi_ni_12, ← zi_ni_24, ← zi_ni_25, ← zi_ni_40, ← zi_ni_45, ← zi_ni_47, ← zi_ni_48, ← zi_ni_95, ← zi_ni_96, ← zi_ni_97, ← zi_ni_100, ← zi_ni_144, ← zi_ni_288, nI_ltI, nI_leI, nI_eqI, nlt_T, nlt_F, nle_T, nle_F, neq_T, neq_F, nI_add, pk_mul, nI_clamp, q_inT, ng_lt, ng_tl, ng_le, ng_el, ng_eq, ng_qe, q_b0, q_b1, nar_0, nar_1, b01, b01', q_bn0, q_bn1, nar_n0, nar_n1, si_k, si_i, si_s, si_e, si_2, sl_1, sl_22, sl_k, sl_i, sl_s, sl_e, sp_1, sp_21, sp_22, sc_k, sc_i, sc_e, sc_2, mF_k, mM_k, mF_2, mM_2, mF_0, mM_11]
          have m4 : mB u4 j = cB μ j := (s3 j (by omega)).trans m3
          refine lp_mturn (v := cB μ j) hj hDW h5v (s2.trans m3) m4 (fun u5 hT => ?_)
          have hT1 := hT.1
          try simp (disch := first | omega | decide) only [Nat.reduceAdd, Nat.reduceMul, ↓ev_bd, ↓ev_ck, ↓ev_if, ↓ev_lt, ↓ev_jn, ↓ev_so, ↓reduceIte, ↓ev_within, ↓ev_in, ↓ev_isBoard, ↓ev_isGauge, ↓ev_isNumber, ↓ev_isSix, ↓ev_isEight, ↓ev_foundN, ↓ev_meetsN, ↓ev_found_1, ↓ev_meets_1, ↓ev_found_2, ↓ev_meets_2, ↓ev_found_3, ↓ev_meets_3, ↓ev_found_4, ↓ev_meets_4, ↓ev_found_5, ↓ev_meets_5, true_and, and_true, and_self, eq_self, not_true_eq_false, not_false_eq_true, ite_true, ite_false, true_or, or_true, false_or, or_false, false_and, and_false, ← zi_ni_0, ← zi_ni_1, ← zi_ni_2, ← zi_ni_3, ← zi_ni_4, ← zi_ni_5, ← zi_ni_6, ← zi_ni_7, ← zi_ni_8, ← zi_ni_9, ← zi_ni_10, ← zi_ni_12, ← zi_ni_24, ← zi_ni_25, ← zi_ni_40, ← zi_ni_45, ← zi_ni_47, ← zi_ni_48, ← zi_ni_95, ← zi_ni_96, ← zi_ni_97, ← zi_ni_100, ← zi_ni_144, ← zi_ni_288, nI_ltI, nI_leI, nI_eqI, nlt_T, nlt_F, nle_T, nle_F, neq_T, neq_F, nI_add, pk_mul, nI_clamp, q_inT, ng_lt, ng_tl, ng_le, ng_el, ng_eq, ng_qe, q_b0, q_b1, nar_0, nar_1, b01, b01', q_bn0, q_bn1, nar_n0, nar_n1, si_k, si_i, si_s, si_e, si_2, sl_1, sl_22, sl_k, sl_i, sl_s, sl_e, sp_1, sp_21, sp_22, sc_k, sc_i, sc_e, sc_2, mF_k, mM_k, mF_2, mM_2, mF_0, mM_11]
          have v75 : u4.1 75 0 j = nI wd := (congrFun (congrFun m4 0) 1).trans d2
          have v86 : u4.1 86 0 j = nI rc := (congrFun (congrFun m4 0) 12).trans (d7)
          have v79 : u4.1 79 0 j = cB μ j 0 10 := congrFun (congrFun m4 0) 10
          have w79 : u5.1 79 0 j = cB μ j 0 10 := (hT1 79 0 j (by omega)).trans v79
          rw [w79]
          have hrc : rcN (cB μ j) = rc := by
            show (cB μ j 0 12).toNatClampNeg = rc
            rw [show cB μ j 0 12 = nI rc from d7]
            exact nI_clamp (by omega)
          have hcs : ∀ k, k < rc → ∃ c, c < 48 ∧ cB μ j 7 k = nI c := fun k hk => by
            obtain ⟨c, hc, e⟩ := hWF.2.2.1 k (by rw [show (cB μ j 0 12).toNatClampNeg = rc from hrc]; exact hk)
            rw [gn1] at hc
            exact ⟨c, by omega, e⟩
          have q87 : ∀ s, s < 4 → u4.1 87 0 (4 * j + s) = cB μ j 7 s := fun s hs => by rw [← m4, mR_7 hs]
          refine lp_m351 (w := wd) (rc := rc) hj n2 n3 ?_ ?_ (by omega) (fun k hk => ?_) (fun u6 y1 y2 y3 => ?_)
          · rw [si_k (by decide), si_k (by decide), hT1 75 0 j (by omega)]; exact v75
          · rw [si_k (by decide), si_k (by decide), hT1 86 0 j (by omega)]; exact v86
          · obtain ⟨c, hc, e⟩ := hcs k hk
            refine ⟨c, hc, ?_⟩
            rw [si_k (by decide), si_k (by decide), hT1 87 0 _ (by omega), q87 k (by omega)]
            exact e
          try simp (disch := first | omega | decide) only [Nat.reduceAdd, Nat.reduceMul, ↓ev_bd, ↓ev_ck, ↓ev_if, ↓ev_lt, ↓ev_jn, ↓ev_so, ↓reduceIte, ↓ev_within, ↓ev_in, ↓ev_isBoard, ↓ev_isGauge, ↓ev_isNumber, ↓ev_isSix, ↓ev_isEight, ↓ev_foundN, ↓ev_meetsN, ↓ev_found_1, ↓ev_meets_1, ↓ev_found_2, ↓ev_meets_2, ↓ev_found_3, ↓ev_meets_3, ↓ev_found_4, ↓ev_meets_4, ↓ev_found_5, ↓ev_meets_5, true_and, and_true, and_self, eq_self, not_true_eq_false, not_false_eq_true, ite_true, ite_false, true_or, or_true, false_or, or_false, false_and, and_false, ← zi_ni_0, ← zi_ni_1, ← zi_ni_2, ← zi_ni_3, ← zi_ni_4, ← zi_ni_5, ← zi_ni_6, ← zi_ni_7, ← zi_ni_8, ← zi_ni_9, ← zi_ni_10, ← zi_ni_12, ← zi_ni_24, ← zi_ni_25, ← zi_ni_40, ← zi_ni_45, ← zi_ni_47, ← zi_ni_48, ← zi_ni_95, ← zi_ni_96, ← zi_ni_97, ← zi_ni_100, ← zi_ni_144, ← zi_ni_288, nI_ltI, nI_leI, nI_eqI, nlt_T, nlt_F, nle_T, nle_F, neq_T, neq_F, nI_add, pk_mul, nI_clamp, q_inT, ng_lt, ng_tl, ng_le, ng_el, ng_eq, ng_qe, q_b0, q_b1, nar_0, nar_1, b01, b01', q_bn0, q_bn1, nar_n0, nar_n1, si_k, si_i, si_s, si_e, si_2, sl_1, sl_22, sl_k, sl_i, sl_s, sl_e, sp_1, sp_21, sp_22, sc_k, sc_i, sc_e, sc_2, mF_k, mM_k, mF_2, mM_2, mF_0, mM_11]
          have F6 : ∀ a i s, ¬ (a = 87 ∧ i = 0 ∧ 4 * j ≤ s ∧ s < 4 * j + 4) → ¬ (a = 79 ∧ i = 0 ∧ s = j) → ¬ (a = 74 ∧ i = 0 ∧ s = 6) → u6.1 a i s = u5.1 a i s := fun a i s q1 q2 q3 => by rw [y1 a i s q1, si_n q2, si_n q3]
          have M6 : ∀ a i s, isMK a = false → a ≠ 99 → a ≠ 100 → u6.1 a i s = u3.1 a i s := fun a i s q1 q2 q3 => by
            have k1 : ¬ (a = 74 ∨ a = 79 ∨ a = 87 ∨ a = 91 ∨ a = 92 ∨ a = 93 ∨ a = 94 ∨ a = 95) := fun z => by
              rcases z with rfl | rfl | rfl | rfl | rfl | rfl | rfl | rfl <;> cases q1
            rw [F6 a i s (by omega) (by omega) (by omega), hT1 a i s (by omega)]
            exact s0 a i s (fun z => by rw [q1] at z; cases z.1) (fun z => q2 z.1) (fun z => q3 z.1)
          refine lp_m394 (w := wd) hj n2 n3 ?_ (fun k hk e => ?_) (fun k hk e => ?_) (fun u7 z1 z2 z3 z4 => ?_)
          · rw [F6 75 0 j (by omega) (by omega) (by omega), hT1 75 0 j (by omega)]; exact v75
          · rw [M6 105 0 k rfl (by decide) (by decide), E 105 (by decide)] at e
            obtain ⟨c, l1, -, -, l2⟩ := bt k hk (bt2 k hk e)
            exact ⟨c, by omega, by rw [M6 106 0 k rfl (by decide) (by decide), E 106 (by decide)]; exact l2⟩
          · rw [M6 108 0 k rfl (by decide) (by decide), E 108 (by decide)] at e
            obtain ⟨c, l1, -, -, l2⟩ := gt k hk (gt2 k hk e)
            exact ⟨c, by omega, by rw [M6 109 0 k rfl (by decide) (by decide), E 109 (by decide)]; exact l2⟩
          try simp (disch := first | omega | decide) only [Nat.reduceAdd, Nat.reduceMul, ↓ev_bd, ↓ev_ck, ↓ev_if, ↓ev_lt, ↓ev_jn, ↓ev_so, ↓reduceIte, ↓ev_within, ↓ev_in, ↓ev_isBoard, ↓ev_isGauge, ↓ev_isNumber, ↓ev_isSix, ↓ev_isEight, ↓ev_foundN, ↓ev_meetsN, ↓ev_found_1, ↓ev_meets_1, ↓ev_found_2, ↓ev_meets_2, ↓ev_found_3, ↓ev_meets_3, ↓ev_found_4, ↓ev_meets_4, ↓ev_found_5, ↓ev_meets_5, true_and, and_true, and_self, eq_self, not_true_eq_false, not_false_eq_true, ite_true, ite_false, true_or, or_true, false_or, or_false, false_and, and_false, ← zi_ni_0, ← zi_ni_1, ← zi_ni_2, ← zi_ni_3, ← zi_ni_4, ← zi_ni_5, ← zi_ni_6, ← zi_ni_7, ← zi_ni_8, ← zi_ni_9, ← zi_ni_10, ← zi_ni_12, ← zi_ni_24, ← zi_ni_25, ← zi_ni_40, ← zi_ni_45, ← zi_ni_47, ← zi_ni_48, ← zi_ni_95, ← zi_ni_96, ← zi_ni_97, ← zi_ni_100, ← zi_ni_144, ← zi_ni_288, nI_ltI, nI_leI, nI_eqI, nlt_T, nlt_F, nle_T, nle_F, neq_T, neq_F, nI_add, pk_mul, nI_clamp, q_inT, ng_lt, ng_tl, ng_le, ng_el, ng_eq, ng_qe, q_b0, q_b1, nar_0, nar_1, b01, b01', q_bn0, q_bn1, nar_n0, nar_n1, si_k, si_i, si_s, si_e, si_2, sl_1, sl_22, sl_k, sl_i, sl_s, sl_e, sp_1, sp_21, sp_22, sc_k, sc_i, sc_e, sc_2, mF_k, mM_k, mF_2, mM_2, mF_0, mM_11]
          refine K'' _ _ ⟨rfl, ?_⟩
          have G : ∀ a i s, isMK a = false → a ≠ 99 → a ≠ 100 → a ≠ 106 → a ≠ 109 → u7.1 a i s = u3.1 a i s := fun a i s q1 q2 q3 q4 q5 => (z1 a i s (by omega)).trans (M6 a i s q1 q2 q3)
          have GE : ∀ a, isMK a = false → a ≠ 99 → a ≠ 100 → a ≠ 106 → a ≠ 109 → (60 ≤ a ∨ a = 11) → u7.1 a = μ.1 a := fun a q1 q2 q3 q4 q5 q6 => by rw [← E a q6]; exact funext (fun i => funext (fun s => G a i s q1 q2 q3 q4 q5))
          have GC : ∀ a, a < 60 → a ≠ 11 → ¬ (37 ≤ a ∧ a ≤ 41) → a ≠ 3 → a ≠ 43 → a ≠ 8 → a ≠ 9 → u7.1 a = μ.1 a := fun a q1 q2 q3 q4 q5 q6 q7 => funext (fun i => funext (fun s => (G a i s (nMK (by omega)) (by omega) (by omega) (by omega) (by omega)).trans (C a i s (by omega) (by omega) (by omega))))
          have l2 : u7.2 = μ.2 := z2.trans (y2.trans (hT.2.1.trans (s1.trans cl2)))
          have H : ∀ a s, ¬ (((a = 91 ∨ a = 92) ∧ 48 * j ≤ s ∧ s < 48 * j + 48) ∨ (a = 93 ∧ 144 * j ≤ s ∧ s < 144 * j + 144) ∨ ((a = 94 ∨ a = 95) ∧ 96 * j ≤ s ∧ s < 96 * j + 96)) → ¬ (a = 87 ∧ 4 * j ≤ s ∧ s < 4 * j + 4) → ¬ (a = 79 ∧ s = j) → ¬ (a = 74 ∧ s = 6) → a ≠ 106 → a ≠ 109 → u7.1 a 0 s = u4.1 a 0 s := fun a s q1 q2 q3 q4 q5 q6 => by
            rw [z1 a 0 s (by omega), F6 a 0 s (by omega) (by omega) (by omega), hT1 a 0 s (by omega)]
          have H5 : ∀ a s, 88 ≤ a → a ≠ 106 → a ≠ 109 → u7.1 a 0 s = u5.1 a 0 s := fun a s q1 q5 q6 => by
            rw [z1 a 0 s (by omega), F6 a 0 s (by omega) (by omega) (by omega)]
          have mx : ∀ x, x < 6 → x ≠ j → mB u7 x = mB μ x := fun x hx q => by
            rw [← m3j x, ← s3 x (by omega)]
            exact mB_pt (fun a ha => H a x (by omega) (by omega) (by omega) (by omega) (by omega) (by omega)) (fun a s ha hs => H a _ (by omega) (by omega) (by omega) (by omega) (by omega) (by omega)) (fun a s ha hs => H a _ (by omega) (by omega) (by omega) (by omega) (by omega) (by omega)) (fun s hs => H 93 _ (by omega) (by omega) (by omega) (by omega) (by omega) (by omega)) (fun a s ha hs => H a _ (by omega) (by omega) (by omega) (by omega) (by omega) (by omega))
          obtain ⟨-, -, t1, t2, t3, t4, t5, t6, t7⟩ := hT
          have mj : mB u7 j = mir (cB μ j) := by
            refine mB_mir (u := u4) (w := wd) (h := hg) (rc := rc) n2 n3 hN48 gn2 gn1 hrc (by omega) m4 (fun a ha => H a j (by omega) (by omega) (by omega) (by omega) (by omega) (by omega)) ?_ (fun a s ha hs => H a _ (by omega) (by omega) (by omega) (by omega) (by omega) (by omega)) (fun s hs => ?_) (fun s hs => (H5 91 _ (by decide) (by decide) (by decide)).trans (t1 s hs)) (fun s hs => (H5 92 _ (by decide) (by decide) (by decide)).trans (t2 s hs)) (fun s hs => (H5 93 _ (by decide) (by decide) (by decide)).trans (t3 s hs)) (fun s hs hp => (H5 94 _ (by decide) (by decide) (by decide)).trans (t4 s hs hp)) (fun s hs hp => (H5 94 _ (by decide) (by decide) (by decide)).trans (t5 s hs hp)) (fun s hs hp => (H5 95 _ (by decide) (by decide) (by decide)).trans (t6 s hs hp)) (fun s hs hp => (H5 95 _ (by decide) (by decide) (by decide)).trans (t7 s hs hp))
            · rw [z1 79 0 j (by omega), y1 79 0 j (by omega), si_e]
            · rw [z1 87 0 _ (by omega), y3 s hs, si_k (by decide), si_k (by decide), hT1 87 0 _ (by omega)]
          have cj : cB u7 j = mir (cB μ j) := by
            rw [← c3j]
            apply cB_ext <;> exact funext (fun s => G _ j s (nMK (by decide)) (by decide) (by decide) (by decide) (by decide))
          have cx : ∀ x, x ≠ j → cB u7 x = cB μ x := fun x q => by
            rw [← c3x x q]
            apply cB_ext <;> exact funext (fun s => G _ x s (nMK (by decide)) (by decide) (by decide) (by decide) (by decide))
          have g2 : u7.1 2 = μ.1 2 := GC 2 (by decide) (by decide) (by decide) (by decide) (by decide) (by decide) (by decide)
          have g5 : u7.1 5 = μ.1 5 := GC 5 (by decide) (by decide) (by decide) (by decide) (by decide) (by decide) (by decide)
          have nNx : ∀ x, nN (cB u7 x) = nN (cB μ x) := fun x => by
            by_cases q : x = j
            · rw [q, cj]; rfl
            · rw [cx x q]
          have gc : ∀ a, a < 60 → a ≠ 11 → ¬ (37 ≤ a ∧ a ≤ 41) → a ≠ 3 → a ≠ 43 → a ≠ 8 → a ≠ 9 → u7.1 a = μ.1 a := GC
          have ge9 : ∀ k s, s ≠ 3 → u7.1 9 k s = μ.1 9 k s := fun k s q => (G 9 k s rfl (by decide) (by decide) (by decide) (by decide)).trans (C 9 k s (by omega) (by omega) (by omega))
          have ge8 : ∀ k s, s ≠ 1 → u7.1 8 k s = μ.1 8 k s := fun k s q => (G 8 k s rfl (by decide) (by decide) (by decide) (by decide)).trans (C 8 k s (by omega) (by omega) (by omega))
          obtain ⟨h0, h1, h2, h3, h4, h5, h6, h7, h8⟩ := h.succ
          refine ⟨R0_ext (gc 0 (by decide) (by decide) (by decide) (by decide) (by decide) (by decide) (by decide)) (GE 11 rfl (by decide) (by decide) (by decide) (by decide) (by decide)) (by rw [l2]) (by rw [l2]) (gc 36 (by decide) (by decide) (by decide) (by decide) (by decide) (by decide) (by decide)) (GE 61 rfl (by decide) (by decide) (by decide) (by decide) (by decide)) h0, R1_ext (by rw [gc 33 (by decide) (by decide) (by decide) (by decide) (by decide) (by decide) (by decide)]) (GE 66 rfl (by decide) (by decide) (by decide) (by decide) (by decide)) (GE 67 rfl (by decide) (by decide) (by decide) (by decide) (by decide)) (gc 30 (by decide) (by decide) (by decide) (by decide) (by decide) (by decide) (by decide)) h1, R2_ext (by rw [gc 33 (by decide) (by decide) (by decide) (by decide) (by decide) (by decide) (by decide)]) (GE 69 rfl (by decide) (by decide) (by decide) (by decide) (by decide)) (GE 70 rfl (by decide) (by decide) (by decide) (by decide) (by decide)) (gc 31 (by decide) (by decide) (by decide) (by decide) (by decide) (by decide) (by decide)) h2, R3_upd h3 (Nat.le_refl _) (fun x hx tt htt => ?_) (fun x hx hz => ?_) (fun x hx hz => ?_) (fun x hx => ?_) (fun x hx => ?_) (fun x hx => ?_) (fun x hx => by rw [g2]) (fun x hx => by rw [g5]) (fun x hx => by rw [gc 45 (by decide) (by decide) (by decide) (by decide) (by decide) (by decide) (by decide)]) (fun x hx => by rw [gc 46 (by decide) (by decide) (by decide) (by decide) (by decide) (by decide) (by decide)]) (GE 96 rfl (by decide) (by decide) (by decide) (by decide) (by decide)) (GE 97 rfl (by decide) (by decide) (by decide) (by decide) (by decide)) (GE 98 rfl (by decide) (by decide) (by decide) (by decide) (by decide)) (fun s hs => ?_) (fun s hs => ?_), R4_ext' (fun x hx => by rw [g2]) (fun x hx => by rw [g2]) (fun x hx => by rw [g5]) h4, fun k hk => ?_, fun k hk => ?_, R7_ext (by rw [gc 0 (by decide) (by decide) (by decide) (by decide) (by decide) (by decide) (by decide)]) (by rw [GE 11 rfl (by decide) (by decide) (by decide) (by decide) (by decide)]) (by rw [gc 33 (by decide) (by decide) (by decide) (by decide) (by decide) (by decide) (by decide)]) (GE 122 rfl (by decide) (by decide) (by decide) (by decide) (by decide)) (GE 123 rfl (by decide) (by decide) (by decide) (by decide) (by decide)) (gc 32 (by decide) (by decide) (by decide) (by decide) (by decide) (by decide) (by decide)) (gc 34 (by decide) (by decide) (by decide) (by decide) (by decide) (by decide) (by decide)) (GE 124 rfl (by decide) (by decide) (by decide) (by decide) (by decide)) h7, R8_ext (by rw [gc 10 (by decide) (by decide) (by decide) (by decide) (by decide) (by decide) (by decide)]) (by rw [GE 11 rfl (by decide) (by decide) (by decide) (by decide) (by decide)]) (by rw [GE 11 rfl (by decide) (by decide) (by decide) (by decide) (by decide)]) (by rw [GE 11 rfl (by decide) (by decide) (by decide) (by decide) (by decide)]) (by rw [l2]) (by rw [l2]) h8⟩
          · by_cases q : x = j
            · rw [q, mj, cj]
            · rw [mx x hx q, cx x q]; exact (h3 x hx).1 tt htt
          · by_cases q : x = j
            · rw [q, mj, cj]
              exact ⟨rfl, WF_mir (bWF (h3 j hj) d0)⟩
            · rw [mx x hx q, cx x q]
              exact ⟨by rw [bEq (h3 x hx) hz], bWF (h3 x hx) hz⟩
          · by_cases q : x = j
            · rw [q, d0] at hz
              exact absurd hz (by decide +kernel)
            · exact congrFun (congrFun (mx x hx q) 0) 0
          · by_cases q : x = j
            · rw [q, cj]; rfl
            · rw [cx x q]
          · by_cases q : x = j
            · rw [q, cj]; rfl
            · rw [cx x q]
          · by_cases q : x = j
            · rw [q, cj]; rfl
            · rw [cx x q]
          · rw [z1 99 0 s (by omega), F6 99 0 s (by omega) (by omega) (by omega), hT1 99 0 s (by omega), s0 99 0 s (fun z => by have := isMK_96 z.1; omega) (by omega) (by omega), E 99 (by decide)]
          · rw [z1 100 0 s (by omega), F6 100 0 s (by omega) (by omega) (by omega), hT1 100 0 s (by omega), s0 100 0 s (fun z => by have := isMK_96 z.1; omega) (by omega) (by omega), E 100 (by decide)]
          · have a0 : u7.1 8 k 0 = μ.1 8 k 0 := ge8 k 0 (by decide)
            have a2 : u7.1 8 k 2 = μ.1 8 k 2 := ge8 k 2 (by decide)
            have a5 : u7.1 105 0 k = μ.1 105 0 k := congrFun (congrFun (GE 105 rfl (by decide) (by decide) (by decide) (by decide) (by decide)) 0) k
            have a7 : u7.1 107 0 k = μ.1 107 0 k := congrFun (congrFun (GE 107 rfl (by decide) (by decide) (by decide) (by decide) (by decide)) 0) k
            have a1 : u7.1 8 k 1 = u3.1 8 k 1 := G 8 k 1 rfl (by decide) (by decide) (by decide) (by decide)
            have i5 : u6.1 105 0 k = μ.1 105 0 k := (M6 105 0 k rfl (by decide) (by decide)).trans (by rw [E 105 (by decide)])
            have i6 : u6.1 106 0 k = μ.1 106 0 k := (M6 106 0 k rfl (by decide) (by decide)).trans (by rw [E 106 (by decide)])
            have zz := z3 k hk
            rw [i5, i6] at zz
            rcases h5 k hk with ⟨w1, w2⟩ | ⟨b, c, dd, hb, e1, e2, e3, e4, e5, e6, e7, e8, e9, e10⟩
            · exact .inl ⟨a0.trans w1, a5.trans w2⟩
            · right
              by_cases q : b = j
              · subst q
                have hc : c < 48 := by rw [gn1] at e4; omega
                have hc2 : c < wd * hg := by rw [gn1] at e4; exact e4
                refine ⟨b, opw wd c, dd, hb, by rw [g2]; exact e1, a0.trans e2, a5.trans e3, by rw [nNx, gn1]; exact (opw_f n2 n3 hc2).1, a1.trans ((b8 k hk).2 e2 c hc e5), zz.2 e3 c hc e6, e7, e8, a2.trans e9, a7.trans e10⟩
              · have hne : ¬ μ.1 8 k 0 = nI j := fun z => q ((nI_eq (by omega) (by omega)).mp (e2.symm.trans z))
                have hne2 : ¬ μ.1 105 0 k = nI j := fun z => q ((nI_eq (by omega) (by omega)).mp (e3.symm.trans z))
                exact ⟨b, c, dd, hb, by rw [g2]; exact e1, a0.trans e2, a5.trans e3, by rw [nNx]; exact e4, a1.trans (((b8 k hk).1 hne).trans e5), (zz.1 hne2).trans e6, e7, e8, a2.trans e9, a7.trans e10⟩
          · have a2 : u7.1 9 k 2 = μ.1 9 k 2 := ge9 k 2 (by decide)
            have a4 : u7.1 9 k 4 = μ.1 9 k 4 := ge9 k 4 (by decide)
            have a5' : u7.1 9 k 5 = μ.1 9 k 5 := ge9 k 5 (by decide)
            have a8 : u7.1 108 0 k = μ.1 108 0 k := congrFun (congrFun (GE 108 rfl (by decide) (by decide) (by decide) (by decide) (by decide)) 0) k
            have a10 : u7.1 110 0 k = μ.1 110 0 k := congrFun (congrFun (GE 110 rfl (by decide) (by decide) (by decide) (by decide) (by decide)) 0) k
            have a3 : u7.1 9 k 3 = u3.1 9 k 3 := G 9 k 3 rfl (by decide) (by decide) (by decide) (by decide)
            have i8 : u6.1 108 0 k = μ.1 108 0 k := (M6 108 0 k rfl (by decide) (by decide)).trans (by rw [E 108 (by decide)])
            have i9 : u6.1 109 0 k = μ.1 109 0 k := (M6 109 0 k rfl (by decide) (by decide)).trans (by rw [E 109 (by decide)])
            have zz := z4 k hk
            rw [i8, i9] at zz
            rcases h6 k hk with ⟨w1, w2⟩ | ⟨b, c, f, m, hb, e1, e2, e3, e4, e5, e6, e7, e8, e9, e10, e11, e12⟩
            · exact .inl ⟨a2.trans w1, a8.trans w2⟩
            · right
              have last : ∀ i, i < m → u7.1 111 0 (48 * k + i) = u7.1 52 k ((f + i) % 48) ∧ u7.1 112 0 (48 * k + i) = u7.1 53 k ((f + i) % 48) ∧ (u7.1 53 k ((f + i) % 48) = 0 ∨ u7.1 53 k ((f + i) % 48) = 1) ∧ -1000 ≤ (u7.1 52 k ((f + i) % 48)).toInt ∧ (u7.1 52 k ((f + i) % 48)).toInt ≤ 101000 := by
                rw [GE 111 rfl (by decide) (by decide) (by decide) (by decide) (by decide), GE 112 rfl (by decide) (by decide) (by decide) (by decide) (by decide), gc 52 (by decide) (by decide) (by decide) (by decide) (by decide) (by decide) (by decide), gc 53 (by decide) (by decide) (by decide) (by decide) (by decide) (by decide) (by decide)]
                exact e12
              by_cases q : b = j
              · subst q
                have hc : c < 48 := by rw [gn1] at e4; omega
                have hc2 : c < wd * hg := by rw [gn1] at e4; exact e4
                exact ⟨b, opw wd c, f, m, hb, by rw [g2]; exact e1, a2.trans e2, a8.trans e3, by rw [nNx, gn1]; exact (opw_f n2 n3 hc2).1, a3.trans ((b9 k hk).2 e2 c hc e5), zz.2 e3 c hc e6, e7, e8, a4.trans e9, a5'.trans e10, a10.trans e11, last⟩
              · have hne : ¬ μ.1 9 k 2 = nI j := fun z => q ((nI_eq (by omega) (by omega)).mp (e2.symm.trans z))
                have hne2 : ¬ μ.1 108 0 k = nI j := fun z => q ((nI_eq (by omega) (by omega)).mp (e3.symm.trans z))
                exact ⟨b, c, f, m, hb, by rw [g2]; exact e1, a2.trans e2, a8.trans e3, by rw [nNx]; exact e4, a3.trans (((b9 k hk).1 hne).trans e5), (zz.1 hne2).trans e6, e7, e8, a4.trans e9, a5'.trans e10, a10.trans e11, last⟩
  · simp (disch := first | omega | decide) only [Nat.reduceAdd, Nat.reduceMul, ↓ev_bd, ↓ev_ck, ↓ev_if, ↓ev_lt, ↓ev_jn, ↓ev_so, ↓reduceIte, ↓ev_within, ↓ev_in, ↓ev_isBoard, ↓ev_isGauge, ↓ev_isNumber, ↓ev_isSix, ↓ev_isEight, ↓ev_foundN, ↓ev_meetsN, ↓ev_found_1, ↓ev_meets_1, ↓ev_found_2, ↓ev_meets_2, ↓ev_found_3, ↓ev_meets_3, ↓ev_found_4, ↓ev_meets_4, ↓ev_found_5, ↓ev_meets_5, true_and, and_true, and_self, eq_self, not_true_eq_false, not_false_eq_true, ite_true, ite_false, true_or, or_true, false_or, or_false, false_and, and_false, ← zi_ni_0, ← zi_ni_1, ← zi_ni_2, ← zi_ni_3, ← zi_ni_4, ← zi_ni_5, ← zi_ni_6, ← zi_ni_7, ← zi_ni_8, ← zi_ni_9, ← zi_ni_10, ← zi_ni_12, ← zi_ni_24, ← zi_ni_25, ← zi_ni_40, ← zi_ni_45, ← zi_ni_47, ← zi_ni_48, ← zi_ni_95, ← zi_ni_96, ← zi_ni_97, ← zi_ni_100, ← zi_ni_144, ← zi_ni_288, nI_ltI, nI_leI, nI_eqI, nlt_T, nlt_F, nle_T, nle_F, neq_T, neq_F, nI_add, pk_mul, nI_clamp, q_inT, ng_lt, ng_tl, ng_le, ng_el, ng_eq, ng_qe, q_b0, q_b1, nar_0, nar_1, b01, b01', q_bn0, q_bn1, nar_n0, nar_n1, si_k, si_i, si_s, si_e, si_2, sl_1, sl_22, sl_k, sl_i, sl_s, sl_e, sp_1, sp_21, sp_22, sc_k, sc_i, sc_e, sc_2, mF_k, mM_k, mF_2, mM_2, mF_0, mM_11, ↓eu_X10_mirror, ↓eu_X11_mirror, ↓eu_X10_boardRefused, ↓eu_X11_askedFor, ↓eu_X10_bearsNest, ha]
    exact h.succ
