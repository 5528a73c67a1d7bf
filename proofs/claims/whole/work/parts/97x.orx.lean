/-! world, the call. -/
theorem x_le99 {x : Int32} : (nI 0 ≤ x ∧ x ≤ 99) = (nI 0 ≤ x ∧ x ≤ nI 99) := rfl
theorem op_world (a e : Int32) : Op (f_X10_world a e) (f_X11_world a e) := by
  intro n μ hn h
  rcases y_ix6 a with ⟨t, ht, rfl⟩ | ha
  · by_cases he : nI 0 ≤ e ∧ e ≤ 99
    · have hs : q_in (nI t) (q_slen 1) = true := by rw [slen_6 (by decide)]; exact q_inT ht (by decide)
      have hs2 : q_slen 2 = 8 := by decide
      have hr2 : q_rlen 2 = 40 := by decide
      obtain ⟨m, hm, w1, w2, w3⟩ := h.2.2.2.2.2.2.2.1
      by_cases hm8 : m = 8
      · subst hm8
        simp (disch := first | omega | decide) only [Nat.reduceAdd, Nat.reduceMul, ↓ev_bd, ↓ev_ck, ↓ev_if, ↓ev_lt, ↓ev_jn, ↓ev_so, ↓reduceIte, ↓ev_within, ↓ev_in, ↓ev_isBoard, ↓ev_isGauge, ↓ev_isNumber, ↓ev_isSix, ↓ev_isEight, ↓ev_foundN, ↓ev_meetsN, ↓ev_found_1, ↓ev_meets_1, ↓ev_found_2, ↓ev_meets_2, ↓ev_found_3, ↓ev_meets_3, ↓ev_found_4, ↓ev_meets_4, ↓ev_found_5, ↓ev_meets_5, true_and, and_true, and_self, eq_self, not_true_eq_false, not_false_eq_true, ite_true, ite_false, true_or, or_true, false_or, or_false, false_and, and_false, ← zi_ni_0, ← zi_ni_1, ← zi_ni_2, ← zi_ni_3, ← zi_ni_4, ← zi_ni_5, ← zi_ni_6, ← zi_ni_7, ← zi_ni_8, ← zi_ni_9, ← zi_ni_10, ← zi_ni_12, ← zi_ni_24, ← zi_ni_25, ← zi_ni_40, ← zi_ni_45, ← zi_ni_47, ← zi_ni_48, ← zi_ni_95, ← zi_ni_96, ← zi_ni_97, ← zi_ni_100, ← zi_ni_144, ← zi_ni_288, nI_ltI, nI_leI, nI_eqI, nlt_T, nlt_F, nle_T, nle_F, neq_T, neq_F, nI_add, pk_mul, nI_clamp, q_inT, ng_lt, ng_tl, ng_le, ng_el, ng_eq, ng_qe, q_b0, q_b1, nar_0, nar_1, b01, b01', q_bn0, q_bn1, nar_n0, nar_n1, si_k, si_i, si_s, si_e, si_2, sl_1, sl_22, sl_k, sl_i, sl_s, sl_e, sp_1, sp_21, sp_22, sc_k, sc_i, sc_e, sc_2, mF_k, mM_k, mF_2, mM_2, mF_0, mM_11, ↓eu_X10_world, ↓eu_X11_world, ↓eu_X7_isThere, ↓eu_X11_lookedText, he, w1, w2]
        exact h.succ
      · have hm7 : m < 8 := by omega
        rcases h.txt ht with ⟨e1, e2⟩ | ⟨L, hL, e1, e2, hS⟩
        · simp (disch := first | omega | decide) only [Nat.reduceAdd, Nat.reduceMul, ↓ev_bd, ↓ev_ck, ↓ev_if, ↓ev_lt, ↓ev_jn, ↓ev_so, ↓reduceIte, ↓ev_within, ↓ev_in, ↓ev_isBoard, ↓ev_isGauge, ↓ev_isNumber, ↓ev_isSix, ↓ev_isEight, ↓ev_foundN, ↓ev_meetsN, ↓ev_found_1, ↓ev_meets_1, ↓ev_found_2, ↓ev_meets_2, ↓ev_found_3, ↓ev_meets_3, ↓ev_found_4, ↓ev_meets_4, ↓ev_found_5, ↓ev_meets_5, true_and, and_true, and_self, eq_self, not_true_eq_false, not_false_eq_true, ite_true, ite_false, true_or, or_true, false_or, or_false, false_and, and_false, ← zi_ni_0, ← zi_ni_1, ← zi_ni_2, ← zi_ni_3, ← zi_ni_4, ← zi_ni_5, ← zi_ni_6, ← zi_ni_7, ← zi_ni_8, ← zi_ni_9, ← zi_ni_10, ← zi_ni_12, ← zi_ni_24, ← zi_ni_25, ← zi_ni_40, ← zi_ni_45, ← zi_ni_47, ← zi_ni_48, ← zi_ni_95, ← zi_ni_96, ← zi_ni_97, ← zi_ni_100, ← zi_ni_144, ← zi_ni_288, nI_ltI, nI_leI, nI_eqI, nlt_T, nlt_F, nle_T, nle_F, neq_T, neq_F, nI_add, pk_mul, nI_clamp, q_inT, ng_lt, ng_tl, ng_le, ng_el, ng_eq, ng_qe, q_b0, q_b1, nar_0, nar_1, b01, b01', q_bn0, q_bn1, nar_n0, nar_n1, si_k, si_i, si_s, si_e, si_2, sl_1, sl_22, sl_k, sl_i, sl_s, sl_e, sp_1, sp_21, sp_22, sc_k, sc_i, sc_e, sc_2, mF_k, mM_k, mF_2, mM_2, mF_0, mM_11, ↓eu_X10_world, ↓eu_X11_world, ↓eu_X7_isThere, ↓eu_X11_lookedText, he, w1, w2, hs, e1, e2]
          exact h.met
        · refine Ev.hide (fun P' K => ?_)
          simp (disch := first | omega | decide) only [Nat.reduceAdd, Nat.reduceMul, ↓ev_bd, ↓ev_ck, ↓ev_if, ↓ev_lt, ↓ev_jn, ↓ev_so, ↓reduceIte, ↓ev_within, ↓ev_in, ↓ev_isBoard, ↓ev_isGauge, ↓ev_isNumber, ↓ev_isSix, ↓ev_isEight, ↓ev_foundN, ↓ev_meetsN, ↓ev_found_1, ↓ev_meets_1, ↓ev_found_2, ↓ev_meets_2, ↓ev_found_3, ↓ev_meets_3, ↓ev_found_4, ↓ev_meets_4, ↓ev_found_5, ↓ev_meets_5, true_and, and_true, and_self, eq_self, not_true_eq_false, not_false_eq_true, ite_true, ite_false, true_or, or_true, false_or, or_false, false_and, and_false, ← zi_ni_0, ← zi_ni_1, ← zi_ni_2, ← zi_ni_3, ← zi_ni_4, ← zi_ni_5, ← zi_ni_6, ← zi_ni_7, ← zi_ni_8, ← zi_ni_9, ← zi_ni_10, ← zi_ni_12, ← zi_ni_24, ← zi_ni_25, ← zi_ni_40, ← zi_ni_45, ← zi_ni_47, ← zi_ni_48, ← zi_ni_95, ← zi_ni_96, ← zi_ni_97, ← zi_ni_100, ← zi_ni_144, ← zi_ni_288, nI_ltI, nI_leI, nI_eqI, nlt_T, nlt_F, nle_T, nle_F, neq_T, neq_F, nI_add, pk_mul, nI_clamp, q_inT, ng_lt, ng_tl, ng_le, ng_el, ng_eq, ng_qe, q_b0, q_b1, nar_0, nar_1, b01, b01', q_bn0, q_bn1, nar_n0, nar_n1, si_k, si_i, si_s, si_e, si_2, sl_1, sl_22, sl_k, sl_i, sl_s, sl_e, sp_1, sp_21, sp_22, sc_k, sc_i, sc_e, sc_2, mF_k, mM_k, mF_2, mM_2, mF_0, mM_11, ↓eu_X10_world, ↓eu_X11_world, ↓eu_X7_isThere, ↓eu_X11_lookedText, he, w1, hs, e1]
          refine ev_faultOf ht hL e1 (fun u1 g1 => ?_)
          have e2' : u1.1 69 0 t = nI L := (g1.1 69 0 t (by omega)).trans e2
          have w2' : u1.1 11 0 61 = nI m := (g1.1 11 0 61 (by omega)).trans w2
          have e1' : u1.1 33 1 t = nI L := (g1.1 33 1 t (by omega)).trans e1
          have w1' : u1.1 0 0 14 = nI m := (g1.1 0 0 14 (by omega)).trans w1
          have f9 := flt_9 (f := μ.1 31 t) hL
          by_cases hno : (tAl (μ.1 31 t) L 41 0 0).2 = none
          · have f9t : (flt (tAl (μ.1 31 t) L 41 0 0).2 = -nI 9) = True := by rw [f9]; exact eq_true hno
            have f9v : flt (tAl (μ.1 31 t) L 41 0 0).2 = -nI 9 := by rw [hno]; rfl
            rw [f9v]
            simp (disch := first | omega | decide) only [Nat.reduceAdd, Nat.reduceMul, ↓ev_bd, ↓ev_ck, ↓ev_if, ↓ev_lt, ↓ev_jn, ↓ev_so, ↓reduceIte, ↓ev_within, ↓ev_in, ↓ev_isBoard, ↓ev_isGauge, ↓ev_isNumber, ↓ev_isSix, ↓ev_isEight, ↓ev_foundN, ↓ev_meetsN, ↓ev_found_1, ↓ev_meets_1, ↓ev_found_2, ↓ev_meets_2, ↓ev_found_3, ↓ev_meets_3, ↓ev_found_4, ↓ev_meets_4, ↓ev_found_5, ↓ev_meets_5, true_and, and_true, and_self, eq_self, not_true_eq_false, not_false_eq_true, ite_true, ite_false, true_or, or_true, false_or, or_false, false_and, and_false, ← zi_ni_0, ← zi_ni_1, ← zi_ni_2, ← zi_ni_3, ← zi_ni_4, ← zi_ni_5, ← zi_ni_6, ← zi_ni_7, ← zi_ni_8, ← zi_ni_9, ← zi_ni_10, ← zi_ni_12, ← zi_ni_24, ← zi_ni_25, ← zi_ni_40, ← zi_ni_45, ← zi_ni_47, ← zi_ni_48, ← zi_ni_95, ← zi_ni_96, ← zi_ni_97, ← zi_ni_100, ← zi_ni_144, ← zi_ni_288, nI_ltI, nI_leI, nI_eqI, nlt_T, nlt_F, nle_T, nle_F, neq_T, neq_F, nI_add, pk_mul, nI_clamp, q_inT, ng_lt, ng_tl, ng_le, ng_el, ng_eq, ng_qe, q_b0, q_b1, nar_0, nar_1, b01, b01', q_bn0, q_bn1, nar_n0, nar_n1, si_k, si_i, si_s, si_e, si_2, sl_1, sl_22, sl_k, sl_i, sl_s, sl_e, sp_1, sp_21, sp_22, sc_k, sc_i, sc_e, sc_2, mF_k, mM_k, mF_2, mM_2, mF_0, mM_11, ↓eu_X7_make, w1', e1', hs2]
            refine lp_make (k := 2) (j := m) (n := L) (by rw [hs2]; exact hm7) (by rw [hs2]; decide) (by rw [hr2]; exact hL) (by rw [hr2]; decide) (fun u2 hu2 => ?_)
            obtain ⟨v1, v2, v3, v4⟩ := hu2
            have r14 : u2.1 0 0 14 = nI m := by rw [v1 0 (by decide), si_k (by decide)]; exact w1'
            have r33 : u2.1 33 1 t = nI L := by rw [v1 33 (by decide), si_i (by decide)]; exact e1'
            have r33m : u2.1 33 2 m = nI L := by rw [v1 33 (by decide), si_e]
            simp (disch := first | omega | decide) only [Nat.reduceAdd, Nat.reduceMul, ↓ev_bd, ↓ev_ck, ↓ev_if, ↓ev_lt, ↓ev_jn, ↓ev_so, ↓reduceIte, ↓ev_within, ↓ev_in, ↓ev_isBoard, ↓ev_isGauge, ↓ev_isNumber, ↓ev_isSix, ↓ev_isEight, ↓ev_foundN, ↓ev_meetsN, ↓ev_found_1, ↓ev_meets_1, ↓ev_found_2, ↓ev_meets_2, ↓ev_found_3, ↓ev_meets_3, ↓ev_found_4, ↓ev_meets_4, ↓ev_found_5, ↓ev_meets_5, true_and, and_true, and_self, eq_self, not_true_eq_false, not_false_eq_true, ite_true, ite_false, true_or, or_true, false_or, or_false, false_and, and_false, ← zi_ni_0, ← zi_ni_1, ← zi_ni_2, ← zi_ni_3, ← zi_ni_4, ← zi_ni_5, ← zi_ni_6, ← zi_ni_7, ← zi_ni_8, ← zi_ni_9, ← zi_ni_10, ← zi_ni_12, ← zi_ni_24, ← zi_ni_25, ← zi_ni_40, ← zi_ni_45, ← zi_ni_47, ← zi_ni_48, ← zi_ni_95, ← zi_ni_96, ← zi_ni_97, ← zi_ni_100, ← zi_ni_144, ← zi_ni_288, nI_ltI, nI_leI, nI_eqI, nlt_T, nlt_F, nle_T, nle_F, neq_T, neq_F, nI_add, pk_mul, nI_clamp, q_inT, ng_lt, ng_tl, ng_le, ng_el, ng_eq, ng_qe, q_b0, q_b1, nar_0, nar_1, b01, b01', q_bn0, q_bn1, nar_n0, nar_n1, si_k, si_i, si_s, si_e, si_2, sl_1, sl_22, sl_k, sl_i, sl_s, sl_e, sp_1, sp_21, sp_22, sc_k, sc_i, sc_e, sc_2, mF_k, mM_k, mF_2, mM_2, mF_0, mM_11, r14, r33, q_crI, zi_cl_0]
            refine K _ _ ?_
            show Ev (f_X11_world _ _ _) _
            generalize hU : q_si (q_si (q_sc u2 31 t 32 m 0 0 L) 34 0 m e) 0 0 14 (nI (m + 1)) = U
            have U2 : U.2.1 = μ.2.1 := by rw [← hU]; exact (congrArg Prod.fst v4).trans g1.2
            have UF : ∀ a i s, ¬ (a = 7 ∧ i = 0) → ¬ (a = 32 ∧ i = m) → ¬ (a = 33 ∧ i = 2 ∧ s = m) → ¬ (a = 34 ∧ i = 0 ∧ s = m) → ¬ (a = 0 ∧ i = 0 ∧ s = 14) → U.1 a i s = μ.1 a i s := fun a i s q1 q2 q3 q4 q5 => by
              rw [← hU, si_n q5, si_n q4, sc_n q2]
              by_cases z : a = 32
              · subst z
                have z2 : i ≠ m := fun y => q2 ⟨rfl, y⟩
                rw [show u2.1 32 i = _ from v2 i z2, si_k (by decide)]
                exact g1.1 32 i s q1
              · rw [v1 a z, si_n q3]
                exact g1.1 a i s q1
            have U14 : U.1 0 0 14 = nI (m + 1) := by rw [← hU, si_e]
            have U34 : U.1 34 0 m = e := by rw [← hU, si_k (by decide), si_e]
            have U33 : U.1 33 2 m = nI L := by rw [← hU, si_k (by decide), si_k (by decide), sc_k (by decide)]; exact r33m
            have U32 : ∀ i, i < L → U.1 32 m i = μ.1 31 t i := fun i hi => by
              rw [← hU, si_k (by decide), si_k (by decide), sc_e]
              show (if 0 ≤ i ∧ i < 0 + L then u2.1 31 t (0 + (i - 0)) else _) = _
              rw [if_pos (by omega), show 0 + (i - 0) = i by omega, v1 31 (by decide), si_k (by decide)]
              exact g1.1 31 t i (by omega)
            have hSU : SRC 70 0 (40 * t) L (μ.1 31 t) U := by
              obtain ⟨y1, y2, y3, y4, y5, y6, y7⟩ := hS
              exact ⟨y1, y2, y3, y4, y5, y6, fun i hi => (UF 70 0 _ (by omega) (by omega) (by omega) (by omega) (by omega)).trans (y7 i hi)⟩
            have e2U : U.1 69 0 t = nI L := (UF 69 0 t (by omega) (by omega) (by omega) (by omega) (by omega)).trans e2
            have w2U : U.1 11 0 61 = nI m := (UF 11 0 61 (by omega) (by omega) (by omega) (by omega) (by omega)).trans w2
            refine Ev.hide (fun P'' K'' => ?_)
            simp (disch := first | omega | decide) only [Nat.reduceAdd, Nat.reduceMul, ↓ev_bd, ↓ev_ck, ↓ev_if, ↓ev_lt, ↓ev_jn, ↓ev_so, ↓reduceIte, ↓ev_within, ↓ev_in, ↓ev_isBoard, ↓ev_isGauge, ↓ev_isNumber, ↓ev_isSix, ↓ev_isEight, ↓ev_foundN, ↓ev_meetsN, ↓ev_found_1, ↓ev_meets_1, ↓ev_found_2, ↓ev_meets_2, ↓ev_found_3, ↓ev_meets_3, ↓ev_found_4, ↓ev_meets_4, ↓ev_found_5, ↓ev_meets_5, true_and, and_true, and_self, eq_self, not_true_eq_false, not_false_eq_true, ite_true, ite_false, true_or, or_true, false_or, or_false, false_and, and_false, ← zi_ni_0, ← zi_ni_1, ← zi_ni_2, ← zi_ni_3, ← zi_ni_4, ← zi_ni_5, ← zi_ni_6, ← zi_ni_7, ← zi_ni_8, ← zi_ni_9, ← zi_ni_10, ← zi_ni_12, ← zi_ni_24, ← zi_ni_25, ← zi_ni_40, ← zi_ni_45, ← zi_ni_47, ← zi_ni_48, ← zi_ni_95, ← zi_ni_96, ← zi_ni_97, ← zi_ni_100, ← zi_ni_144, ← zi_ni_288, nI_ltI, nI_leI, nI_eqI, nlt_T, nlt_F, nle_T, nle_F, neq_T, neq_F, nI_add, pk_mul, nI_clamp, q_inT, ng_lt, ng_tl, ng_le, ng_el, ng_eq, ng_qe, q_b0, q_b1, nar_0, nar_1, b01, b01', q_bn0, q_bn1, nar_n0, nar_n1, si_k, si_i, si_s, si_e, si_2, sl_1, sl_22, sl_k, sl_i, sl_s, sl_e, sp_1, sp_21, sp_22, sc_k, sc_i, sc_e, sc_2, mF_k, mM_k, mF_2, mM_2, mF_0, mM_11, ↓eu_X10_world, ↓eu_X11_world, ↓eu_X7_isThere, ↓eu_X11_lookedText, he, w2U, e2U]
            refine ev_reads hSU (fun u3 y1 y2 => ?_)
            have e2V : u3.1 69 0 t = nI L := (y1.1 69 0 t (by omega)).trans e2U
            have w2V : u3.1 11 0 61 = nI m := (y1.1 11 0 61 (by omega)).trans w2U
            rw [f9v]
            simp (disch := first | omega | decide) only [Nat.reduceAdd, Nat.reduceMul, ↓ev_bd, ↓ev_ck, ↓ev_if, ↓ev_lt, ↓ev_jn, ↓ev_so, ↓reduceIte, ↓ev_within, ↓ev_in, ↓ev_isBoard, ↓ev_isGauge, ↓ev_isNumber, ↓ev_isSix, ↓ev_isEight, ↓ev_foundN, ↓ev_meetsN, ↓ev_found_1, ↓ev_meets_1, ↓ev_found_2, ↓ev_meets_2, ↓ev_found_3, ↓ev_meets_3, ↓ev_found_4, ↓ev_meets_4, ↓ev_found_5, ↓ev_meets_5, true_and, and_true, and_self, eq_self, not_true_eq_false, not_false_eq_true, ite_true, ite_false, true_or, or_true, false_or, or_false, false_and, and_false, ← zi_ni_0, ← zi_ni_1, ← zi_ni_2, ← zi_ni_3, ← zi_ni_4, ← zi_ni_5, ← zi_ni_6, ← zi_ni_7, ← zi_ni_8, ← zi_ni_9, ← zi_ni_10, ← zi_ni_12, ← zi_ni_24, ← zi_ni_25, ← zi_ni_40, ← zi_ni_45, ← zi_ni_47, ← zi_ni_48, ← zi_ni_95, ← zi_ni_96, ← zi_ni_97, ← zi_ni_100, ← zi_ni_144, ← zi_ni_288, nI_ltI, nI_leI, nI_eqI, nlt_T, nlt_F, nle_T, nle_F, neq_T, neq_F, nI_add, pk_mul, nI_clamp, q_inT, ng_lt, ng_tl, ng_le, ng_el, ng_eq, ng_qe, q_b0, q_b1, nar_0, nar_1, b01, b01', q_bn0, q_bn1, nar_n0, nar_n1, si_k, si_i, si_s, si_e, si_2, sl_1, sl_22, sl_k, sl_i, sl_s, sl_e, sp_1, sp_21, sp_22, sc_k, sc_i, sc_e, sc_2, mF_k, mM_k, mF_2, mM_2, mF_0, mM_11, w2V, e2V]
            refine lp_w99 ht hm7 hL (by rw [si_k (by decide), si_k (by decide)]; exact e2V) (by rw [si_k (by decide), si_k (by decide)]; exact w2V) (fun u4 z1 z2 z3 => ?_)
            have w2W : u4.1 11 0 61 = nI m := by rw [z1 11 0 61 (by omega), si_k (by decide), si_k (by decide)]; exact w2V
            simp (disch := first | omega | decide) only [Nat.reduceAdd, Nat.reduceMul, ↓ev_bd, ↓ev_ck, ↓ev_if, ↓ev_lt, ↓ev_jn, ↓ev_so, ↓reduceIte, ↓ev_within, ↓ev_in, ↓ev_isBoard, ↓ev_isGauge, ↓ev_isNumber, ↓ev_isSix, ↓ev_isEight, ↓ev_foundN, ↓ev_meetsN, ↓ev_found_1, ↓ev_meets_1, ↓ev_found_2, ↓ev_meets_2, ↓ev_found_3, ↓ev_meets_3, ↓ev_found_4, ↓ev_meets_4, ↓ev_found_5, ↓ev_meets_5, true_and, and_true, and_self, eq_self, not_true_eq_false, not_false_eq_true, ite_true, ite_false, true_or, or_true, false_or, or_false, false_and, and_false, ← zi_ni_0, ← zi_ni_1, ← zi_ni_2, ← zi_ni_3, ← zi_ni_4, ← zi_ni_5, ← zi_ni_6, ← zi_ni_7, ← zi_ni_8, ← zi_ni_9, ← zi_ni_10, ← zi_ni_12, ← zi_ni_24, ← zi_ni_25, ← zi_ni_40, ← zi_ni_45, ← zi_ni_47, ← zi_ni_48, ← zi_ni_95, ← zi_ni_96, ← zi_ni_97, ← zi_ni_100, ← zi_ni_144, ← zi_ni_288, nI_ltI, nI_leI, nI_eqI, nlt_T, nlt_F, nle_T, nle_F, neq_T, neq_F, nI_add, pk_mul, nI_clamp, q_inT, ng_lt, ng_tl, ng_le, ng_el, ng_eq, ng_qe, q_b0, q_b1, nar_0, nar_1, b01, b01', q_bn0, q_bn1, nar_n0, nar_n1, si_k, si_i, si_s, si_e, si_2, sl_1, sl_22, sl_k, sl_i, sl_s, sl_e, sp_1, sp_21, sp_22, sc_k, sc_i, sc_e, sc_2, mF_k, mM_k, mF_2, mM_2, mF_0, mM_11, w2W, pk_sub]
            refine K'' _ _ ⟨pk_sub (by omega), ?_⟩
            have VF : ∀ a i s, ¬ (a = 72 ∨ a = 73 ∨ (a = 11 ∧ i = 0 ∧ s = 11)) → ¬ (a = 123 ∧ i = 0 ∧ 40 * m ≤ s ∧ s < 40 * m + 40) → ¬ (a = 122 ∧ i = 0 ∧ s = m) → ¬ (a = 124 ∧ i = 0 ∧ s = m) → ¬ (a = 11 ∧ i = 0 ∧ s = 61) → (q_si u4 11 0 61 (nI (m + 1))).1 a i s = U.1 a i s := fun a i s q1 q2 q3 q4 q5 => by
              rw [si_n q5, z1 a i s q2, si_n q4, si_n q3]
              exact y1.1 a i s q1
            have v7 : ∀ a i s, ¬ (a = 72 ∨ a = 73 ∨ (a = 11 ∧ i = 0 ∧ s = 11)) → a ≠ 123 → a ≠ 122 → a ≠ 124 → ¬ (a = 11 ∧ s = 61) → (q_si u4 11 0 61 (nI (m + 1))).1 a i s = U.1 a i s := fun a i s q1 q2 q3 q4 q5 => VF a i s q1 (by omega) (by omega) (by omega) (by omega)
            have hc : ∀ i, i < L → (q_si u4 11 0 61 (nI (m + 1))).1 32 m i = μ.1 31 t i := fun i hi => by rw [v7 32 m i (by omega) (by decide) (by decide) (by decide) (by omega)]; exact U32 i hi
            refine Rel_7 (u := μ) (fun a i s q1 q2 => ?_) (fun a s q => ?_) ⟨m + 1, by omega, ?_, si_e, fun k hk => ?_⟩ h.succ
            · have n1 : a ≠ 72 := fun z => q1 (by rw [z]; exact scr_72)
              have n2 : a ≠ 73 := fun z => q1 (by rw [z]; exact scr_73)
              have n3 : ¬ (a = 11 ∧ s = 11) := fun z => q1 (by rw [z.1, z.2]; exact scr_11)
              have n4 : a ≠ 7 := fun z => q1 (by rw [z]; unfold scr; simp only [true_or, or_true])
              unfold W7 at q2
              rw [v7 a i s (by omega) (by omega) (by omega) (by omega) (by omega)]
              exact UF a i s (by omega) (by omega) (by omega) (by omega) (by omega)
            · show u4.2.1 a 0 s = _
              rw [z2]
              show u3.2.1 a 0 s = _
              rw [y1.2, U2]
            · rw [v7 0 0 14 (by omega) (by decide) (by decide) (by decide) (by omega)]; exact U14
            · by_cases hk2 : k = m
              · subst hk2
                refine ⟨L, hL, ?_, ?_, fun i hi => ?_, ?_, ?_⟩
                · rw [v7 33 2 k (by omega) (by decide) (by decide) (by decide) (by omega)]; exact U33
                · rw [si_k (by decide), z1 122 0 k (by omega), si_k (by decide), si_e]
                · rw [hc i hi, si_k (by decide), z3 i hi, si_k (by decide), si_k (by decide), y1.1 70 0 _ (by omega)]
                  exact hSU.2.2.2.2.2.2 i hi
                · rw [tAl_c hc 41 0 0 (Nat.zero_le L)]
                  exact hno
                · obtain ⟨wt, hwt, hwe⟩ := x_pos (N := 99) (by decide) he.1 (show e ≤ nI 99 from he.2)
                  refine ⟨wt, hwt, ?_, ?_⟩
                  · rw [v7 34 0 k (by omega) (by decide) (by decide) (by decide) (by omega), U34, hwe]
                  · rw [si_k (by decide), z1 124 0 k (by omega), si_e, hwe]
              · obtain ⟨L', hL', x1, x2, x3, x4, wt, hwt, x5, x6⟩ := w3 k (by omega)
                have r32 : (q_si u4 11 0 61 (nI (m + 1))).1 32 k = μ.1 32 k := funext (fun i => by
                  rw [v7 32 k i (by omega) (by decide) (by decide) (by decide) (by omega)]
                  exact UF 32 k i (by omega) (by omega) (by omega) (by omega) (by omega))
                refine ⟨L', hL', ?_, ?_, fun i hi => ?_, by rw [r32]; exact x4, wt, hwt, ?_, ?_⟩
                · rw [v7 33 2 k (by omega) (by decide) (by decide) (by decide) (by omega), UF 33 2 k (by omega) (by omega) (by omega) (by omega) (by omega)]; exact x1
                · rw [VF 122 0 k (by omega) (by omega) (by omega) (by omega) (by omega), UF 122 0 k (by omega) (by omega) (by omega) (by omega) (by omega)]; exact x2
                · rw [VF 123 0 _ (by omega) (by omega) (by omega) (by omega) (by omega), UF 123 0 _ (by omega) (by omega) (by omega) (by omega) (by omega), r32]
                  exact x3 i hi
                · rw [v7 34 0 k (by omega) (by decide) (by decide) (by decide) (by omega), UF 34 0 k (by omega) (by omega) (by omega) (by omega) (by omega)]; exact x5
                · rw [VF 124 0 k (by omega) (by omega) (by omega) (by omega) (by omega), UF 124 0 k (by omega) (by omega) (by omega) (by omega) (by omega)]; exact x6
          · obtain ⟨p, hp⟩ : ∃ p, (tAl (μ.1 31 t) L 41 0 0).2 = some p := by
              cases hz : (tAl (μ.1 31 t) L 41 0 0).2 with
              | none => exact absurd hz hno
              | some p => exact ⟨p, rfl⟩
            have hp44 := tAl_p 41 0 0 (Nat.zero_le L) hp
            have fv : flt (tAl (μ.1 31 t) L 41 0 0).2 = nI p := by rw [hp]; rfl
            rw [fv]
            try simp (disch := first | omega | decide) only [Nat.reduceAdd, Nat.reduceMul, ↓ev_bd, ↓ev_ck, ↓ev_if, ↓ev_lt, ↓ev_jn, ↓ev_so, ↓reduceIte, ↓ev_within, ↓ev_in, ↓ev_isBoard, ↓ev_isGauge, ↓ev_isNumber, ↓ev_isSix, ↓ev_isEight, ↓ev_foundN, ↓ev_meetsN, ↓ev_found_1, ↓ev_meets_1, ↓ev_found_2, ↓ev_meets_2, ↓ev_found_3, ↓ev_meets_3, ↓ev_found_4, ↓ev_meets_4, ↓ev_found_5, ↓ev_meets_5, true_and, and_true, and_self, eq_self, not_true_eq_false, not_false_eq_true, ite_true, ite_false, true_or, or_true, false_or, or_false, false_and, and_false, ← zi_ni_0, ← zi_ni_1, ← zi_ni_2, ← zi_ni_3, ← zi_ni_4, ← zi_ni_5, ← zi_ni_6, ← zi_ni_7, ← zi_ni_8, ← zi_ni_9, ← zi_ni_10, ← zi_ni_12, ← zi_ni_24, ← zi_ni_25, ← zi_ni_40, ← zi_ni_45, ← zi_ni_47, ← zi_ni_48, ← zi_ni_95, ← zi_ni_96, ← zi_ni_97, ← zi_ni_100, ← zi_ni_144, ← zi_ni_288, nI_ltI, nI_leI, nI_eqI, nlt_T, nlt_F, nle_T, nle_F, neq_T, neq_F, nI_add, pk_mul, nI_clamp, q_inT, ng_lt, ng_tl, ng_le, ng_el, ng_eq, ng_qe, q_b0, q_b1, nar_0, nar_1, b01, b01', q_bn0, q_bn1, nar_n0, nar_n1, si_k, si_i, si_s, si_e, si_2, sl_1, sl_22, sl_k, sl_i, sl_s, sl_e, sp_1, sp_21, sp_22, sc_k, sc_i, sc_e, sc_2, mF_k, mM_k, mF_2, mM_2, mF_0, mM_11]
            refine K _ _ ?_
            show Ev (f_X11_world _ _ u1) _
            refine Ev.hide (fun P'' K'' => ?_)
            simp (disch := first | omega | decide) only [Nat.reduceAdd, Nat.reduceMul, ↓ev_bd, ↓ev_ck, ↓ev_if, ↓ev_lt, ↓ev_jn, ↓ev_so, ↓reduceIte, ↓ev_within, ↓ev_in, ↓ev_isBoard, ↓ev_isGauge, ↓ev_isNumber, ↓ev_isSix, ↓ev_isEight, ↓ev_foundN, ↓ev_meetsN, ↓ev_found_1, ↓ev_meets_1, ↓ev_found_2, ↓ev_meets_2, ↓ev_found_3, ↓ev_meets_3, ↓ev_found_4, ↓ev_meets_4, ↓ev_found_5, ↓ev_meets_5, true_and, and_true, and_self, eq_self, not_true_eq_false, not_false_eq_true, ite_true, ite_false, true_or, or_true, false_or, or_false, false_and, and_false, ← zi_ni_0, ← zi_ni_1, ← zi_ni_2, ← zi_ni_3, ← zi_ni_4, ← zi_ni_5, ← zi_ni_6, ← zi_ni_7, ← zi_ni_8, ← zi_ni_9, ← zi_ni_10, ← zi_ni_12, ← zi_ni_24, ← zi_ni_25, ← zi_ni_40, ← zi_ni_45, ← zi_ni_47, ← zi_ni_48, ← zi_ni_95, ← zi_ni_96, ← zi_ni_97, ← zi_ni_100, ← zi_ni_144, ← zi_ni_288, nI_ltI, nI_leI, nI_eqI, nlt_T, nlt_F, nle_T, nle_F, neq_T, neq_F, nI_add, pk_mul, nI_clamp, q_inT, ng_lt, ng_tl, ng_le, ng_el, ng_eq, ng_qe, q_b0, q_b1, nar_0, nar_1, b01, b01', q_bn0, q_bn1, nar_n0, nar_n1, si_k, si_i, si_s, si_e, si_2, sl_1, sl_22, sl_k, sl_i, sl_s, sl_e, sp_1, sp_21, sp_22, sc_k, sc_i, sc_e, sc_2, mF_k, mM_k, mF_2, mM_2, mF_0, mM_11, ↓eu_X10_world, ↓eu_X11_world, ↓eu_X7_isThere, ↓eu_X11_lookedText, he, w2', e2']
            refine ev_reads (hS.fo (by decide) g1) (fun u2 y1 y2 => ?_)
            rw [fv]
            try simp (disch := first | omega | decide) only [Nat.reduceAdd, Nat.reduceMul, ↓ev_bd, ↓ev_ck, ↓ev_if, ↓ev_lt, ↓ev_jn, ↓ev_so, ↓reduceIte, ↓ev_within, ↓ev_in, ↓ev_isBoard, ↓ev_isGauge, ↓ev_isNumber, ↓ev_isSix, ↓ev_isEight, ↓ev_foundN, ↓ev_meetsN, ↓ev_found_1, ↓ev_meets_1, ↓ev_found_2, ↓ev_meets_2, ↓ev_found_3, ↓ev_meets_3, ↓ev_found_4, ↓ev_meets_4, ↓ev_found_5, ↓ev_meets_5, true_and, and_true, and_self, eq_self, not_true_eq_false, not_false_eq_true, ite_true, ite_false, true_or, or_true, false_or, or_false, false_and, and_false, ← zi_ni_0, ← zi_ni_1, ← zi_ni_2, ← zi_ni_3, ← zi_ni_4, ← zi_ni_5, ← zi_ni_6, ← zi_ni_7, ← zi_ni_8, ← zi_ni_9, ← zi_ni_10, ← zi_ni_12, ← zi_ni_24, ← zi_ni_25, ← zi_ni_40, ← zi_ni_45, ← zi_ni_47, ← zi_ni_48, ← zi_ni_95, ← zi_ni_96, ← zi_ni_97, ← zi_ni_100, ← zi_ni_144, ← zi_ni_288, nI_ltI, nI_leI, nI_eqI, nlt_T, nlt_F, nle_T, nle_F, neq_T, neq_F, nI_add, pk_mul, nI_clamp, q_inT, ng_lt, ng_tl, ng_le, ng_el, ng_eq, ng_qe, q_b0, q_b1, nar_0, nar_1, b01, b01', q_bn0, q_bn1, nar_n0, nar_n1, si_k, si_i, si_s, si_e, si_2, sl_1, sl_22, sl_k, sl_i, sl_s, sl_e, sp_1, sp_21, sp_22, sc_k, sc_i, sc_e, sc_2, mF_k, mM_k, mF_2, mM_2, mF_0, mM_11]
            exact K'' _ _ ⟨rfl, Rel_keep (g1.kp.tr y1.kp) h.succ⟩
    · simp (disch := first | omega | decide) only [Nat.reduceAdd, Nat.reduceMul, ↓ev_bd, ↓ev_ck, ↓ev_if, ↓ev_lt, ↓ev_jn, ↓ev_so, ↓reduceIte, ↓ev_within, ↓ev_in, ↓ev_isBoard, ↓ev_isGauge, ↓ev_isNumber, ↓ev_isSix, ↓ev_isEight, ↓ev_foundN, ↓ev_meetsN, ↓ev_found_1, ↓ev_meets_1, ↓ev_found_2, ↓ev_meets_2, ↓ev_found_3, ↓ev_meets_3, ↓ev_found_4, ↓ev_meets_4, ↓ev_found_5, ↓ev_meets_5, true_and, and_true, and_self, eq_self, not_true_eq_false, not_false_eq_true, ite_true, ite_false, true_or, or_true, false_or, or_false, false_and, and_false, ← zi_ni_0, ← zi_ni_1, ← zi_ni_2, ← zi_ni_3, ← zi_ni_4, ← zi_ni_5, ← zi_ni_6, ← zi_ni_7, ← zi_ni_8, ← zi_ni_9, ← zi_ni_10, ← zi_ni_12, ← zi_ni_24, ← zi_ni_25, ← zi_ni_40, ← zi_ni_45, ← zi_ni_47, ← zi_ni_48, ← zi_ni_95, ← zi_ni_96, ← zi_ni_97, ← zi_ni_100, ← zi_ni_144, ← zi_ni_288, nI_ltI, nI_leI, nI_eqI, nlt_T, nlt_F, nle_T, nle_F, neq_T, neq_F, nI_add, pk_mul, nI_clamp, q_inT, ng_lt, ng_tl, ng_le, ng_el, ng_eq, ng_qe, q_b0, q_b1, nar_0, nar_1, b01, b01', q_bn0, q_bn1, nar_n0, nar_n1, si_k, si_i, si_s, si_e, si_2, sl_1, sl_22, sl_k, sl_i, sl_s, sl_e, sp_1, sp_21, sp_22, sc_k, sc_i, sc_e, sc_2, mF_k, mM_k, mF_2, mM_2, mF_0, mM_11, ↓eu_X10_world, ↓eu_X11_world, ↓eu_X7_isThere, ↓eu_X11_lookedText, he]
      exact h.succ
  · simp (disch := first | omega | decide) only [Nat.reduceAdd, Nat.reduceMul, ↓ev_bd, ↓ev_ck, ↓ev_if, ↓ev_lt, ↓ev_jn, ↓ev_so, ↓reduceIte, ↓ev_within, ↓ev_in, ↓ev_isBoard, ↓ev_isGauge, ↓ev_isNumber, ↓ev_isSix, ↓ev_isEight, ↓ev_foundN, ↓ev_meetsN, ↓ev_found_1, ↓ev_meets_1, ↓ev_found_2, ↓ev_meets_2, ↓ev_found_3, ↓ev_meets_3, ↓ev_found_4, ↓ev_meets_4, ↓ev_found_5, ↓ev_meets_5, true_and, and_true, and_self, eq_self, not_true_eq_false, not_false_eq_true, ite_true, ite_false, true_or, or_true, false_or, or_false, false_and, and_false, ← zi_ni_0, ← zi_ni_1, ← zi_ni_2, ← zi_ni_3, ← zi_ni_4, ← zi_ni_5, ← zi_ni_6, ← zi_ni_7, ← zi_ni_8, ← zi_ni_9, ← zi_ni_10, ← zi_ni_12, ← zi_ni_24, ← zi_ni_25, ← zi_ni_40, ← zi_ni_45, ← zi_ni_47, ← zi_ni_48, ← zi_ni_95, ← zi_ni_96, ← zi_ni_97, ← zi_ni_100, ← zi_ni_144, ← zi_ni_288, nI_ltI, nI_leI, nI_eqI, nlt_T, nlt_F, nle_T, nle_F, neq_T, neq_F, nI_add, pk_mul, nI_clamp, q_inT, ng_lt, ng_tl, ng_le, ng_el, ng_eq, ng_qe, q_b0, q_b1, nar_0, nar_1, b01, b01', q_bn0, q_bn1, nar_n0, nar_n1, si_k, si_i, si_s, si_e, si_2, sl_1, sl_22, sl_k, sl_i, sl_s, sl_e, sp_1, sp_21, sp_22, sc_k, sc_i, sc_e, sc_2, mF_k, mM_k, mF_2, mM_2, mF_0, mM_11, ↓eu_X10_world, ↓eu_X11_world, ↓eu_X7_isThere, ↓eu_X11_lookedText, ha]
    exact h.succ
