theorem sc_n {μ : qM} {k0 i0 k i sp dp n a b c : Nat} (h : ¬ (a = k ∧ b = i)) : (q_sc μ k0 i0 k i sp dp n).1 a b c = μ.1 a b c := if_neg h
def rstB (k w h : Int32) (v : qB) : qB := fun t s => match t with
  | 0 => (match s with | 0 => k | 1 => w | 2 => h | 6 => -nI 9 | 8 => nI 4 | 9 => nI 10 | _ => nI 0)
  | 6 => v 6 s
  | 7 => v 7 s
  | 8 => v 8 s
  | _ => nI 0

theorem ev_reset {o : Nat} {x y z : Int32} {u : qM} {P : Unit → qM → Prop} (K : ∀ u', (∀ k i s, ¬ (i = o ∧ (k = 2 ∨ k = 3 ∨ k = 4 ∨ k = 5 ∨ (37 ≤ k ∧ k ≤ 41))) → u'.1 k i s = u.1 k i s) → u'.2 = u.2 → u'.1 2 o 10 = nI 1 → cB u' o = rstB x y z (cB u o) → P () u') : Ev (f_X0_reset o x y z u) P := by
  simp (disch := first | omega | decide) only [Nat.reduceAdd, Nat.reduceMul, ↓ev_bd, ↓ev_ck, ↓ev_if, ↓ev_lt, ↓ev_jn, ↓ev_so, ↓reduceIte, ↓ev_within, ↓ev_isBoard, ↓ev_isNumber, ↓ev_foundN, ↓ev_found_1, ↓ev_found_2, ↓ev_found_3, ↓ev_found_4, ↓ev_found_5, true_and, and_true, and_self, eq_self, not_true_eq_false, not_false_eq_true, ite_true, ite_false, true_or, or_true, false_or, or_false, false_and, and_false, ← zi_ni_0, ← zi_ni_1, ← zi_ni_2, ← zi_ni_3, ← zi_ni_4, ← zi_ni_5, ← zi_ni_6, ← zi_ni_7, ← zi_ni_8, ← zi_ni_9, ← zi_ni_10, ← zi_ni_12, ← zi_ni_24, ← zi_ni_25, ← zi_ni_40, ← zi_ni_45, ← zi_ni_47, ← zi_ni_48, ← zi_ni_95, ← zi_ni_96, ← zi_ni_97, ← zi_ni_100, ← zi_ni_144, ← zi_ni_288, nI_ltI, nI_leI, nI_eqI, nlt_T, nlt_F, nle_T, nle_F, neq_T, neq_F, nI_add, pk_mul, nI_clamp, q_inT, ng_lt, ng_tl, ng_le, ng_el, ng_eq, ng_qe, q_b0, q_b1, nar_0, nar_1, b01, b01', q_bn0, q_bn1, nar_n0, nar_n1, si_k, si_i, si_s, si_e, si_2, sl_1, sl_22, sl_k, sl_i, sl_s, sl_e, sp_1, sp_21, sp_22, sc_k, sc_i, sc_e, sc_2, mF_k, mF_2, mF_0, ↓eu_X0_reset, ↓eu_X3_reset]
  refine lp_rs1 (fun u1 h1 => ?_)
  refine lp_rs2 (fun u2 h2 => ?_)
  refine lp_rs3 (fun u3 h3 => ?_)
  obtain ⟨p0, p1, p2, p3⟩ := h1
  obtain ⟨q0, q1, q2⟩ := h2
  obtain ⟨r0, r1, r2, r3⟩ := h3
  refine ev_so.mpr (K u3 ?_ ?_ ?_ ?_)
  · intro k i s hk
    rw [r0 k i s (by omega) (by omega), q0 k i s (by omega), p0 k i s (by omega) (by omega)]
    rw [si_n (by omega), si_n (by omega), si_n (by omega), si_n (by omega), si_n (by omega), si_n (by omega), si_n (by omega), si_n (by omega), si_n (by omega), si_n (by omega), si_n (by omega), si_n (by omega), si_n (by omega), si_n (by omega), si_n (by omega), si_n (by omega)]
  · rw [r1, q1, p1]
    rfl
  · rw [r0 2 o 10 (by omega) (by omega), q0 2 o 10 (by omega), p0 2 o 10 (by omega) (by omega)]
    simp (disch := first | omega | decide) only [si_k, si_i, si_s, si_e, si_2, sl_1, sl_22, sl_k, sl_i, sl_s, sl_e, sp_1, sp_21, sp_22, sc_k, sc_i, sc_e, sc_2, mF_k, mF_2, mF_0]
  · funext t s
    rcases (show t = 0 ∨ t = 1 ∨ t = 2 ∨ t = 3 ∨ t = 4 ∨ t = 5 ∨ t = 6 ∨ t = 7 ∨ t = 8 ∨ 9 ≤ t by omega) with rfl | rfl | rfl | rfl | rfl | rfl | rfl | rfl | rfl | ht
    · rcases (show s = 0 ∨ s = 1 ∨ s = 2 ∨ s = 3 ∨ s = 4 ∨ s = 5 ∨ s = 6 ∨ s = 7 ∨ s = 8 ∨ s = 9 ∨ s = 10 ∨ s = 11 ∨ s = 12 ∨ s = 13 ∨ 14 ≤ s by omega) with rfl | rfl | rfl | rfl | rfl | rfl | rfl | rfl | rfl | rfl | rfl | rfl | rfl | rfl | hs
      · show u3.1 2 o 11 = _
        rw [r0 2 o 11 (by omega) (by omega), q0 2 o 11 (by omega), p0 2 o 11 (by omega) (by omega)]
        simp (disch := first | omega | decide) only [si_k, si_i, si_s, si_e, si_2, sl_1, sl_22, sl_k, sl_i, sl_s, sl_e, sp_1, sp_21, sp_22, sc_k, sc_i, sc_e, sc_2, mF_k, mF_2, mF_0, rstB]
      · show u3.1 2 o 12 = _
        rw [r0 2 o 12 (by omega) (by omega), q0 2 o 12 (by omega), p0 2 o 12 (by omega) (by omega)]
        simp (disch := first | omega | decide) only [si_k, si_i, si_s, si_e, si_2, sl_1, sl_22, sl_k, sl_i, sl_s, sl_e, sp_1, sp_21, sp_22, sc_k, sc_i, sc_e, sc_2, mF_k, mF_2, mF_0, rstB]
      · show u3.1 2 o 13 = _
        rw [r0 2 o 13 (by omega) (by omega), q0 2 o 13 (by omega), p0 2 o 13 (by omega) (by omega)]
        simp (disch := first | omega | decide) only [si_k, si_i, si_s, si_e, si_2, sl_1, sl_22, sl_k, sl_i, sl_s, sl_e, sp_1, sp_21, sp_22, sc_k, sc_i, sc_e, sc_2, mF_k, mF_2, mF_0, rstB]
      · show u3.1 2 o 14 = _
        rw [r0 2 o 14 (by omega) (by omega), q0 2 o 14 (by omega), p0 2 o 14 (by omega) (by omega)]
        simp (disch := first | omega | decide) only [si_k, si_i, si_s, si_e, si_2, sl_1, sl_22, sl_k, sl_i, sl_s, sl_e, sp_1, sp_21, sp_22, sc_k, sc_i, sc_e, sc_2, mF_k, mF_2, mF_0, rstB]
      · show u3.1 2 o 15 = _
        rw [r0 2 o 15 (by omega) (by omega), q0 2 o 15 (by omega), p0 2 o 15 (by omega) (by omega)]
        simp (disch := first | omega | decide) only [si_k, si_i, si_s, si_e, si_2, sl_1, sl_22, sl_k, sl_i, sl_s, sl_e, sp_1, sp_21, sp_22, sc_k, sc_i, sc_e, sc_2, mF_k, mF_2, mF_0, rstB]
      · show u3.1 2 o 16 = _
        rw [r0 2 o 16 (by omega) (by omega), q0 2 o 16 (by omega), p0 2 o 16 (by omega) (by omega)]
        simp (disch := first | omega | decide) only [si_k, si_i, si_s, si_e, si_2, sl_1, sl_22, sl_k, sl_i, sl_s, sl_e, sp_1, sp_21, sp_22, sc_k, sc_i, sc_e, sc_2, mF_k, mF_2, mF_0, rstB]
      · show u3.1 2 o 17 = _
        rw [r0 2 o 17 (by omega) (by omega), q0 2 o 17 (by omega), p0 2 o 17 (by omega) (by omega)]
        simp (disch := first | omega | decide) only [si_k, si_i, si_s, si_e, si_2, sl_1, sl_22, sl_k, sl_i, sl_s, sl_e, sp_1, sp_21, sp_22, sc_k, sc_i, sc_e, sc_2, mF_k, mF_2, mF_0, rstB]
      · show u3.1 2 o 18 = _
        rw [r0 2 o 18 (by omega) (by omega), q0 2 o 18 (by omega), p0 2 o 18 (by omega) (by omega)]
        simp (disch := first | omega | decide) only [si_k, si_i, si_s, si_e, si_2, sl_1, sl_22, sl_k, sl_i, sl_s, sl_e, sp_1, sp_21, sp_22, sc_k, sc_i, sc_e, sc_2, mF_k, mF_2, mF_0, rstB]
      · show u3.1 3 o 0 = _
        rw [r0 3 o 0 (by omega) (by omega), q0 3 o 0 (by omega), p0 3 o 0 (by omega) (by omega)]
        simp (disch := first | omega | decide) only [si_k, si_i, si_s, si_e, si_2, sl_1, sl_22, sl_k, sl_i, sl_s, sl_e, sp_1, sp_21, sp_22, sc_k, sc_i, sc_e, sc_2, mF_k, mF_2, mF_0, rstB]
      · show u3.1 3 o 1 = _
        rw [r0 3 o 1 (by omega) (by omega), q0 3 o 1 (by omega), p0 3 o 1 (by omega) (by omega)]
        simp (disch := first | omega | decide) only [si_k, si_i, si_s, si_e, si_2, sl_1, sl_22, sl_k, sl_i, sl_s, sl_e, sp_1, sp_21, sp_22, sc_k, sc_i, sc_e, sc_2, mF_k, mF_2, mF_0, rstB]
      · show u3.1 3 o 2 = _
        rw [r0 3 o 2 (by omega) (by omega), q0 3 o 2 (by omega), p0 3 o 2 (by omega) (by omega)]
        simp (disch := first | omega | decide) only [si_k, si_i, si_s, si_e, si_2, sl_1, sl_22, sl_k, sl_i, sl_s, sl_e, sp_1, sp_21, sp_22, sc_k, sc_i, sc_e, sc_2, mF_k, mF_2, mF_0, rstB]
      · show u3.1 3 o 3 = _
        rw [r0 3 o 3 (by omega) (by omega), q0 3 o 3 (by omega), p0 3 o 3 (by omega) (by omega)]
        simp (disch := first | omega | decide) only [si_k, si_i, si_s, si_e, si_2, sl_1, sl_22, sl_k, sl_i, sl_s, sl_e, sp_1, sp_21, sp_22, sc_k, sc_i, sc_e, sc_2, mF_k, mF_2, mF_0, rstB]
      · show u3.1 4 o 2 = _
        rw [r0 4 o 2 (by omega) (by omega), q0 4 o 2 (by omega), p0 4 o 2 (by omega) (by omega)]
        simp (disch := first | omega | decide) only [si_k, si_i, si_s, si_e, si_2, sl_1, sl_22, sl_k, sl_i, sl_s, sl_e, sp_1, sp_21, sp_22, sc_k, sc_i, sc_e, sc_2, mF_k, mF_2, mF_0, rstB]
      · show u3.1 2 o 9 = _
        rw [r0 2 o 9 (by omega) (by omega), q0 2 o 9 (by omega), p0 2 o 9 (by omega) (by omega)]
        simp (disch := first | omega | decide) only [si_k, si_i, si_s, si_e, si_2, sl_1, sl_22, sl_k, sl_i, sl_s, sl_e, sp_1, sp_21, sp_22, sc_k, sc_i, sc_e, sc_2, mF_k, mF_2, mF_0, rstB]
      · obtain ⟨z, rfl⟩ : ∃ z, s = z + 14 := ⟨s - 14, by omega⟩
        rfl
    · show (if s < 48 then u3.1 37 o (s) else 0) = nI 0
      by_cases q : s < 48
      · rw [if_pos q]
        exact by rw [r0 37 o s (by omega) (by omega), q0 37 o s (by omega)]; exact p2 s q
      · rw [if_neg q]
        rfl
    · show (if s < 48 then u3.1 38 o (s) else 0) = nI 0
      by_cases q : s < 48
      · rw [if_pos q]
        exact by rw [r0 38 o s (by omega) (by omega), q0 38 o s (by omega)]; exact p3 s q
      · rw [if_neg q]
        rfl
    · show (if s < 144 then u3.1 39 o (s) else 0) = nI 0
      by_cases q : s < 144
      · rw [if_pos q]
        exact by rw [r0 39 o s (by omega) (by omega)]; exact q2 s q
      · rw [if_neg q]
        rfl
    · show (if s < 96 then u3.1 40 o (s) else 0) = nI 0
      by_cases q : s < 96
      · rw [if_pos q]
        exact r2 s q
      · rw [if_neg q]
        rfl
    · show (if s < 96 then u3.1 41 o (s) else 0) = nI 0
      by_cases q : s < 96
      · rw [if_pos q]
        exact r3 s q
      · rw [if_neg q]
        rfl
    · show (if s < 4 then u3.1 42 o (s) else 0) = (if s < 4 then u.1 42 o (s) else 0)
      by_cases q : s < 4
      · rw [if_pos q, if_pos q]
        exact by rw [r0 42 o s (by omega) (by omega), q0 42 o s (by omega), p0 42 o s (by omega) (by omega)]; simp (disch := first | omega | decide) only [si_k, si_i, si_s, si_e, si_2, sl_1, sl_22, sl_k, sl_i, sl_s, sl_e, sp_1, sp_21, sp_22, sc_k, sc_i, sc_e, sc_2, mF_k, mF_2, mF_0]
      · rw [if_neg q, if_neg q]
    · show (if s < 4 then u3.1 43 o (s) else 0) = (if s < 4 then u.1 43 o (s) else 0)
      by_cases q : s < 4
      · rw [if_pos q, if_pos q]
        exact by rw [r0 43 o s (by omega) (by omega), q0 43 o s (by omega), p0 43 o s (by omega) (by omega)]; simp (disch := first | omega | decide) only [si_k, si_i, si_s, si_e, si_2, sl_1, sl_22, sl_k, sl_i, sl_s, sl_e, sp_1, sp_21, sp_22, sc_k, sc_i, sc_e, sc_2, mF_k, mF_2, mF_0]
      · rw [if_neg q, if_neg q]
    · show (if s < 4 then u3.1 44 o (s) else 0) = (if s < 4 then u.1 44 o (s) else 0)
      by_cases q : s < 4
      · rw [if_pos q, if_pos q]
        exact by rw [r0 44 o s (by omega) (by omega), q0 44 o s (by omega), p0 44 o s (by omega) (by omega)]; simp (disch := first | omega | decide) only [si_k, si_i, si_s, si_e, si_2, sl_1, sl_22, sl_k, sl_i, sl_s, sl_e, sp_1, sp_21, sp_22, sc_k, sc_i, sc_e, sc_2, mF_k, mF_2, mF_0]
      · rw [if_neg q, if_neg q]
    · obtain ⟨z, rfl⟩ : ∃ z, t = z + 9 := ⟨t - 9, by omega⟩
      rfl
theorem ev_takeOver {o p : Nat} {u : qM} {P : Unit → qM → Prop} (hop : o ≠ p) (ht : u.1 2 p 10 = 0 ∨ u.1 2 p 10 = 1) (hs : ∀ s, s < 96 → u.1 41 p s = 0 ∨ u.1 41 p s = 1) (K : ∀ u', (∀ k i s, ¬ (i = o ∧ (k = 2 ∨ k = 3 ∨ k = 4 ∨ k = 5 ∨ (37 ≤ k ∧ k ≤ 44))) → u'.1 k i s = u.1 k i s) → u'.2 = u.2 → u'.1 2 o 10 = u.1 2 p 10 → cB u' o = cB u p → P () u') : Ev (f_X0_takeOver o p u) P := by
  have hq := q_bT ht
  have c48 : q_cr (nI 0) (nI 0) (nI 48) 48 48 = true := q_crI (by decide) (by decide) (by decide) (by decide) (by decide)
  have c144 : q_cr (nI 0) (nI 0) (nI 144) 144 144 = true := q_crI (by decide) (by decide) (by decide) (by decide) (by decide)
  have c96 : q_cr (nI 0) (nI 0) (nI 96) 96 96 = true := q_crI (by decide) (by decide) (by decide) (by decide) (by decide)
  have c4 : q_cr (nI 0) (nI 0) (nI 4) 4 4 = true := q_crI (by decide) (by decide) (by decide) (by decide) (by decide)
  simp (disch := first | omega | decide) only [Nat.reduceAdd, Nat.reduceMul, ↓ev_bd, ↓ev_ck, ↓ev_if, ↓ev_lt, ↓ev_jn, ↓ev_so, ↓reduceIte, ↓ev_within, ↓ev_isBoard, ↓ev_isNumber, ↓ev_foundN, ↓ev_found_1, ↓ev_found_2, ↓ev_found_3, ↓ev_found_4, ↓ev_found_5, true_and, and_true, and_self, eq_self, not_true_eq_false, not_false_eq_true, ite_true, ite_false, true_or, or_true, false_or, or_false, false_and, and_false, ← zi_ni_0, ← zi_ni_1, ← zi_ni_2, ← zi_ni_3, ← zi_ni_4, ← zi_ni_5, ← zi_ni_6, ← zi_ni_7, ← zi_ni_8, ← zi_ni_9, ← zi_ni_10, ← zi_ni_12, ← zi_ni_24, ← zi_ni_25, ← zi_ni_40, ← zi_ni_45, ← zi_ni_47, ← zi_ni_48, ← zi_ni_95, ← zi_ni_96, ← zi_ni_97, ← zi_ni_100, ← zi_ni_144, ← zi_ni_288, nI_ltI, nI_leI, nI_eqI, nlt_T, nlt_F, nle_T, nle_F, neq_T, neq_F, nI_add, pk_mul, nI_clamp, q_inT, ng_lt, ng_tl, ng_le, ng_el, ng_eq, ng_qe, q_b0, q_b1, nar_0, nar_1, b01, b01', q_bn0, q_bn1, nar_n0, nar_n1, si_k, si_i, si_s, si_e, si_2, sl_1, sl_22, sl_k, sl_i, sl_s, sl_e, sp_1, sp_21, sp_22, sc_k, sc_i, sc_e, sc_2, mF_k, mF_2, mF_0, ↓eu_X0_takeOver, ↓eu_X5_takeOver, ↓eu_X3_takeOver, hq, c48, c144, c96, c4]
  refine lp_to1 hop (fun u1 h1 => ?_)
  obtain ⟨p0, p1, p2, p3⟩ := h1
  simp (disch := first | omega | decide) only [Nat.reduceAdd, Nat.reduceMul, ↓ev_bd, ↓ev_ck, ↓ev_if, ↓ev_lt, ↓ev_jn, ↓ev_so, ↓reduceIte, ↓ev_within, ↓ev_isBoard, ↓ev_isNumber, ↓ev_foundN, ↓ev_found_1, ↓ev_found_2, ↓ev_found_3, ↓ev_found_4, ↓ev_found_5, true_and, and_true, and_self, eq_self, not_true_eq_false, not_false_eq_true, ite_true, ite_false, true_or, or_true, false_or, or_false, false_and, and_false, ← zi_ni_0, ← zi_ni_1, ← zi_ni_2, ← zi_ni_3, ← zi_ni_4, ← zi_ni_5, ← zi_ni_6, ← zi_ni_7, ← zi_ni_8, ← zi_ni_9, ← zi_ni_10, ← zi_ni_12, ← zi_ni_24, ← zi_ni_25, ← zi_ni_40, ← zi_ni_45, ← zi_ni_47, ← zi_ni_48, ← zi_ni_95, ← zi_ni_96, ← zi_ni_97, ← zi_ni_100, ← zi_ni_144, ← zi_ni_288, nI_ltI, nI_leI, nI_eqI, nlt_T, nlt_F, nle_T, nle_F, neq_T, neq_F, nI_add, pk_mul, nI_clamp, q_inT, ng_lt, ng_tl, ng_le, ng_el, ng_eq, ng_qe, q_b0, q_b1, nar_0, nar_1, b01, b01', q_bn0, q_bn1, nar_n0, nar_n1, si_k, si_i, si_s, si_e, si_2, sl_1, sl_22, sl_k, sl_i, sl_s, sl_e, sp_1, sp_21, sp_22, sc_k, sc_i, sc_e, sc_2, mF_k, mF_2, mF_0, ↓eu_X0_takeOver, ↓eu_X5_takeOver, ↓eu_X3_takeOver, hq, c48, c144, c96, c4]
  refine lp_to2 hop (fun s hs' => ?_) (fun u2 h2 => ?_)
  · simp (disch := first | omega | decide) only [si_k, si_i, si_s, si_e, si_2, sl_1, sl_22, sl_k, sl_i, sl_s, sl_e, sp_1, sp_21, sp_22, sc_k, sc_i, sc_e, sc_2, mF_k, mF_2, mF_0, p0]
    exact hs s hs'
  obtain ⟨q0, q1, q2⟩ := h2
  refine ev_so.mpr (K u2 ?_ ?_ ?_ ?_)
  · intro k i s hk
    rw [q0 k i s (by omega)]
    rw [sc_n (by omega), sc_n (by omega), sc_n (by omega), sc_n (by omega), sc_n (by omega), si_n (by omega), si_n (by omega), si_n (by omega), si_n (by omega), si_n (by omega)]
    rw [p0 k i s (by omega) (by omega)]
    rw [si_n (by omega), si_n (by omega), si_n (by omega), si_n (by omega), si_n (by omega), si_n (by omega), si_n (by omega), si_n (by omega), si_n (by omega), si_n (by omega), si_n (by omega)]
  · rw [q1]
    simp (disch := first | omega | decide) only [si_k, si_i, si_s, si_e, si_2, sl_1, sl_22, sl_k, sl_i, sl_s, sl_e, sp_1, sp_21, sp_22, sc_k, sc_i, sc_e, sc_2, mF_k, mF_2, mF_0, p1]
  · rw [q0 2 o 10 (by omega)]
    simp (disch := first | omega | decide) only [si_k, si_i, si_s, si_e, si_2, sl_1, sl_22, sl_k, sl_i, sl_s, sl_e, sp_1, sp_21, sp_22, sc_k, sc_i, sc_e, sc_2, mF_k, mF_2, mF_0, p0]
  · funext t s
    rcases (show t = 0 ∨ t = 1 ∨ t = 2 ∨ t = 3 ∨ t = 4 ∨ t = 5 ∨ t = 6 ∨ t = 7 ∨ t = 8 ∨ 9 ≤ t by omega) with rfl | rfl | rfl | rfl | rfl | rfl | rfl | rfl | rfl | ht
    · rcases (show s = 0 ∨ s = 1 ∨ s = 2 ∨ s = 3 ∨ s = 4 ∨ s = 5 ∨ s = 6 ∨ s = 7 ∨ s = 8 ∨ s = 9 ∨ s = 10 ∨ s = 11 ∨ s = 12 ∨ s = 13 ∨ 14 ≤ s by omega) with rfl | rfl | rfl | rfl | rfl | rfl | rfl | rfl | rfl | rfl | rfl | rfl | rfl | rfl | hs
      · show u2.1 2 o 11 = u.1 2 p 11
        rw [q0 2 o 11 (by omega)]
        simp (disch := first | omega | decide) only [si_k, si_i, si_s, si_e, si_2, sl_1, sl_22, sl_k, sl_i, sl_s, sl_e, sp_1, sp_21, sp_22, sc_k, sc_i, sc_e, sc_2, mF_k, mF_2, mF_0, p0]
      · show u2.1 2 o 12 = u.1 2 p 12
        rw [q0 2 o 12 (by omega)]
        simp (disch := first | omega | decide) only [si_k, si_i, si_s, si_e, si_2, sl_1, sl_22, sl_k, sl_i, sl_s, sl_e, sp_1, sp_21, sp_22, sc_k, sc_i, sc_e, sc_2, mF_k, mF_2, mF_0, p0]
      · show u2.1 2 o 13 = u.1 2 p 13
        rw [q0 2 o 13 (by omega)]
        simp (disch := first | omega | decide) only [si_k, si_i, si_s, si_e, si_2, sl_1, sl_22, sl_k, sl_i, sl_s, sl_e, sp_1, sp_21, sp_22, sc_k, sc_i, sc_e, sc_2, mF_k, mF_2, mF_0, p0]
      · show u2.1 2 o 14 = u.1 2 p 14
        rw [q0 2 o 14 (by omega)]
        simp (disch := first | omega | decide) only [si_k, si_i, si_s, si_e, si_2, sl_1, sl_22, sl_k, sl_i, sl_s, sl_e, sp_1, sp_21, sp_22, sc_k, sc_i, sc_e, sc_2, mF_k, mF_2, mF_0, p0]
      · show u2.1 2 o 15 = u.1 2 p 15
        rw [q0 2 o 15 (by omega)]
        simp (disch := first | omega | decide) only [si_k, si_i, si_s, si_e, si_2, sl_1, sl_22, sl_k, sl_i, sl_s, sl_e, sp_1, sp_21, sp_22, sc_k, sc_i, sc_e, sc_2, mF_k, mF_2, mF_0, p0]
      · show u2.1 2 o 16 = u.1 2 p 16
        rw [q0 2 o 16 (by omega)]
        simp (disch := first | omega | decide) only [si_k, si_i, si_s, si_e, si_2, sl_1, sl_22, sl_k, sl_i, sl_s, sl_e, sp_1, sp_21, sp_22, sc_k, sc_i, sc_e, sc_2, mF_k, mF_2, mF_0, p0]
      · show u2.1 2 o 17 = u.1 2 p 17
        rw [q0 2 o 17 (by omega)]
        simp (disch := first | omega | decide) only [si_k, si_i, si_s, si_e, si_2, sl_1, sl_22, sl_k, sl_i, sl_s, sl_e, sp_1, sp_21, sp_22, sc_k, sc_i, sc_e, sc_2, mF_k, mF_2, mF_0, p0]
      · show u2.1 2 o 18 = u.1 2 p 18
        rw [q0 2 o 18 (by omega)]
        simp (disch := first | omega | decide) only [si_k, si_i, si_s, si_e, si_2, sl_1, sl_22, sl_k, sl_i, sl_s, sl_e, sp_1, sp_21, sp_22, sc_k, sc_i, sc_e, sc_2, mF_k, mF_2, mF_0, p0]
      · show u2.1 3 o 0 = u.1 3 p 0
        rw [q0 3 o 0 (by omega)]
        simp (disch := first | omega | decide) only [si_k, si_i, si_s, si_e, si_2, sl_1, sl_22, sl_k, sl_i, sl_s, sl_e, sp_1, sp_21, sp_22, sc_k, sc_i, sc_e, sc_2, mF_k, mF_2, mF_0, p0]
      · show u2.1 3 o 1 = u.1 3 p 1
        rw [q0 3 o 1 (by omega)]
        simp (disch := first | omega | decide) only [si_k, si_i, si_s, si_e, si_2, sl_1, sl_22, sl_k, sl_i, sl_s, sl_e, sp_1, sp_21, sp_22, sc_k, sc_i, sc_e, sc_2, mF_k, mF_2, mF_0, p0]
      · show u2.1 3 o 2 = u.1 3 p 2
        rw [q0 3 o 2 (by omega)]
        simp (disch := first | omega | decide) only [si_k, si_i, si_s, si_e, si_2, sl_1, sl_22, sl_k, sl_i, sl_s, sl_e, sp_1, sp_21, sp_22, sc_k, sc_i, sc_e, sc_2, mF_k, mF_2, mF_0, p0]
      · show u2.1 3 o 3 = u.1 3 p 3
        rw [q0 3 o 3 (by omega)]
        simp (disch := first | omega | decide) only [si_k, si_i, si_s, si_e, si_2, sl_1, sl_22, sl_k, sl_i, sl_s, sl_e, sp_1, sp_21, sp_22, sc_k, sc_i, sc_e, sc_2, mF_k, mF_2, mF_0, p0]
      · show u2.1 4 o 2 = u.1 4 p 2
        rw [q0 4 o 2 (by omega)]
        simp (disch := first | omega | decide) only [si_k, si_i, si_s, si_e, si_2, sl_1, sl_22, sl_k, sl_i, sl_s, sl_e, sp_1, sp_21, sp_22, sc_k, sc_i, sc_e, sc_2, mF_k, mF_2, mF_0, p0]
      · show u2.1 2 o 9 = u.1 2 p 9
        rw [q0 2 o 9 (by omega)]
        simp (disch := first | omega | decide) only [si_k, si_i, si_s, si_e, si_2, sl_1, sl_22, sl_k, sl_i, sl_s, sl_e, sp_1, sp_21, sp_22, sc_k, sc_i, sc_e, sc_2, mF_k, mF_2, mF_0, p0]
      · obtain ⟨z, rfl⟩ : ∃ z, s = z + 14 := ⟨s - 14, by omega⟩
        rfl
    · show (if s < 48 then u2.1 37 o (s) else 0) = (if s < 48 then u.1 37 p (s) else 0)
      by_cases q : s < 48
      · rw [if_pos q, if_pos q]
        exact by rw [q0 37 o s (by omega)]; simp (disch := first | omega | decide) only [si_k, si_i, si_s, si_e, si_2, sl_1, sl_22, sl_k, sl_i, sl_s, sl_e, sp_1, sp_21, sp_22, sc_k, sc_i, sc_e, sc_2, mF_k, mF_2, mF_0]; rw [pk_cpy_in (Nat.zero_le _) (by omega), Nat.zero_add, Nat.sub_zero]; simp (disch := first | omega | decide) only [si_k, si_i, si_s, si_e, si_2, sl_1, sl_22, sl_k, sl_i, sl_s, sl_e, sp_1, sp_21, sp_22, sc_k, sc_i, sc_e, sc_2, mF_k, mF_2, mF_0, p0]
      · rw [if_neg q, if_neg q]
    · show (if s < 48 then u2.1 38 o (s) else 0) = (if s < 48 then u.1 38 p (s) else 0)
      by_cases q : s < 48
      · rw [if_pos q, if_pos q]
        exact by rw [q0 38 o s (by omega)]; simp (disch := first | omega | decide) only [si_k, si_i, si_s, si_e, si_2, sl_1, sl_22, sl_k, sl_i, sl_s, sl_e, sp_1, sp_21, sp_22, sc_k, sc_i, sc_e, sc_2, mF_k, mF_2, mF_0]; rw [pk_cpy_in (Nat.zero_le _) (by omega), Nat.zero_add, Nat.sub_zero]; simp (disch := first | omega | decide) only [si_k, si_i, si_s, si_e, si_2, sl_1, sl_22, sl_k, sl_i, sl_s, sl_e, sp_1, sp_21, sp_22, sc_k, sc_i, sc_e, sc_2, mF_k, mF_2, mF_0, p0]
      · rw [if_neg q, if_neg q]
    · show (if s < 144 then u2.1 39 o (s) else 0) = (if s < 144 then u.1 39 p (s) else 0)
      by_cases q : s < 144
      · rw [if_pos q, if_pos q]
        exact by rw [q0 39 o s (by omega)]; simp (disch := first | omega | decide) only [si_k, si_i, si_s, si_e, si_2, sl_1, sl_22, sl_k, sl_i, sl_s, sl_e, sp_1, sp_21, sp_22, sc_k, sc_i, sc_e, sc_2, mF_k, mF_2, mF_0]; rw [pk_cpy_in (Nat.zero_le _) (by omega), Nat.zero_add, Nat.sub_zero]; simp (disch := first | omega | decide) only [si_k, si_i, si_s, si_e, si_2, sl_1, sl_22, sl_k, sl_i, sl_s, sl_e, sp_1, sp_21, sp_22, sc_k, sc_i, sc_e, sc_2, mF_k, mF_2, mF_0, p0]
      · rw [if_neg q, if_neg q]
    · show (if s < 96 then u2.1 40 o (s) else 0) = (if s < 96 then u.1 40 p (s) else 0)
      by_cases q : s < 96
      · rw [if_pos q, if_pos q]
        exact by rw [q0 40 o s (by omega)]; simp (disch := first | omega | decide) only [si_k, si_i, si_s, si_e, si_2, sl_1, sl_22, sl_k, sl_i, sl_s, sl_e, sp_1, sp_21, sp_22, sc_k, sc_i, sc_e, sc_2, mF_k, mF_2, mF_0]; rw [pk_cpy_in (Nat.zero_le _) (by omega), Nat.zero_add, Nat.sub_zero]; simp (disch := first | omega | decide) only [si_k, si_i, si_s, si_e, si_2, sl_1, sl_22, sl_k, sl_i, sl_s, sl_e, sp_1, sp_21, sp_22, sc_k, sc_i, sc_e, sc_2, mF_k, mF_2, mF_0, p0]
      · rw [if_neg q, if_neg q]
    · show (if s < 96 then u2.1 41 o (s) else 0) = (if s < 96 then u.1 41 p (s) else 0)
      by_cases q : s < 96
      · rw [if_pos q, if_pos q]
        exact by rw [q2 s q]; simp (disch := first | omega | decide) only [si_k, si_i, si_s, si_e, si_2, sl_1, sl_22, sl_k, sl_i, sl_s, sl_e, sp_1, sp_21, sp_22, sc_k, sc_i, sc_e, sc_2, mF_k, mF_2, mF_0, p0]
      · rw [if_neg q, if_neg q]
    · show (if s < 4 then u2.1 42 o (s) else 0) = (if s < 4 then u.1 42 p (s) else 0)
      by_cases q : s < 4
      · rw [if_pos q, if_pos q]
        exact by rw [q0 42 o s (by omega)]; simp (disch := first | omega | decide) only [si_k, si_i, si_s, si_e, si_2, sl_1, sl_22, sl_k, sl_i, sl_s, sl_e, sp_1, sp_21, sp_22, sc_k, sc_i, sc_e, sc_2, mF_k, mF_2, mF_0]; rw [pk_cpy_in (Nat.zero_le _) (by omega), Nat.zero_add, Nat.sub_zero]; simp (disch := first | omega | decide) only [si_k, si_i, si_s, si_e, si_2, sl_1, sl_22, sl_k, sl_i, sl_s, sl_e, sp_1, sp_21, sp_22, sc_k, sc_i, sc_e, sc_2, mF_k, mF_2, mF_0, p0]
      · rw [if_neg q, if_neg q]
    · show (if s < 4 then u2.1 43 o (s) else 0) = (if s < 4 then u.1 43 p (s) else 0)
      by_cases q : s < 4
      · rw [if_pos q, if_pos q]
        exact by rw [q0 43 o s (by omega)]; simp (disch := first | omega | decide) only [si_k, si_i, si_s, si_e, si_2, sl_1, sl_22, sl_k, sl_i, sl_s, sl_e, sp_1, sp_21, sp_22, sc_k, sc_i, sc_e, sc_2, mF_k, mF_2, mF_0]; rw [p2 s q]; simp (disch := first | omega | decide) only [si_k, si_i, si_s, si_e, si_2, sl_1, sl_22, sl_k, sl_i, sl_s, sl_e, sp_1, sp_21, sp_22, sc_k, sc_i, sc_e, sc_2, mF_k, mF_2, mF_0]
      · rw [if_neg q, if_neg q]
    · show (if s < 4 then u2.1 44 o (s) else 0) = (if s < 4 then u.1 44 p (s) else 0)
      by_cases q : s < 4
      · rw [if_pos q, if_pos q]
        exact by rw [q0 44 o s (by omega)]; simp (disch := first | omega | decide) only [si_k, si_i, si_s, si_e, si_2, sl_1, sl_22, sl_k, sl_i, sl_s, sl_e, sp_1, sp_21, sp_22, sc_k, sc_i, sc_e, sc_2, mF_k, mF_2, mF_0]; rw [p3 s q]; simp (disch := first | omega | decide) only [si_k, si_i, si_s, si_e, si_2, sl_1, sl_22, sl_k, sl_i, sl_s, sl_e, sp_1, sp_21, sp_22, sc_k, sc_i, sc_e, sc_2, mF_k, mF_2, mF_0]
      · rw [if_neg q, if_neg q]
    · obtain ⟨z, rfl⟩ : ∃ z, t = z + 9 := ⟨t - 9, by omega⟩
      rfl
