/-! A board made anew; a board brought to another place. -/
theorem sc_n {μ : qM} {k0 i0 k i sp dp n a b c : Nat} (h : ¬ (a = k ∧ b = i)) : (q_sc μ k0 i0 k i sp dp n).1 a b c = μ.1 a b c := if_neg h
theorem fu_bg {x y z : Int32} {u : qM} {e : qM → Option (Unit × qM)} {P : Unit → qM → Prop} : Ev (L_X11_begin_166 x y q_fu z u e) P ↔ Ev (L_X11_begin_166 x y (3996 + 1 + 1 + 1 + 1) z u e) P := Iff.rfl
theorem lp_bg1 {a : Nat} {u : qM} {e : qM → Option (Unit × qM)} {P : Unit → qM → Prop} (ha : a < 8) (K0 : ∀ u', (∀ k i s, ¬ (k = 91 ∧ i = 0 ∧ 48 * a ≤ s ∧ s < 48 * a + 48) → ¬ (k = 92 ∧ i = 0 ∧ 48 * a ≤ s ∧ s < 48 * a + 48) → ¬ (k = 99 ∧ i = 0 ∧ 48 * a ≤ s ∧ s < 48 * a + 48) → ¬ (k = 100 ∧ i = 0 ∧ 48 * a ≤ s ∧ s < 48 * a + 48) → ¬ (k = 93 ∧ i = 0 ∧ 144 * a ≤ s ∧ s < 144 * a + 144) → u'.1 k i s = u.1 k i s) ∧ u'.2 = u.2 ∧ (∀ s, s < 48 → u'.1 91 0 (48 * a + s) = nI 0 ∧ u'.1 92 0 (48 * a + s) = nI 0 ∧ u'.1 99 0 (48 * a + s) = nI 0 ∧ u'.1 100 0 (48 * a + s) = nI 0 ∧ u'.1 93 0 (144 * a + s) = nI 0 ∧ u'.1 93 0 (144 * a + 48 + s) = nI 0 ∧ u'.1 93 0 (144 * a + 96 + s) = nI 0) → Ev (e u') P) : Ev (L_X11_begin_104 (nI a) q_fu 0 u e) P := by
  refine lpc (fun f x t => L_X11_begin_104 (nI a) f x t e) (fun j t => (∀ k i s, ¬ (k = 91 ∧ i = 0 ∧ 48 * a ≤ s ∧ s < 48 * a + j) → ¬ (k = 92 ∧ i = 0 ∧ 48 * a ≤ s ∧ s < 48 * a + j) → ¬ (k = 99 ∧ i = 0 ∧ 48 * a ≤ s ∧ s < 48 * a + j) → ¬ (k = 100 ∧ i = 0 ∧ 48 * a ≤ s ∧ s < 48 * a + j) → ¬ (k = 93 ∧ i = 0 ∧ 144 * a ≤ s ∧ s < 144 * a + 144) → t.1 k i s = u.1 k i s) ∧ t.2 = u.2 ∧ (∀ s, s < j → t.1 91 0 (48 * a + s) = nI 0 ∧ t.1 92 0 (48 * a + s) = nI 0 ∧ t.1 99 0 (48 * a + s) = nI 0 ∧ t.1 100 0 (48 * a + s) = nI 0 ∧ t.1 93 0 (144 * a + s) = nI 0 ∧ t.1 93 0 (144 * a + 48 + s) = nI 0 ∧ t.1 93 0 (144 * a + 96 + s) = nI 0)) 48 (by decide) u ⟨fun _ _ _ _ _ _ _ _ => rfl, rfl, fun s hs => absurd hs (Nat.not_lt_zero _)⟩ ?_ ?_
  · rintro f j w hj ⟨fr, f2, g⟩ K
    show Ev (L_X11_begin_104 (nI a) (f + 1) (nI j) w e) P
    simp (disch := first | omega | decide) only [Nat.reduceAdd, Nat.reduceMul, ↓ev_bd, ↓ev_ck, ↓ev_if, ↓ev_lt, ↓ev_jn, ↓ev_so, ↓reduceIte, ↓ev_within, ↓ev_in, ↓ev_isBoard, ↓ev_isGauge, ↓ev_isNumber, ↓ev_isSix, ↓ev_isEight, ↓ev_foundN, ↓ev_meetsN, ↓ev_found_1, ↓ev_meets_1, ↓ev_found_2, ↓ev_meets_2, ↓ev_found_3, ↓ev_meets_3, ↓ev_found_4, ↓ev_meets_4, ↓ev_found_5, ↓ev_meets_5, true_and, and_true, and_self, eq_self, not_true_eq_false, not_false_eq_true, ite_true, ite_false, true_or, or_true, false_or, or_false, false_and, and_false, ← zi_ni_0, ← zi_ni_1, ← zi_ni_2, ← zi_ni_3, ← zi_ni_4, ← zi_ni_5, ← zi_ni_6, ← zi_ni_7, ← zi_ni_8, ← zi_ni_9, ← zi_ni_10, ← zi_ni_12, ← zi_ni_24, ← zi_ni_25, ← zi_ni_40, ← zi_ni_45, ← zi_ni_47, ← zi_ni_48, ← zi_ni_95, ← zi_ni_96, ← zi_ni_97, ← zi_ni_100, ← zi_ni_144, ← zi_ni_288, nI_ltI, nI_leI, nI_eqI, nlt_T, nlt_F, nle_T, nle_F, neq_T, neq_F, nI_add, pk_mul, nI_clamp, q_inT, ng_lt, ng_tl, ng_le, ng_el, ng_eq, ng_qe, q_b0, q_b1, nar_0, nar_1, b01, b01', q_bn0, q_bn1, nar_n0, nar_n1, si_k, si_i, si_s, si_e, si_2, sl_1, sl_22, sl_k, sl_i, sl_s, sl_e, sp_1, sp_21, sp_22, sc_k, sc_i, sc_e, sc_2, mF_k, mM_k, mF_2, mM_2, mF_0, mM_11, ↓eu_L_X11_begin_104, ↓fu_bg, ↓eu_L_X11_begin_166]
    refine K _ ⟨fun k i s h0 h1 h2 h3 h4 => ?_, f2, fun s hs => ?_⟩
    · rw [si_n (by omega), si_n (by omega), si_n (by omega), si_n (by omega), si_n (by omega), si_n (by omega), si_n (by omega)]
      exact fr k i s (by omega) (by omega) (by omega) (by omega) (by omega)
    · by_cases q : s = j
      · subst q
        refine ⟨?_, ?_, ?_, ?_, ?_, ?_, ?_⟩
        · rw [si_k (by decide), si_k (by decide), si_k (by decide), si_k (by decide), si_k (by decide), si_k (by decide), si_e]
        · rw [si_k (by decide), si_k (by decide), si_k (by decide), si_k (by decide), si_k (by decide), si_e]
        · rw [si_k (by decide), si_k (by decide), si_k (by decide), si_k (by decide), si_e]
        · rw [si_k (by decide), si_k (by decide), si_k (by decide), si_e]
        · rw [si_s (by omega), si_s (by omega)]
          exact if_pos ⟨rfl, rfl, by omega⟩
        · rw [si_s (by omega)]
          exact if_pos ⟨rfl, rfl, by omega⟩
        · exact if_pos ⟨rfl, rfl, by omega⟩
      · obtain ⟨g0, g1, g2, g3, g4, g5, g6⟩ := g s (by omega)
        refine ⟨?_, ?_, ?_, ?_, ?_, ?_, ?_⟩
        · rw [si_n (by omega), si_n (by omega), si_n (by omega), si_n (by omega), si_n (by omega), si_n (by omega), si_n (by omega)]; exact g0
        · rw [si_n (by omega), si_n (by omega), si_n (by omega), si_n (by omega), si_n (by omega), si_n (by omega), si_n (by omega)]; exact g1
        · rw [si_n (by omega), si_n (by omega), si_n (by omega), si_n (by omega), si_n (by omega), si_n (by omega), si_n (by omega)]; exact g2
        · rw [si_n (by omega), si_n (by omega), si_n (by omega), si_n (by omega), si_n (by omega), si_n (by omega), si_n (by omega)]; exact g3
        · rw [si_n (by omega), si_n (by omega), si_n (by omega), si_n (by omega), si_n (by omega), si_n (by omega), si_n (by omega)]; exact g4
        · rw [si_n (by omega), si_n (by omega), si_n (by omega), si_n (by omega), si_n (by omega), si_n (by omega), si_n (by omega)]; exact g5
        · rw [si_n (by omega), si_n (by omega), si_n (by omega), si_n (by omega), si_n (by omega), si_n (by omega), si_n (by omega)]; exact g6
  · rintro f w g
    show Ev (L_X11_begin_104 (nI a) (f + 1) (nI 48) w e) P
    simp (disch := first | omega | decide) only [Nat.reduceAdd, Nat.reduceMul, ↓ev_bd, ↓ev_ck, ↓ev_if, ↓ev_lt, ↓ev_jn, ↓ev_so, ↓reduceIte, ↓ev_within, ↓ev_in, ↓ev_isBoard, ↓ev_isGauge, ↓ev_isNumber, ↓ev_isSix, ↓ev_isEight, ↓ev_foundN, ↓ev_meetsN, ↓ev_found_1, ↓ev_meets_1, ↓ev_found_2, ↓ev_meets_2, ↓ev_found_3, ↓ev_meets_3, ↓ev_found_4, ↓ev_meets_4, ↓ev_found_5, ↓ev_meets_5, true_and, and_true, and_self, eq_self, not_true_eq_false, not_false_eq_true, ite_true, ite_false, true_or, or_true, false_or, or_false, false_and, and_false, ← zi_ni_0, ← zi_ni_1, ← zi_ni_2, ← zi_ni_3, ← zi_ni_4, ← zi_ni_5, ← zi_ni_6, ← zi_ni_7, ← zi_ni_8, ← zi_ni_9, ← zi_ni_10, ← zi_ni_12, ← zi_ni_24, ← zi_ni_25, ← zi_ni_40, ← zi_ni_45, ← zi_ni_47, ← zi_ni_48, ← zi_ni_95, ← zi_ni_96, ← zi_ni_97, ← zi_ni_100, ← zi_ni_144, ← zi_ni_288, nI_ltI, nI_leI, nI_eqI, nlt_T, nlt_F, nle_T, nle_F, neq_T, neq_F, nI_add, pk_mul, nI_clamp, q_inT, ng_lt, ng_tl, ng_le, ng_el, ng_eq, ng_qe, q_b0, q_b1, nar_0, nar_1, b01, b01', q_bn0, q_bn1, nar_n0, nar_n1, si_k, si_i, si_s, si_e, si_2, sl_1, sl_22, sl_k, sl_i, sl_s, sl_e, sp_1, sp_21, sp_22, sc_k, sc_i, sc_e, sc_2, mF_k, mM_k, mF_2, mM_2, mF_0, mM_11, ↓eu_L_X11_begin_104, ↓fu_bg, ↓eu_L_X11_begin_166]
    exact K0 _ g
def rstB (k w h : Int32) (v : qB) : qB := fun t s => match t with
  | 0 => (match s with | 0 => k | 1 => w | 2 => h | 6 => -nI 9 | 8 => nI 4 | 9 => nI 10 | _ => nI 0)
  | 6 => v 6 s
  | 7 => v 7 s
  | 8 => v 8 s
  | _ => nI 0

theorem ev_reset {o : Nat} {x y z : Int32} {u : qM} {P : Unit → qM → Prop} (K : ∀ u', (∀ k i s, ¬ (i = o ∧ (k = 2 ∨ k = 3 ∨ k = 4 ∨ k = 5 ∨ (37 ≤ k ∧ k ≤ 41))) → u'.1 k i s = u.1 k i s) → u'.2 = u.2 → u'.1 2 o 10 = nI 1 → cB u' o = rstB x y z (cB u o) → P () u') : Ev (f_X0_reset o x y z u) P := by
  simp (disch := first | omega | decide) only [Nat.reduceAdd, Nat.reduceMul, ↓ev_bd, ↓ev_ck, ↓ev_if, ↓ev_lt, ↓ev_jn, ↓ev_so, ↓reduceIte, ↓ev_within, ↓ev_in, ↓ev_isBoard, ↓ev_isGauge, ↓ev_isNumber, ↓ev_isSix, ↓ev_isEight, ↓ev_foundN, ↓ev_meetsN, ↓ev_found_1, ↓ev_meets_1, ↓ev_found_2, ↓ev_meets_2, ↓ev_found_3, ↓ev_meets_3, ↓ev_found_4, ↓ev_meets_4, ↓ev_found_5, ↓ev_meets_5, true_and, and_true, and_self, eq_self, not_true_eq_false, not_false_eq_true, ite_true, ite_false, true_or, or_true, false_or, or_false, false_and, and_false, ← zi_ni_0, ← zi_ni_1, ← zi_ni_2, ← zi_ni_3, ← zi_ni_4, ← zi_ni_5, ← zi_ni_6, ← zi_ni_7, ← zi_ni_8, ← zi_ni_9, ← zi_ni_10, ← zi_ni_12, ← zi_ni_24, ← zi_ni_25, ← zi_ni_40, ← zi_ni_45, ← zi_ni_47, ← zi_ni_48, ← zi_ni_95, ← zi_ni_96, ← zi_ni_97, ← zi_ni_100, ← zi_ni_144, ← zi_ni_288, nI_ltI, nI_leI, nI_eqI, nlt_T, nlt_F, nle_T, nle_F, neq_T, neq_F, nI_add, pk_mul, nI_clamp, q_inT, ng_lt, ng_tl, ng_le, ng_el, ng_eq, ng_qe, q_b0, q_b1, nar_0, nar_1, b01, b01', q_bn0, q_bn1, nar_n0, nar_n1, si_k, si_i, si_s, si_e, si_2, sl_1, sl_22, sl_k, sl_i, sl_s, sl_e, sp_1, sp_21, sp_22, sc_k, sc_i, sc_e, sc_2, mF_k, mM_k, mF_2, mM_2, mF_0, mM_11, ↓eu_X0_reset, ↓eu_X3_reset]
  refine lp_rs1 (fun u1 h1 => ?_)
  refine lp_rs2 (fun u2 h2 => ?_)
  refine lp_rs3 (fun u3 h3 => ?_)
  obtain ⟨p0, p1, p2, p3⟩ := h1
  obtain ⟨q0, q1, q2⟩ := h2
  obtain ⟨r0, r1, r2, r3⟩ := h3
  refine ev_so.mpr (K u3 ?_ ?_ ?_ ?_)
  · intro k i s hk
    rw [r0 k i s (by omega) (by omega), q0 k i s (by omega), p0 k i s (by omega) (by omega)]
    rw [si_n (by omega), si_n (by omega), si_n (by omega), si_n (by omega), si_n (by omega), si_n (by omega), si_n (by omega), si_n (by omega), si_n (by omega), si_n (by omega), si_n (by omega), si_n (by omega), si_n (by omega), si_n (by omega), si_n (by omega), si_n (by omega)]
  · rw [r1, q1, p1]
    rfl
  · rw [r0 2 o 10 (by omega) (by omega), q0 2 o 10 (by omega), p0 2 o 10 (by omega) (by omega)]
    simp (disch := first | omega | decide) only [si_k, si_i, si_s, si_e, si_2, sl_1, sl_22, sl_k, sl_i, sl_s, sl_e, sp_1, sp_21, sp_22, sc_k, sc_i, sc_e, sc_2, mF_k, mM_k, mF_2, mM_2, mF_0, mM_11]
  · funext t s
    rcases (show t = 0 ∨ t = 1 ∨ t = 2 ∨ t = 3 ∨ t = 4 ∨ t = 5 ∨ t = 6 ∨ t = 7 ∨ t = 8 ∨ 9 ≤ t by omega) with rfl | rfl | rfl | rfl | rfl | rfl | rfl | rfl | rfl | ht
    · rcases (show s = 0 ∨ s = 1 ∨ s = 2 ∨ s = 3 ∨ s = 4 ∨ s = 5 ∨ s = 6 ∨ s = 7 ∨ s = 8 ∨ s = 9 ∨ s = 10 ∨ s = 11 ∨ s = 12 ∨ s = 13 ∨ 14 ≤ s by omega) with rfl | rfl | rfl | rfl | rfl | rfl | rfl | rfl | rfl | rfl | rfl | rfl | rfl | rfl | hs
      · show u3.1 2 o 11 = _
        rw [r0 2 o 11 (by omega) (by omega), q0 2 o 11 (by omega), p0 2 o 11 (by omega) (by omega)]
        simp (disch := first | omega | decide) only [si_k, si_i, si_s, si_e, si_2, sl_1, sl_22, sl_k, sl_i, sl_s, sl_e, sp_1, sp_21, sp_22, sc_k, sc_i, sc_e, sc_2, mF_k, mM_k, mF_2, mM_2, mF_0, mM_11, rstB]
      · show u3.1 2 o 12 = _
        rw [r0 2 o 12 (by omega) (by omega), q0 2 o 12 (by omega), p0 2 o 12 (by omega) (by omega)]
        simp (disch := first | omega | decide) only [si_k, si_i, si_s, si_e, si_2, sl_1, sl_22, sl_k, sl_i, sl_s, sl_e, sp_1, sp_21, sp_22, sc_k, sc_i, sc_e, sc_2, mF_k, mM_k, mF_2, mM_2, mF_0, mM_11, rstB]
      · show u3.1 2 o 13 = _
        rw [r0 2 o 13 (by omega) (by omega), q0 2 o 13 (by omega), p0 2 o 13 (by omega) (by omega)]
        simp (disch := first | omega | decide) only [si_k, si_i, si_s, si_e, si_2, sl_1, sl_22, sl_k, sl_i, sl_s, sl_e, sp_1, sp_21, sp_22, sc_k, sc_i, sc_e, sc_2, mF_k, mM_k, mF_2, mM_2, mF_0, mM_11, rstB]
      · show u3.1 2 o 14 = _
        rw [r0 2 o 14 (by omega) (by omega), q0 2 o 14 (by omega), p0 2 o 14 (by omega) (by omega)]
        simp (disch := first | omega | decide) only [si_k, si_i, si_s, si_e, si_2, sl_1, sl_22, sl_k, sl_i, sl_s, sl_e, sp_1, sp_21, sp_22, sc_k, sc_i, sc_e, sc_2, mF_k, mM_k, mF_2, mM_2, mF_0, mM_11, rstB]
      · show u3.1 2 o 15 = _
        rw [r0 2 o 15 (by omega) (by omega), q0 2 o 15 (by omega), p0 2 o 15 (by omega) (by omega)]
        simp (disch := first | omega | decide) only [si_k, si_i, si_s, si_e, si_2, sl_1, sl_22, sl_k, sl_i, sl_s, sl_e, sp_1, sp_21, sp_22, sc_k, sc_i, sc_e, sc_2, mF_k, mM_k, mF_2, mM_2, mF_0, mM_11, rstB]
      · show u3.1 2 o 16 = _
        rw [r0 2 o 16 (by omega) (by omega), q0 2 o 16 (by omega), p0 2 o 16 (by omega) (by omega)]
        simp (disch := first | omega | decide) only [si_k, si_i, si_s, si_e, si_2, sl_1, sl_22, sl_k, sl_i, sl_s, sl_e, sp_1, sp_21, sp_22, sc_k, sc_i, sc_e, sc_2, mF_k, mM_k, mF_2, mM_2, mF_0, mM_11, rstB]
      · show u3.1 2 o 17 = _
        rw [r0 2 o 17 (by omega) (by omega), q0 2 o 17 (by omega), p0 2 o 17 (by omega) (by omega)]
        simp (disch := first | omega | decide) only [si_k, si_i, si_s, si_e, si_2, sl_1, sl_22, sl_k, sl_i, sl_s, sl_e, sp_1, sp_21, sp_22, sc_k, sc_i, sc_e, sc_2, mF_k, mM_k, mF_2, mM_2, mF_0, mM_11, rstB]
      · show u3.1 2 o 18 = _
        rw [r0 2 o 18 (by omega) (by omega), q0 2 o 18 (by omega), p0 2 o 18 (by omega) (by omega)]
        simp (disch := first | omega | decide) only [si_k, si_i, si_s, si_e, si_2, sl_1, sl_22, sl_k, sl_i, sl_s, sl_e, sp_1, sp_21, sp_22, sc_k, sc_i, sc_e, sc_2, mF_k, mM_k, mF_2, mM_2, mF_0, mM_11, rstB]
      · show u3.1 3 o 0 = _
        rw [r0 3 o 0 (by omega) (by omega), q0 3 o 0 (by omega), p0 3 o 0 (by omega) (by omega)]
        simp (disch := first | omega | decide) only [si_k, si_i, si_s, si_e, si_2, sl_1, sl_22, sl_k, sl_i, sl_s, sl_e, sp_1, sp_21, sp_22, sc_k, sc_i, sc_e, sc_2, mF_k, mM_k, mF_2, mM_2, mF_0, mM_11, rstB]
      · show u3.1 3 o 1 = _
        rw [r0 3 o 1 (by omega) (by omega), q0 3 o 1 (by omega), p0 3 o 1 (by omega) (by omega)]
        simp (disch := first | omega | decide) only [si_k, si_i, si_s, si_e, si_2, sl_1, sl_22, sl_k, sl_i, sl_s, sl_e, sp_1, sp_21, sp_22, sc_k, sc_i, sc_e, sc_2, mF_k, mM_k, mF_2, mM_2, mF_0, mM_11, rstB]
      · show u3.1 3 o 2 = _
        rw [r0 3 o 2 (by omega) (by omega), q0 3 o 2 (by omega), p0 3 o 2 (by omega) (by omega)]
        simp (disch := first | omega | decide) only [si_k, si_i, si_s, si_e, si_2, sl_1, sl_22, sl_k, sl_i, sl_s, sl_e, sp_1, sp_21, sp_22, sc_k, sc_i, sc_e, sc_2, mF_k, mM_k, mF_2, mM_2, mF_0, mM_11, rstB]
      · show u3.1 3 o 3 = _
        rw [r0 3 o 3 (by omega) (by omega), q0 3 o 3 (by omega), p0 3 o 3 (by omega) (by omega)]
        simp (disch := first | omega | decide) only [si_k, si_i, si_s, si_e, si_2, sl_1, sl_22, sl_k, sl_i, sl_s, sl_e, sp_1, sp_21, sp_22, sc_k, sc_i, sc_e, sc_2, mF_k, mM_k, mF_2, mM_2, mF_0, mM_11, rstB]
      · show u3.1 4 o 2 = _
        rw [r0 4 o 2 (by omega) (by omega), q0 4 o 2 (by omega), p0 4 o 2 (by omega) (by omega)]
        simp (disch := first | omega | decide) only [si_k, si_i, si_s, si_e, si_2, sl_1, sl_22, sl_k, sl_i, sl_s, sl_e, sp_1, sp_21, sp_22, sc_k, sc_i, sc_e, sc_2, mF_k, mM_k, mF_2, mM_2, mF_0, mM_11, rstB]
      · show u3.1 2 o 9 = _
        rw [r0 2 o 9 (by omega) (by omega), q0 2 o 9 (by omega), p0 2 o 9 (by omega) (by omega)]
        simp (disch := first | omega | decide) only [si_k, si_i, si_s, si_e, si_2, sl_1, sl_22, sl_k, sl_i, sl_s, sl_e, sp_1, sp_21, sp_22, sc_k, sc_i, sc_e, sc_2, mF_k, mM_k, mF_2, mM_2, mF_0, mM_11, rstB]
      · obtain ⟨z, rfl⟩ : ∃ z, s = z + 14 := ⟨s - 14, by omega⟩
        rfl
    · show (if s < 48 then u3.1 37 o (s) else 0) = nI 0
      by_cases q : s < 48
      · rw [if_pos q]
        exact by rw [r0 37 o s (by omega) (by omega), q0 37 o s (by omega)]; exact p2 s q
      · rw [if_neg q]
        rfl
    · show (if s < 48 then u3.1 38 o (s) else 0) = nI 0
      by_cases q : s < 48
      · rw [if_pos q]
        exact by rw [r0 38 o s (by omega) (by omega), q0 38 o s (by omega)]; exact p3 s q
      · rw [if_neg q]
        rfl
    · show (if s < 144 then u3.1 39 o (s) else 0) = nI 0
      by_cases q : s < 144
      · rw [if_pos q]
        exact by rw [r0 39 o s (by omega) (by omega)]; exact q2 s q
      · rw [if_neg q]
        rfl
    · show (if s < 96 then u3.1 40 o (s) else 0) = nI 0
      by_cases q : s < 96
      · rw [if_pos q]
        exact r2 s q
      · rw [if_neg q]
        rfl
    · show (if s < 96 then u3.1 41 o (s) else 0) = nI 0
      by_cases q : s < 96
      · rw [if_pos q]
        exact r3 s q
      · rw [if_neg q]
        rfl
    · show (if s < 4 then u3.1 42 o (s) else 0) = (if s < 4 then u.1 42 o (s) else 0)
      by_cases q : s < 4
      · rw [if_pos q, if_pos q]
        exact by rw [r0 42 o s (by omega) (by omega), q0 42 o s (by omega), p0 42 o s (by omega) (by omega)]; simp (disch := first | omega | decide) only [si_k, si_i, si_s, si_e, si_2, sl_1, sl_22, sl_k, sl_i, sl_s, sl_e, sp_1, sp_21, sp_22, sc_k, sc_i, sc_e, sc_2, mF_k, mM_k, mF_2, mM_2, mF_0, mM_11]
      · rw [if_neg q, if_neg q]
    · show (if s < 4 then u3.1 43 o (s) else 0) = (if s < 4 then u.1 43 o (s) else 0)
      by_cases q : s < 4
      · rw [if_pos q, if_pos q]
        exact by rw [r0 43 o s (by omega) (by omega), q0 43 o s (by omega), p0 43 o s (by omega) (by omega)]; simp (disch := first | omega | decide) only [si_k, si_i, si_s, si_e, si_2, sl_1, sl_22, sl_k, sl_i, sl_s, sl_e, sp_1, sp_21, sp_22, sc_k, sc_i, sc_e, sc_2, mF_k, mM_k, mF_2, mM_2, mF_0, mM_11]
      · rw [if_neg q, if_neg q]
    · show (if s < 4 then u3.1 44 o (s) else 0) = (if s < 4 then u.1 44 o (s) else 0)
      by_cases q : s < 4
      · rw [if_pos q, if_pos q]
        exact by rw [r0 44 o s (by omega) (by omega), q0 44 o s (by omega), p0 44 o s (by omega) (by omega)]; simp (disch := first | omega | decide) only [si_k, si_i, si_s, si_e, si_2, sl_1, sl_22, sl_k, sl_i, sl_s, sl_e, sp_1, sp_21, sp_22, sc_k, sc_i, sc_e, sc_2, mF_k, mM_k, mF_2, mM_2, mF_0, mM_11]
      · rw [if_neg q, if_neg q]
    · obtain ⟨z, rfl⟩ : ∃ z, t = z + 9 := ⟨t - 9, by omega⟩
      rfl
theorem ev_begin {a : Nat} {x y z : Int32} {u : qM} {P : Unit → qM → Prop} (ha : a < 8) (K : ∀ u', (∀ k i s, ¬ (isMK k = true ∧ i = 0) → ¬ (k = 99 ∧ i = 0 ∧ 48 * a ≤ s ∧ s < 48 * a + 48) → ¬ (k = 100 ∧ i = 0 ∧ 48 * a ≤ s ∧ s < 48 * a + 48) → u'.1 k i s = u.1 k i s) → u'.2 = u.2 → mB u' a = rstB x y z (mB u a) → (∀ b, b ≠ a → mB u' b = mB u b) → (∀ s, s < 48 → u'.1 99 0 (48 * a + s) = nI 0 ∧ u'.1 100 0 (48 * a + s) = nI 0) → P () u') : Ev (f_X11_begin (nI a) x y z u) P := by
  simp (disch := first | omega | decide) only [Nat.reduceAdd, Nat.reduceMul, ↓ev_bd, ↓ev_ck, ↓ev_if, ↓ev_lt, ↓ev_jn, ↓ev_so, ↓reduceIte, ↓ev_within, ↓ev_in, ↓ev_isBoard, ↓ev_isGauge, ↓ev_isNumber, ↓ev_isSix, ↓ev_isEight, ↓ev_foundN, ↓ev_meetsN, ↓ev_found_1, ↓ev_meets_1, ↓ev_found_2, ↓ev_meets_2, ↓ev_found_3, ↓ev_meets_3, ↓ev_found_4, ↓ev_meets_4, ↓ev_found_5, ↓ev_meets_5, true_and, and_true, and_self, eq_self, not_true_eq_false, not_false_eq_true, ite_true, ite_false, true_or, or_true, false_or, or_false, false_and, and_false, ← zi_ni_0, ← zi_ni_1, ← zi_ni_2, ← zi_ni_3, ← zi_ni_4, ← zi_ni_5, ← zi_ni_6, ← zi_ni_7, ← zi_ni_8, ← zi_ni_9, ← zi_ni_10, ← zi_ni_12, ← zi_ni_24, ← zi_ni_25, ← zi_ni_40, ← zi_ni_45, ← zi_ni_47, ← zi_ni_48, ← zi_ni_95, ← zi_ni_96, ← zi_ni_97, ← zi_ni_100, ← zi_ni_144, ← zi_ni_288, nI_ltI, nI_leI, nI_eqI, nlt_T, nlt_F, nle_T, nle_F, neq_T, neq_F, nI_add, pk_mul, nI_clamp, q_inT, ng_lt, ng_tl, ng_le, ng_el, ng_eq, ng_qe, q_b0, q_b1, nar_0, nar_1, b01, b01', q_bn0, q_bn1, nar_n0, nar_n1, si_k, si_i, si_s, si_e, si_2, sl_1, sl_22, sl_k, sl_i, sl_s, sl_e, sp_1, sp_21, sp_22, sc_k, sc_i, sc_e, sc_2, mF_k, mM_k, mF_2, mM_2, mF_0, mM_11, ↓eu_X11_begin]
  refine lp_bg1 ha (fun u1 h1 => ?_)
  refine lp_bg3 ha (fun u2 h2 => ?_)
  obtain ⟨p0, p1, p2⟩ := h1
  obtain ⟨q0, q1, q2, q3⟩ := h2
  refine ev_so.mpr (K u2 ?_ ?_ ?_ ?_ ?_)
  · intro k i s hk h9 h10
    have hm : ∀ c, isMK c = true → ¬ (k = c ∧ i = 0) := fun c hc q => hk ⟨by rw [q.1]; exact hc, q.2⟩
    have m1 := hm 91 rfl
    have m2 := hm 92 rfl
    have m3 := hm 93 rfl
    have m4 := hm 94 rfl
    have m5 := hm 95 rfl
    have n74 := hm 74 rfl
    have n75 := hm 75 rfl
    have n76 := hm 76 rfl
    have n81 := hm 81 rfl
    have n82 := hm 82 rfl
    have n83 := hm 83 rfl
    have n84 := hm 84 rfl
    have n85 := hm 85 rfl
    have n77 := hm 77 rfl
    have n78 := hm 78 rfl
    have n79 := hm 79 rfl
    have n80 := hm 80 rfl
    have n86 := hm 86 rfl
    have n89 := hm 89 rfl
    rw [q0 k i s (by omega) (by omega), p0 k i s (by omega) (by omega) h9 h10 (by omega)]
    rw [si_n (by omega), si_n (by omega), si_n (by omega), si_n (by omega), si_n (by omega), si_n (by omega), si_n (by omega), si_n (by omega), si_n (by omega), si_n (by omega), si_n (by omega), si_n (by omega), si_n (by omega), si_n (by omega)]
  · rw [q1, p1]
    rfl
  · funext t s
    rcases (show t = 0 ∨ t = 1 ∨ t = 2 ∨ t = 3 ∨ t = 4 ∨ t = 5 ∨ t = 6 ∨ t = 7 ∨ t = 8 ∨ 9 ≤ t by omega) with rfl | rfl | rfl | rfl | rfl | rfl | rfl | rfl | rfl | ht
    · rcases (show s = 0 ∨ s = 1 ∨ s = 2 ∨ s = 3 ∨ s = 4 ∨ s = 5 ∨ s = 6 ∨ s = 7 ∨ s = 8 ∨ s = 9 ∨ s = 10 ∨ s = 11 ∨ s = 12 ∨ s = 13 ∨ 14 ≤ s by omega) with rfl | rfl | rfl | rfl | rfl | rfl | rfl | rfl | rfl | rfl | rfl | rfl | rfl | rfl | hs
      · show u2.1 74 0 a = _
        rw [q0 74 0 a (by omega) (by omega), p0 74 0 a (by omega) (by omega) (by omega) (by omega) (by omega)]
        simp (disch := first | omega | decide) only [si_k, si_i, si_s, si_e, si_2, sl_1, sl_22, sl_k, sl_i, sl_s, sl_e, sp_1, sp_21, sp_22, sc_k, sc_i, sc_e, sc_2, mF_k, mM_k, mF_2, mM_2, mF_0, mM_11, rstB]
      · show u2.1 75 0 a = _
        rw [q0 75 0 a (by omega) (by omega), p0 75 0 a (by omega) (by omega) (by omega) (by omega) (by omega)]
        simp (disch := first | omega | decide) only [si_k, si_i, si_s, si_e, si_2, sl_1, sl_22, sl_k, sl_i, sl_s, sl_e, sp_1, sp_21, sp_22, sc_k, sc_i, sc_e, sc_2, mF_k, mM_k, mF_2, mM_2, mF_0, mM_11, rstB]
      · show u2.1 76 0 a = _
        rw [q0 76 0 a (by omega) (by omega), p0 76 0 a (by omega) (by omega) (by omega) (by omega) (by omega)]
        simp (disch := first | omega | decide) only [si_k, si_i, si_s, si_e, si_2, sl_1, sl_22, sl_k, sl_i, sl_s, sl_e, sp_1, sp_21, sp_22, sc_k, sc_i, sc_e, sc_2, mF_k, mM_k, mF_2, mM_2, mF_0, mM_11, rstB]
      · show u2.1 81 0 a = _
        rw [q0 81 0 a (by omega) (by omega), p0 81 0 a (by omega) (by omega) (by omega) (by omega) (by omega)]
        simp (disch := first | omega | decide) only [si_k, si_i, si_s, si_e, si_2, sl_1, sl_22, sl_k, sl_i, sl_s, sl_e, sp_1, sp_21, sp_22, sc_k, sc_i, sc_e, sc_2, mF_k, mM_k, mF_2, mM_2, mF_0, mM_11, rstB]
      · show u2.1 82 0 a = _
        rw [q0 82 0 a (by omega) (by omega), p0 82 0 a (by omega) (by omega) (by omega) (by omega) (by omega)]
        simp (disch := first | omega | decide) only [si_k, si_i, si_s, si_e, si_2, sl_1, sl_22, sl_k, sl_i, sl_s, sl_e, sp_1, sp_21, sp_22, sc_k, sc_i, sc_e, sc_2, mF_k, mM_k, mF_2, mM_2, mF_0, mM_11, rstB]
      · show u2.1 83 0 a = _
        rw [q0 83 0 a (by omega) (by omega), p0 83 0 a (by omega) (by omega) (by omega) (by omega) (by omega)]
        simp (disch := first | omega | decide) only [si_k, si_i, si_s, si_e, si_2, sl_1, sl_22, sl_k, sl_i, sl_s, sl_e, sp_1, sp_21, sp_22, sc_k, sc_i, sc_e, sc_2, mF_k, mM_k, mF_2, mM_2, mF_0, mM_11, rstB]
      · show u2.1 84 0 a = _
        rw [q0 84 0 a (by omega) (by omega), p0 84 0 a (by omega) (by omega) (by omega) (by omega) (by omega)]
        simp (disch := first | omega | decide) only [si_k, si_i, si_s, si_e, si_2, sl_1, sl_22, sl_k, sl_i, sl_s, sl_e, sp_1, sp_21, sp_22, sc_k, sc_i, sc_e, sc_2, mF_k, mM_k, mF_2, mM_2, mF_0, mM_11, rstB]
      · show u2.1 85 0 a = _
        rw [q0 85 0 a (by omega) (by omega), p0 85 0 a (by omega) (by omega) (by omega) (by omega) (by omega)]
        simp (disch := first | omega | decide) only [si_k, si_i, si_s, si_e, si_2, sl_1, sl_22, sl_k, sl_i, sl_s, sl_e, sp_1, sp_21, sp_22, sc_k, sc_i, sc_e, sc_2, mF_k, mM_k, mF_2, mM_2, mF_0, mM_11, rstB]
      · show u2.1 77 0 a = _
        rw [q0 77 0 a (by omega) (by omega), p0 77 0 a (by omega) (by omega) (by omega) (by omega) (by omega)]
        simp (disch := first | omega | decide) only [si_k, si_i, si_s, si_e, si_2, sl_1, sl_22, sl_k, sl_i, sl_s, sl_e, sp_1, sp_21, sp_22, sc_k, sc_i, sc_e, sc_2, mF_k, mM_k, mF_2, mM_2, mF_0, mM_11, rstB]
      · show u2.1 78 0 a = _
        rw [q0 78 0 a (by omega) (by omega), p0 78 0 a (by omega) (by omega) (by omega) (by omega) (by omega)]
        simp (disch := first | omega | decide) only [si_k, si_i, si_s, si_e, si_2, sl_1, sl_22, sl_k, sl_i, sl_s, sl_e, sp_1, sp_21, sp_22, sc_k, sc_i, sc_e, sc_2, mF_k, mM_k, mF_2, mM_2, mF_0, mM_11, rstB]
      · show u2.1 79 0 a = _
        rw [q0 79 0 a (by omega) (by omega), p0 79 0 a (by omega) (by omega) (by omega) (by omega) (by omega)]
        simp (disch := first | omega | decide) only [si_k, si_i, si_s, si_e, si_2, sl_1, sl_22, sl_k, sl_i, sl_s, sl_e, sp_1, sp_21, sp_22, sc_k, sc_i, sc_e, sc_2, mF_k, mM_k, mF_2, mM_2, mF_0, mM_11, rstB]
      · show u2.1 80 0 a = _
        rw [q0 80 0 a (by omega) (by omega), p0 80 0 a (by omega) (by omega) (by omega) (by omega) (by omega)]
        simp (disch := first | omega | decide) only [si_k, si_i, si_s, si_e, si_2, sl_1, sl_22, sl_k, sl_i, sl_s, sl_e, sp_1, sp_21, sp_22, sc_k, sc_i, sc_e, sc_2, mF_k, mM_k, mF_2, mM_2, mF_0, mM_11, rstB]
      · show u2.1 86 0 a = _
        rw [q0 86 0 a (by omega) (by omega), p0 86 0 a (by omega) (by omega) (by omega) (by omega) (by omega)]
        simp (disch := first | omega | decide) only [si_k, si_i, si_s, si_e, si_2, sl_1, sl_22, sl_k, sl_i, sl_s, sl_e, sp_1, sp_21, sp_22, sc_k, sc_i, sc_e, sc_2, mF_k, mM_k, mF_2, mM_2, mF_0, mM_11, rstB]
      · show u2.1 89 0 a = _
        rw [q0 89 0 a (by omega) (by omega), p0 89 0 a (by omega) (by omega) (by omega) (by omega) (by omega)]
        simp (disch := first | omega | decide) only [si_k, si_i, si_s, si_e, si_2, sl_1, sl_22, sl_k, sl_i, sl_s, sl_e, sp_1, sp_21, sp_22, sc_k, sc_i, sc_e, sc_2, mF_k, mM_k, mF_2, mM_2, mF_0, mM_11, rstB]
      · obtain ⟨z, rfl⟩ : ∃ z, s = z + 14 := ⟨s - 14, by omega⟩
        rfl
    · show (if s < 48 then u2.1 91 0 (48 * a + s) else 0) = nI 0
      by_cases q : s < 48
      · rw [if_pos q]
        exact by rw [q0 91 0 _ (by omega) (by omega)]; exact (p2 s q).1
      · rw [if_neg q]
        rfl
    · show (if s < 48 then u2.1 92 0 (48 * a + s) else 0) = nI 0
      by_cases q : s < 48
      · rw [if_pos q]
        exact by rw [q0 92 0 _ (by omega) (by omega)]; exact (p2 s q).2.1
      · rw [if_neg q]
        rfl
    · show (if s < 144 then u2.1 93 0 (144 * a + s) else 0) = nI 0
      by_cases q : s < 144
      · rw [if_pos q, q0 93 0 _ (by omega) (by omega)]
        rcases (show s < 48 ∨ (48 ≤ s ∧ s < 96) ∨ 96 ≤ s by omega) with h | h | h
        · exact (p2 s h).2.2.2.2.1
        · have e := (p2 (s - 48) (by omega)).2.2.2.2.2.1
          rwa [show 144 * a + 48 + (s - 48) = 144 * a + s by omega] at e
        · have e := (p2 (s - 96) (by omega)).2.2.2.2.2.2
          rwa [show 144 * a + 96 + (s - 96) = 144 * a + s by omega] at e
      · rw [if_neg q]
        rfl
    · show (if s < 96 then u2.1 94 0 (96 * a + s) else 0) = nI 0
      by_cases q : s < 96
      · rw [if_pos q]
        exact q2 s q
      · rw [if_neg q]
        rfl
    · show (if s < 96 then u2.1 95 0 (96 * a + s) else 0) = nI 0
      by_cases q : s < 96
      · rw [if_pos q]
        exact q3 s q
      · rw [if_neg q]
        rfl
    · show (if s < 4 then u2.1 90 0 (4 * a + s) else 0) = (if s < 4 then u.1 90 0 (4 * a + s) else 0)
      by_cases q : s < 4
      · rw [if_pos q, if_pos q]
        exact by rw [q0 90 0 _ (by omega) (by omega), p0 90 0 _ (by omega) (by omega) (by omega) (by omega) (by omega)]; simp (disch := first | omega | decide) only [si_k, si_i, si_s, si_e, si_2, sl_1, sl_22, sl_k, sl_i, sl_s, sl_e, sp_1, sp_21, sp_22, sc_k, sc_i, sc_e, sc_2, mF_k, mM_k, mF_2, mM_2, mF_0, mM_11]
      · rw [if_neg q, if_neg q]
    · show (if s < 4 then u2.1 87 0 (4 * a + s) else 0) = (if s < 4 then u.1 87 0 (4 * a + s) else 0)
      by_cases q : s < 4
      · rw [if_pos q, if_pos q]
        exact by rw [q0 87 0 _ (by omega) (by omega), p0 87 0 _ (by omega) (by omega) (by omega) (by omega) (by omega)]; simp (disch := first | omega | decide) only [si_k, si_i, si_s, si_e, si_2, sl_1, sl_22, sl_k, sl_i, sl_s, sl_e, sp_1, sp_21, sp_22, sc_k, sc_i, sc_e, sc_2, mF_k, mM_k, mF_2, mM_2, mF_0, mM_11]
      · rw [if_neg q, if_neg q]
    · show (if s < 4 then u2.1 88 0 (4 * a + s) else 0) = (if s < 4 then u.1 88 0 (4 * a + s) else 0)
      by_cases q : s < 4
      · rw [if_pos q, if_pos q]
        exact by rw [q0 88 0 _ (by omega) (by omega), p0 88 0 _ (by omega) (by omega) (by omega) (by omega) (by omega)]; simp (disch := first | omega | decide) only [si_k, si_i, si_s, si_e, si_2, sl_1, sl_22, sl_k, sl_i, sl_s, sl_e, sp_1, sp_21, sp_22, sc_k, sc_i, sc_e, sc_2, mF_k, mM_k, mF_2, mM_2, mF_0, mM_11]
      · rw [if_neg q, if_neg q]
    · obtain ⟨z, rfl⟩ : ∃ z, t = z + 9 := ⟨t - 9, by omega⟩
      rfl
  · intro b hb
    funext t s
    rcases (show t = 0 ∨ t = 1 ∨ t = 2 ∨ t = 3 ∨ t = 4 ∨ t = 5 ∨ t = 6 ∨ t = 7 ∨ t = 8 ∨ 9 ≤ t by omega) with rfl | rfl | rfl | rfl | rfl | rfl | rfl | rfl | rfl | ht
    · rcases (show s = 0 ∨ s = 1 ∨ s = 2 ∨ s = 3 ∨ s = 4 ∨ s = 5 ∨ s = 6 ∨ s = 7 ∨ s = 8 ∨ s = 9 ∨ s = 10 ∨ s = 11 ∨ s = 12 ∨ s = 13 ∨ 14 ≤ s by omega) with rfl | rfl | rfl | rfl | rfl | rfl | rfl | rfl | rfl | rfl | rfl | rfl | rfl | rfl | hs
      · show u2.1 74 0 b = u.1 74 0 b
        rw [q0 74 0 b (by omega) (by omega), p0 74 0 b (by omega) (by omega) (by omega) (by omega) (by omega)]
        simp (disch := first | omega | decide) only [si_k, si_i, si_s, si_e, si_2, sl_1, sl_22, sl_k, sl_i, sl_s, sl_e, sp_1, sp_21, sp_22, sc_k, sc_i, sc_e, sc_2, mF_k, mM_k, mF_2, mM_2, mF_0, mM_11]
      · show u2.1 75 0 b = u.1 75 0 b
        rw [q0 75 0 b (by omega) (by omega), p0 75 0 b (by omega) (by omega) (by omega) (by omega) (by omega)]
        simp (disch := first | omega | decide) only [si_k, si_i, si_s, si_e, si_2, sl_1, sl_22, sl_k, sl_i, sl_s, sl_e, sp_1, sp_21, sp_22, sc_k, sc_i, sc_e, sc_2, mF_k, mM_k, mF_2, mM_2, mF_0, mM_11]
      · show u2.1 76 0 b = u.1 76 0 b
        rw [q0 76 0 b (by omega) (by omega), p0 76 0 b (by omega) (by omega) (by omega) (by omega) (by omega)]
        simp (disch := first | omega | decide) only [si_k, si_i, si_s, si_e, si_2, sl_1, sl_22, sl_k, sl_i, sl_s, sl_e, sp_1, sp_21, sp_22, sc_k, sc_i, sc_e, sc_2, mF_k, mM_k, mF_2, mM_2, mF_0, mM_11]
      · show u2.1 81 0 b = u.1 81 0 b
        rw [q0 81 0 b (by omega) (by omega), p0 81 0 b (by omega) (by omega) (by omega) (by omega) (by omega)]
        simp (disch := first | omega | decide) only [si_k, si_i, si_s, si_e, si_2, sl_1, sl_22, sl_k, sl_i, sl_s, sl_e, sp_1, sp_21, sp_22, sc_k, sc_i, sc_e, sc_2, mF_k, mM_k, mF_2, mM_2, mF_0, mM_11]
      · show u2.1 82 0 b = u.1 82 0 b
        rw [q0 82 0 b (by omega) (by omega), p0 82 0 b (by omega) (by omega) (by omega) (by omega) (by omega)]
        simp (disch := first | omega | decide) only [si_k, si_i, si_s, si_e, si_2, sl_1, sl_22, sl_k, sl_i, sl_s, sl_e, sp_1, sp_21, sp_22, sc_k, sc_i, sc_e, sc_2, mF_k, mM_k, mF_2, mM_2, mF_0, mM_11]
      · show u2.1 83 0 b = u.1 83 0 b
        rw [q0 83 0 b (by omega) (by omega), p0 83 0 b (by omega) (by omega) (by omega) (by omega) (by omega)]
        simp (disch := first | omega | decide) only [si_k, si_i, si_s, si_e, si_2, sl_1, sl_22, sl_k, sl_i, sl_s, sl_e, sp_1, sp_21, sp_22, sc_k, sc_i, sc_e, sc_2, mF_k, mM_k, mF_2, mM_2, mF_0, mM_11]
      · show u2.1 84 0 b = u.1 84 0 b
        rw [q0 84 0 b (by omega) (by omega), p0 84 0 b (by omega) (by omega) (by omega) (by omega) (by omega)]
        simp (disch := first | omega | decide) only [si_k, si_i, si_s, si_e, si_2, sl_1, sl_22, sl_k, sl_i, sl_s, sl_e, sp_1, sp_21, sp_22, sc_k, sc_i, sc_e, sc_2, mF_k, mM_k, mF_2, mM_2, mF_0, mM_11]
      · show u2.1 85 0 b = u.1 85 0 b
        rw [q0 85 0 b (by omega) (by omega), p0 85 0 b (by omega) (by omega) (by omega) (by omega) (by omega)]
        simp (disch := first | omega | decide) only [si_k, si_i, si_s, si_e, si_2, sl_1, sl_22, sl_k, sl_i, sl_s, sl_e, sp_1, sp_21, sp_22, sc_k, sc_i, sc_e, sc_2, mF_k, mM_k, mF_2, mM_2, mF_0, mM_11]
      · show u2.1 77 0 b = u.1 77 0 b
        rw [q0 77 0 b (by omega) (by omega), p0 77 0 b (by omega) (by omega) (by omega) (by omega) (by omega)]
        simp (disch := first | omega | decide) only [si_k, si_i, si_s, si_e, si_2, sl_1, sl_22, sl_k, sl_i, sl_s, sl_e, sp_1, sp_21, sp_22, sc_k, sc_i, sc_e, sc_2, mF_k, mM_k, mF_2, mM_2, mF_0, mM_11]
      · show u2.1 78 0 b = u.1 78 0 b
        rw [q0 78 0 b (by omega) (by omega), p0 78 0 b (by omega) (by omega) (by omega) (by omega) (by omega)]
        simp (disch := first | omega | decide) only [si_k, si_i, si_s, si_e, si_2, sl_1, sl_22, sl_k, sl_i, sl_s, sl_e, sp_1, sp_21, sp_22, sc_k, sc_i, sc_e, sc_2, mF_k, mM_k, mF_2, mM_2, mF_0, mM_11]
      · show u2.1 79 0 b = u.1 79 0 b
        rw [q0 79 0 b (by omega) (by omega), p0 79 0 b (by omega) (by omega) (by omega) (by omega) (by omega)]
        simp (disch := first | omega | decide) only [si_k, si_i, si_s, si_e, si_2, sl_1, sl_22, sl_k, sl_i, sl_s, sl_e, sp_1, sp_21, sp_22, sc_k, sc_i, sc_e, sc_2, mF_k, mM_k, mF_2, mM_2, mF_0, mM_11]
      · show u2.1 80 0 b = u.1 80 0 b
        rw [q0 80 0 b (by omega) (by omega), p0 80 0 b (by omega) (by omega) (by omega) (by omega) (by omega)]
        simp (disch := first | omega | decide) only [si_k, si_i, si_s, si_e, si_2, sl_1, sl_22, sl_k, sl_i, sl_s, sl_e, sp_1, sp_21, sp_22, sc_k, sc_i, sc_e, sc_2, mF_k, mM_k, mF_2, mM_2, mF_0, mM_11]
      · show u2.1 86 0 b = u.1 86 0 b
        rw [q0 86 0 b (by omega) (by omega), p0 86 0 b (by omega) (by omega) (by omega) (by omega) (by omega)]
        simp (disch := first | omega | decide) only [si_k, si_i, si_s, si_e, si_2, sl_1, sl_22, sl_k, sl_i, sl_s, sl_e, sp_1, sp_21, sp_22, sc_k, sc_i, sc_e, sc_2, mF_k, mM_k, mF_2, mM_2, mF_0, mM_11]
      · show u2.1 89 0 b = u.1 89 0 b
        rw [q0 89 0 b (by omega) (by omega), p0 89 0 b (by omega) (by omega) (by omega) (by omega) (by omega)]
        simp (disch := first | omega | decide) only [si_k, si_i, si_s, si_e, si_2, sl_1, sl_22, sl_k, sl_i, sl_s, sl_e, sp_1, sp_21, sp_22, sc_k, sc_i, sc_e, sc_2, mF_k, mM_k, mF_2, mM_2, mF_0, mM_11]
      · obtain ⟨z, rfl⟩ : ∃ z, s = z + 14 := ⟨s - 14, by omega⟩
        rfl
    · show (if s < 48 then u2.1 91 0 (48 * b + s) else 0) = (if s < 48 then u.1 91 0 (48 * b + s) else 0)
      by_cases q : s < 48
      · rw [if_pos q, if_pos q]
        exact by rw [q0 91 0 _ (by omega) (by omega), p0 91 0 _ (by omega) (by omega) (by omega) (by omega) (by omega)]; simp (disch := first | omega | decide) only [si_k, si_i, si_s, si_e, si_2, sl_1, sl_22, sl_k, sl_i, sl_s, sl_e, sp_1, sp_21, sp_22, sc_k, sc_i, sc_e, sc_2, mF_k, mM_k, mF_2, mM_2, mF_0, mM_11]
      · rw [if_neg q, if_neg q]
    · show (if s < 48 then u2.1 92 0 (48 * b + s) else 0) = (if s < 48 then u.1 92 0 (48 * b + s) else 0)
      by_cases q : s < 48
      · rw [if_pos q, if_pos q]
        exact by rw [q0 92 0 _ (by omega) (by omega), p0 92 0 _ (by omega) (by omega) (by omega) (by omega) (by omega)]; simp (disch := first | omega | decide) only [si_k, si_i, si_s, si_e, si_2, sl_1, sl_22, sl_k, sl_i, sl_s, sl_e, sp_1, sp_21, sp_22, sc_k, sc_i, sc_e, sc_2, mF_k, mM_k, mF_2, mM_2, mF_0, mM_11]
      · rw [if_neg q, if_neg q]
    · show (if s < 144 then u2.1 93 0 (144 * b + s) else 0) = (if s < 144 then u.1 93 0 (144 * b + s) else 0)
      by_cases q : s < 144
      · rw [if_pos q, if_pos q]
        exact by rw [q0 93 0 _ (by omega) (by omega), p0 93 0 _ (by omega) (by omega) (by omega) (by omega) (by omega)]; simp (disch := first | omega | decide) only [si_k, si_i, si_s, si_e, si_2, sl_1, sl_22, sl_k, sl_i, sl_s, sl_e, sp_1, sp_21, sp_22, sc_k, sc_i, sc_e, sc_2, mF_k, mM_k, mF_2, mM_2, mF_0, mM_11]
      · rw [if_neg q, if_neg q]
    · show (if s < 96 then u2.1 94 0 (96 * b + s) else 0) = (if s < 96 then u.1 94 0 (96 * b + s) else 0)
      by_cases q : s < 96
      · rw [if_pos q, if_pos q]
        exact by rw [q0 94 0 _ (by omega) (by omega), p0 94 0 _ (by omega) (by omega) (by omega) (by omega) (by omega)]; simp (disch := first | omega | decide) only [si_k, si_i, si_s, si_e, si_2, sl_1, sl_22, sl_k, sl_i, sl_s, sl_e, sp_1, sp_21, sp_22, sc_k, sc_i, sc_e, sc_2, mF_k, mM_k, mF_2, mM_2, mF_0, mM_11]
      · rw [if_neg q, if_neg q]
    · show (if s < 96 then u2.1 95 0 (96 * b + s) else 0) = (if s < 96 then u.1 95 0 (96 * b + s) else 0)
      by_cases q : s < 96
      · rw [if_pos q, if_pos q]
        exact by rw [q0 95 0 _ (by omega) (by omega), p0 95 0 _ (by omega) (by omega) (by omega) (by omega) (by omega)]; simp (disch := first | omega | decide) only [si_k, si_i, si_s, si_e, si_2, sl_1, sl_22, sl_k, sl_i, sl_s, sl_e, sp_1, sp_21, sp_22, sc_k, sc_i, sc_e, sc_2, mF_k, mM_k, mF_2, mM_2, mF_0, mM_11]
      · rw [if_neg q, if_neg q]
    · show (if s < 4 then u2.1 90 0 (4 * b + s) else 0) = (if s < 4 then u.1 90 0 (4 * b + s) else 0)
      by_cases q : s < 4
      · rw [if_pos q, if_pos q]
        exact by rw [q0 90 0 _ (by omega) (by omega), p0 90 0 _ (by omega) (by omega) (by omega) (by omega) (by omega)]; simp (disch := first | omega | decide) only [si_k, si_i, si_s, si_e, si_2, sl_1, sl_22, sl_k, sl_i, sl_s, sl_e, sp_1, sp_21, sp_22, sc_k, sc_i, sc_e, sc_2, mF_k, mM_k, mF_2, mM_2, mF_0, mM_11]
      · rw [if_neg q, if_neg q]
    · show (if s < 4 then u2.1 87 0 (4 * b + s) else 0) = (if s < 4 then u.1 87 0 (4 * b + s) else 0)
      by_cases q : s < 4
      · rw [if_pos q, if_pos q]
        exact by rw [q0 87 0 _ (by omega) (by omega), p0 87 0 _ (by omega) (by omega) (by omega) (by omega) (by omega)]; simp (disch := first | omega | decide) only [si_k, si_i, si_s, si_e, si_2, sl_1, sl_22, sl_k, sl_i, sl_s, sl_e, sp_1, sp_21, sp_22, sc_k, sc_i, sc_e, sc_2, mF_k, mM_k, mF_2, mM_2, mF_0, mM_11]
      · rw [if_neg q, if_neg q]
    · show (if s < 4 then u2.1 88 0 (4 * b + s) else 0) = (if s < 4 then u.1 88 0 (4 * b + s) else 0)
      by_cases q : s < 4
      · rw [if_pos q, if_pos q]
        exact by rw [q0 88 0 _ (by omega) (by omega), p0 88 0 _ (by omega) (by omega) (by omega) (by omega) (by omega)]; simp (disch := first | omega | decide) only [si_k, si_i, si_s, si_e, si_2, sl_1, sl_22, sl_k, sl_i, sl_s, sl_e, sp_1, sp_21, sp_22, sc_k, sc_i, sc_e, sc_2, mF_k, mM_k, mF_2, mM_2, mF_0, mM_11]
      · rw [if_neg q, if_neg q]
    · obtain ⟨z, rfl⟩ : ∃ z, t = z + 9 := ⟨t - 9, by omega⟩
      rfl
  · intro s hs
    have e := p2 s hs
    rw [q0 99 0 _ (by omega) (by omega), q0 100 0 _ (by omega) (by omega)]
    exact ⟨e.2.2.1, e.2.2.2.1⟩
theorem ev_takeOver {o p : Nat} {u : qM} {P : Unit → qM → Prop} (hop : o ≠ p) (ht : u.1 2 p 10 = 0 ∨ u.1 2 p 10 = 1) (hs : ∀ s, s < 96 → u.1 41 p s = 0 ∨ u.1 41 p s = 1) (K : ∀ u', (∀ k i s, ¬ (i = o ∧ (k = 2 ∨ k = 3 ∨ k = 4 ∨ k = 5 ∨ (37 ≤ k ∧ k ≤ 44))) → u'.1 k i s = u.1 k i s) → u'.2 = u.2 → u'.1 2 o 10 = u.1 2 p 10 → cB u' o = cB u p → P () u') : Ev (f_X0_takeOver o p u) P := by
  have hq := q_bT ht
  have c48 : q_cr (nI 0) (nI 0) (nI 48) 48 48 = true := q_crI (by decide) (by decide) (by decide) (by decide) (by decide)
  have c144 : q_cr (nI 0) (nI 0) (nI 144) 144 144 = true := q_crI (by decide) (by decide) (by decide) (by decide) (by decide)
  have c96 : q_cr (nI 0) (nI 0) (nI 96) 96 96 = true := q_crI (by decide) (by decide) (by decide) (by decide) (by decide)
  have c4 : q_cr (nI 0) (nI 0) (nI 4) 4 4 = true := q_crI (by decide) (by decide) (by decide) (by decide) (by decide)
  simp (disch := first | omega | decide) only [Nat.reduceAdd, Nat.reduceMul, ↓ev_bd, ↓ev_ck, ↓ev_if, ↓ev_lt, ↓ev_jn, ↓ev_so, ↓reduceIte, ↓ev_within, ↓ev_in, ↓ev_isBoard, ↓ev_isGauge, ↓ev_isNumber, ↓ev_isSix, ↓ev_isEight, ↓ev_foundN, ↓ev_meetsN, ↓ev_found_1, ↓ev_meets_1, ↓ev_found_2, ↓ev_meets_2, ↓ev_found_3, ↓ev_meets_3, ↓ev_found_4, ↓ev_meets_4, ↓ev_found_5, ↓ev_meets_5, true_and, and_true, and_self, eq_self, not_true_eq_false, not_false_eq_true, ite_true, ite_false, true_or, or_true, false_or, or_false, false_and, and_false, ← zi_ni_0, ← zi_ni_1, ← zi_ni_2, ← zi_ni_3, ← zi_ni_4, ← zi_ni_5, ← zi_ni_6, ← zi_ni_7, ← zi_ni_8, ← zi_ni_9, ← zi_ni_10, ← zi_ni_12, ← zi_ni_24, ← zi_ni_25, ← zi_ni_40, ← zi_ni_45, ← zi_ni_47, ← zi_ni_48, ← zi_ni_95, ← zi_ni_96, ← zi_ni_97, ← zi_ni_100, ← zi_ni_144, ← zi_ni_288, nI_ltI, nI_leI, nI_eqI, nlt_T, nlt_F, nle_T, nle_F, neq_T, neq_F, nI_add, pk_mul, nI_clamp, q_inT, ng_lt, ng_tl, ng_le, ng_el, ng_eq, ng_qe, q_b0, q_b1, nar_0, nar_1, b01, b01', q_bn0, q_bn1, nar_n0, nar_n1, si_k, si_i, si_s, si_e, si_2, sl_1, sl_22, sl_k, sl_i, sl_s, sl_e, sp_1, sp_21, sp_22, sc_k, sc_i, sc_e, sc_2, mF_k, mM_k, mF_2, mM_2, mF_0, mM_11, ↓eu_X0_takeOver, ↓eu_X5_takeOver, ↓eu_X3_takeOver, hq, c48, c144, c96, c4]
  refine lp_to1 hop (fun u1 h1 => ?_)
  obtain ⟨p0, p1, p2, p3⟩ := h1
  simp (disch := first | omega | decide) only [Nat.reduceAdd, Nat.reduceMul, ↓ev_bd, ↓ev_ck, ↓ev_if, ↓ev_lt, ↓ev_jn, ↓ev_so, ↓reduceIte, ↓ev_within, ↓ev_in, ↓ev_isBoard, ↓ev_isGauge, ↓ev_isNumber, ↓ev_isSix, ↓ev_isEight, ↓ev_foundN, ↓ev_meetsN, ↓ev_found_1, ↓ev_meets_1, ↓ev_found_2, ↓ev_meets_2, ↓ev_found_3, ↓ev_meets_3, ↓ev_found_4, ↓ev_meets_4, ↓ev_found_5, ↓ev_meets_5, true_and, and_true, and_self, eq_self, not_true_eq_false, not_false_eq_true, ite_true, ite_false, true_or, or_true, false_or, or_false, false_and, and_false, ← zi_ni_0, ← zi_ni_1, ← zi_ni_2, ← zi_ni_3, ← zi_ni_4, ← zi_ni_5, ← zi_ni_6, ← zi_ni_7, ← zi_ni_8, ← zi_ni_9, ← zi_ni_10, ← zi_ni_12, ← zi_ni_24, ← zi_ni_25, ← zi_ni_40, ← zi_ni_45, ← zi_ni_47, ← zi_ni_48, ← zi_ni_95, ← zi_ni_96, ← zi_ni_97, ← zi_ni_100, ← zi_ni_144, ← zi_ni_288, nI_ltI, nI_leI, nI_eqI, nlt_T, nlt_F, nle_T, nle_F, neq_T, neq_F, nI_add, pk_mul, nI_clamp, q_inT, ng_lt, ng_tl, ng_le, ng_el, ng_eq, ng_qe, q_b0, q_b1, nar_0, nar_1, b01, b01', q_bn0, q_bn1, nar_n0, nar_n1, si_k, si_i, si_s, si_e, si_2, sl_1, sl_22, sl_k, sl_i, sl_s, sl_e, sp_1, sp_21, sp_22, sc_k, sc_i, sc_e, sc_2, mF_k, mM_k, mF_2, mM_2, mF_0, mM_11, ↓eu_X0_takeOver, ↓eu_X5_takeOver, ↓eu_X3_takeOver, hq, c48, c144, c96, c4]
  refine lp_to2 hop (fun s hs' => ?_) (fun u2 h2 => ?_)
  · simp (disch := first | omega | decide) only [si_k, si_i, si_s, si_e, si_2, sl_1, sl_22, sl_k, sl_i, sl_s, sl_e, sp_1, sp_21, sp_22, sc_k, sc_i, sc_e, sc_2, mF_k, mM_k, mF_2, mM_2, mF_0, mM_11, p0]
    exact hs s hs'
  obtain ⟨q0, q1, q2⟩ := h2
  refine ev_so.mpr (K u2 ?_ ?_ ?_ ?_)
  · intro k i s hk
    rw [q0 k i s (by omega)]
    rw [sc_n (by omega), sc_n (by omega), sc_n (by omega), sc_n (by omega), sc_n (by omega), si_n (by omega), si_n (by omega), si_n (by omega), si_n (by omega), si_n (by omega)]
    rw [p0 k i s (by omega) (by omega)]
    rw [si_n (by omega), si_n (by omega), si_n (by omega), si_n (by omega), si_n (by omega), si_n (by omega), si_n (by omega), si_n (by omega), si_n (by omega), si_n (by omega), si_n (by omega)]
  · rw [q1]
    simp (disch := first | omega | decide) only [si_k, si_i, si_s, si_e, si_2, sl_1, sl_22, sl_k, sl_i, sl_s, sl_e, sp_1, sp_21, sp_22, sc_k, sc_i, sc_e, sc_2, mF_k, mM_k, mF_2, mM_2, mF_0, mM_11, p1]
  · rw [q0 2 o 10 (by omega)]
    simp (disch := first | omega | decide) only [si_k, si_i, si_s, si_e, si_2, sl_1, sl_22, sl_k, sl_i, sl_s, sl_e, sp_1, sp_21, sp_22, sc_k, sc_i, sc_e, sc_2, mF_k, mM_k, mF_2, mM_2, mF_0, mM_11, p0]
  · funext t s
    rcases (show t = 0 ∨ t = 1 ∨ t = 2 ∨ t = 3 ∨ t = 4 ∨ t = 5 ∨ t = 6 ∨ t = 7 ∨ t = 8 ∨ 9 ≤ t by omega) with rfl | rfl | rfl | rfl | rfl | rfl | rfl | rfl | rfl | ht
    · rcases (show s = 0 ∨ s = 1 ∨ s = 2 ∨ s = 3 ∨ s = 4 ∨ s = 5 ∨ s = 6 ∨ s = 7 ∨ s = 8 ∨ s = 9 ∨ s = 10 ∨ s = 11 ∨ s = 12 ∨ s = 13 ∨ 14 ≤ s by omega) with rfl | rfl | rfl | rfl | rfl | rfl | rfl | rfl | rfl | rfl | rfl | rfl | rfl | rfl | hs
      · show u2.1 2 o 11 = u.1 2 p 11
        rw [q0 2 o 11 (by omega)]
        simp (disch := first | omega | decide) only [si_k, si_i, si_s, si_e, si_2, sl_1, sl_22, sl_k, sl_i, sl_s, sl_e, sp_1, sp_21, sp_22, sc_k, sc_i, sc_e, sc_2, mF_k, mM_k, mF_2, mM_2, mF_0, mM_11, p0]
      · show u2.1 2 o 12 = u.1 2 p 12
        rw [q0 2 o 12 (by omega)]
        simp (disch := first | omega | decide) only [si_k, si_i, si_s, si_e, si_2, sl_1, sl_22, sl_k, sl_i, sl_s, sl_e, sp_1, sp_21, sp_22, sc_k, sc_i, sc_e, sc_2, mF_k, mM_k, mF_2, mM_2, mF_0, mM_11, p0]
      · show u2.1 2 o 13 = u.1 2 p 13
        rw [q0 2 o 13 (by omega)]
        simp (disch := first | omega | decide) only [si_k, si_i, si_s, si_e, si_2, sl_1, sl_22, sl_k, sl_i, sl_s, sl_e, sp_1, sp_21, sp_22, sc_k, sc_i, sc_e, sc_2, mF_k, mM_k, mF_2, mM_2, mF_0, mM_11, p0]
      · show u2.1 2 o 14 = u.1 2 p 14
        rw [q0 2 o 14 (by omega)]
        simp (disch := first | omega | decide) only [si_k, si_i, si_s, si_e, si_2, sl_1, sl_22, sl_k, sl_i, sl_s, sl_e, sp_1, sp_21, sp_22, sc_k, sc_i, sc_e, sc_2, mF_k, mM_k, mF_2, mM_2, mF_0, mM_11, p0]
      · show u2.1 2 o 15 = u.1 2 p 15
        rw [q0 2 o 15 (by omega)]
        simp (disch := first | omega | decide) only [si_k, si_i, si_s, si_e, si_2, sl_1, sl_22, sl_k, sl_i, sl_s, sl_e, sp_1, sp_21, sp_22, sc_k, sc_i, sc_e, sc_2, mF_k, mM_k, mF_2, mM_2, mF_0, mM_11, p0]
      · show u2.1 2 o 16 = u.1 2 p 16
        rw [q0 2 o 16 (by omega)]
        simp (disch := first | omega | decide) only [si_k, si_i, si_s, si_e, si_2, sl_1, sl_22, sl_k, sl_i, sl_s, sl_e, sp_1, sp_21, sp_22, sc_k, sc_i, sc_e, sc_2, mF_k, mM_k, mF_2, mM_2, mF_0, mM_11, p0]
      · show u2.1 2 o 17 = u.1 2 p 17
        rw [q0 2 o 17 (by omega)]
        simp (disch := first | omega | decide) only [si_k, si_i, si_s, si_e, si_2, sl_1, sl_22, sl_k, sl_i, sl_s, sl_e, sp_1, sp_21, sp_22, sc_k, sc_i, sc_e, sc_2, mF_k, mM_k, mF_2, mM_2, mF_0, mM_11, p0]
      · show u2.1 2 o 18 = u.1 2 p 18
        rw [q0 2 o 18 (by omega)]
        simp (disch := first | omega | decide) only [si_k, si_i, si_s, si_e, si_2, sl_1, sl_22, sl_k, sl_i, sl_s, sl_e, sp_1, sp_21, sp_22, sc_k, sc_i, sc_e, sc_2, mF_k, mM_k, mF_2, mM_2, mF_0, mM_11, p0]
      · show u2.1 3 o 0 = u.1 3 p 0
        rw [q0 3 o 0 (by omega)]
        simp (disch := first | omega | decide) only [si_k, si_i, si_s, si_e, si_2, sl_1, sl_22, sl_k, sl_i, sl_s, sl_e, sp_1, sp_21, sp_22, sc_k, sc_i, sc_e, sc_2, mF_k, mM_k, mF_2, mM_2, mF_0, mM_11, p0]
      · show u2.1 3 o 1 = u.1 3 p 1
        rw [q0 3 o 1 (by omega)]
        simp (disch := first | omega | decide) only [si_k, si_i, si_s, si_e, si_2, sl_1, sl_22, sl_k, sl_i, sl_s, sl_e, sp_1, sp_21, sp_22, sc_k, sc_i, sc_e, sc_2, mF_k, mM_k, mF_2, mM_2, mF_0, mM_11, p0]
      · show u2.1 3 o 2 = u.1 3 p 2
        rw [q0 3 o 2 (by omega)]
        simp (disch := first | omega | decide) only [si_k, si_i, si_s, si_e, si_2, sl_1, sl_22, sl_k, sl_i, sl_s, sl_e, sp_1, sp_21, sp_22, sc_k, sc_i, sc_e, sc_2, mF_k, mM_k, mF_2, mM_2, mF_0, mM_11, p0]
      · show u2.1 3 o 3 = u.1 3 p 3
        rw [q0 3 o 3 (by omega)]
        simp (disch := first | omega | decide) only [si_k, si_i, si_s, si_e, si_2, sl_1, sl_22, sl_k, sl_i, sl_s, sl_e, sp_1, sp_21, sp_22, sc_k, sc_i, sc_e, sc_2, mF_k, mM_k, mF_2, mM_2, mF_0, mM_11, p0]
      · show u2.1 4 o 2 = u.1 4 p 2
        rw [q0 4 o 2 (by omega)]
        simp (disch := first | omega | decide) only [si_k, si_i, si_s, si_e, si_2, sl_1, sl_22, sl_k, sl_i, sl_s, sl_e, sp_1, sp_21, sp_22, sc_k, sc_i, sc_e, sc_2, mF_k, mM_k, mF_2, mM_2, mF_0, mM_11, p0]
      · show u2.1 2 o 9 = u.1 2 p 9
        rw [q0 2 o 9 (by omega)]
        simp (disch := first | omega | decide) only [si_k, si_i, si_s, si_e, si_2, sl_1, sl_22, sl_k, sl_i, sl_s, sl_e, sp_1, sp_21, sp_22, sc_k, sc_i, sc_e, sc_2, mF_k, mM_k, mF_2, mM_2, mF_0, mM_11, p0]
      · obtain ⟨z, rfl⟩ : ∃ z, s = z + 14 := ⟨s - 14, by omega⟩
        rfl
    · show (if s < 48 then u2.1 37 o (s) else 0) = (if s < 48 then u.1 37 p (s) else 0)
      by_cases q : s < 48
      · rw [if_pos q, if_pos q]
        exact by rw [q0 37 o s (by omega)]; simp (disch := first | omega | decide) only [si_k, si_i, si_s, si_e, si_2, sl_1, sl_22, sl_k, sl_i, sl_s, sl_e, sp_1, sp_21, sp_22, sc_k, sc_i, sc_e, sc_2, mF_k, mM_k, mF_2, mM_2, mF_0, mM_11]; rw [pk_cpy_in (Nat.zero_le _) (by omega), Nat.zero_add, Nat.sub_zero]; simp (disch := first | omega | decide) only [si_k, si_i, si_s, si_e, si_2, sl_1, sl_22, sl_k, sl_i, sl_s, sl_e, sp_1, sp_21, sp_22, sc_k, sc_i, sc_e, sc_2, mF_k, mM_k, mF_2, mM_2, mF_0, mM_11, p0]
      · rw [if_neg q, if_neg q]
    · show (if s < 48 then u2.1 38 o (s) else 0) = (if s < 48 then u.1 38 p (s) else 0)
      by_cases q : s < 48
      · rw [if_pos q, if_pos q]
        exact by rw [q0 38 o s (by omega)]; simp (disch := first | omega | decide) only [si_k, si_i, si_s, si_e, si_2, sl_1, sl_22, sl_k, sl_i, sl_s, sl_e, sp_1, sp_21, sp_22, sc_k, sc_i, sc_e, sc_2, mF_k, mM_k, mF_2, mM_2, mF_0, mM_11]; rw [pk_cpy_in (Nat.zero_le _) (by omega), Nat.zero_add, Nat.sub_zero]; simp (disch := first | omega | decide) only [si_k, si_i, si_s, si_e, si_2, sl_1, sl_22, sl_k, sl_i, sl_s, sl_e, sp_1, sp_21, sp_22, sc_k, sc_i, sc_e, sc_2, mF_k, mM_k, mF_2, mM_2, mF_0, mM_11, p0]
      · rw [if_neg q, if_neg q]
    · show (if s < 144 then u2.1 39 o (s) else 0) = (if s < 144 then u.1 39 p (s) else 0)
      by_cases q : s < 144
      · rw [if_pos q, if_pos q]
        exact by rw [q0 39 o s (by omega)]; simp (disch := first | omega | decide) only [si_k, si_i, si_s, si_e, si_2, sl_1, sl_22, sl_k, sl_i, sl_s, sl_e, sp_1, sp_21, sp_22, sc_k, sc_i, sc_e, sc_2, mF_k, mM_k, mF_2, mM_2, mF_0, mM_11]; rw [pk_cpy_in (Nat.zero_le _) (by omega), Nat.zero_add, Nat.sub_zero]; simp (disch := first | omega | decide) only [si_k, si_i, si_s, si_e, si_2, sl_1, sl_22, sl_k, sl_i, sl_s, sl_e, sp_1, sp_21, sp_22, sc_k, sc_i, sc_e, sc_2, mF_k, mM_k, mF_2, mM_2, mF_0, mM_11, p0]
      · rw [if_neg q, if_neg q]
    · show (if s < 96 then u2.1 40 o (s) else 0) = (if s < 96 then u.1 40 p (s) else 0)
      by_cases q : s < 96
      · rw [if_pos q, if_pos q]
        exact by rw [q0 40 o s (by omega)]; simp (disch := first | omega | decide) only [si_k, si_i, si_s, si_e, si_2, sl_1, sl_22, sl_k, sl_i, sl_s, sl_e, sp_1, sp_21, sp_22, sc_k, sc_i, sc_e, sc_2, mF_k, mM_k, mF_2, mM_2, mF_0, mM_11]; rw [pk_cpy_in (Nat.zero_le _) (by omega), Nat.zero_add, Nat.sub_zero]; simp (disch := first | omega | decide) only [si_k, si_i, si_s, si_e, si_2, sl_1, sl_22, sl_k, sl_i, sl_s, sl_e, sp_1, sp_21, sp_22, sc_k, sc_i, sc_e, sc_2, mF_k, mM_k, mF_2, mM_2, mF_0, mM_11, p0]
      · rw [if_neg q, if_neg q]
    · show (if s < 96 then u2.1 41 o (s) else 0) = (if s < 96 then u.1 41 p (s) else 0)
      by_cases q : s < 96
      · rw [if_pos q, if_pos q]
        exact by rw [q2 s q]; simp (disch := first | omega | decide) only [si_k, si_i, si_s, si_e, si_2, sl_1, sl_22, sl_k, sl_i, sl_s, sl_e, sp_1, sp_21, sp_22, sc_k, sc_i, sc_e, sc_2, mF_k, mM_k, mF_2, mM_2, mF_0, mM_11, p0]
      · rw [if_neg q, if_neg q]
    · show (if s < 4 then u2.1 42 o (s) else 0) = (if s < 4 then u.1 42 p (s) else 0)
      by_cases q : s < 4
      · rw [if_pos q, if_pos q]
        exact by rw [q0 42 o s (by omega)]; simp (disch := first | omega | decide) only [si_k, si_i, si_s, si_e, si_2, sl_1, sl_22, sl_k, sl_i, sl_s, sl_e, sp_1, sp_21, sp_22, sc_k, sc_i, sc_e, sc_2, mF_k, mM_k, mF_2, mM_2, mF_0, mM_11]; rw [pk_cpy_in (Nat.zero_le _) (by omega), Nat.zero_add, Nat.sub_zero]; simp (disch := first | omega | decide) only [si_k, si_i, si_s, si_e, si_2, sl_1, sl_22, sl_k, sl_i, sl_s, sl_e, sp_1, sp_21, sp_22, sc_k, sc_i, sc_e, sc_2, mF_k, mM_k, mF_2, mM_2, mF_0, mM_11, p0]
      · rw [if_neg q, if_neg q]
    · show (if s < 4 then u2.1 43 o (s) else 0) = (if s < 4 then u.1 43 p (s) else 0)
      by_cases q : s < 4
      · rw [if_pos q, if_pos q]
        exact by rw [q0 43 o s (by omega)]; simp (disch := first | omega | decide) only [si_k, si_i, si_s, si_e, si_2, sl_1, sl_22, sl_k, sl_i, sl_s, sl_e, sp_1, sp_21, sp_22, sc_k, sc_i, sc_e, sc_2, mF_k, mM_k, mF_2, mM_2, mF_0, mM_11]; rw [p2 s q]; simp (disch := first | omega | decide) only [si_k, si_i, si_s, si_e, si_2, sl_1, sl_22, sl_k, sl_i, sl_s, sl_e, sp_1, sp_21, sp_22, sc_k, sc_i, sc_e, sc_2, mF_k, mM_k, mF_2, mM_2, mF_0, mM_11]
      · rw [if_neg q, if_neg q]
    · show (if s < 4 then u2.1 44 o (s) else 0) = (if s < 4 then u.1 44 p (s) else 0)
      by_cases q : s < 4
      · rw [if_pos q, if_pos q]
        exact by rw [q0 44 o s (by omega)]; simp (disch := first | omega | decide) only [si_k, si_i, si_s, si_e, si_2, sl_1, sl_22, sl_k, sl_i, sl_s, sl_e, sp_1, sp_21, sp_22, sc_k, sc_i, sc_e, sc_2, mF_k, mM_k, mF_2, mM_2, mF_0, mM_11]; rw [p3 s q]; simp (disch := first | omega | decide) only [si_k, si_i, si_s, si_e, si_2, sl_1, sl_22, sl_k, sl_i, sl_s, sl_e, sp_1, sp_21, sp_22, sc_k, sc_i, sc_e, sc_2, mF_k, mM_k, mF_2, mM_2, mF_0, mM_11]
      · rw [if_neg q, if_neg q]
    · obtain ⟨z, rfl⟩ : ∃ z, t = z + 9 := ⟨t - 9, by omega⟩
      rfl
theorem ev_bring {a b : Nat} {u : qM} {P : Unit → qM → Prop} (ha : a < 8) (hb : b < 8) (hab : a ≠ b) (hs : ∀ s, mB u a 5 s = 0 ∨ mB u a 5 s = 1) (K : ∀ u', (∀ k i s, ¬ (isMK k = true ∧ i = 0) → ¬ (k = 99 ∧ i = 0 ∧ 48 * b ≤ s ∧ s < 48 * b + 48) → ¬ (k = 100 ∧ i = 0 ∧ 48 * b ≤ s ∧ s < 48 * b + 48) → u'.1 k i s = u.1 k i s) → u'.2 = u.2 → mB u' b = mB u a → (∀ c, c ≠ b → mB u' c = mB u c) → P () u') : Ev (f_X11_bring (nI a) (nI b) u) P := by
  simp (disch := first | omega | decide) only [Nat.reduceAdd, Nat.reduceMul, ↓ev_bd, ↓ev_ck, ↓ev_if, ↓ev_lt, ↓ev_jn, ↓ev_so, ↓reduceIte, ↓ev_within, ↓ev_in, ↓ev_isBoard, ↓ev_isGauge, ↓ev_isNumber, ↓ev_isSix, ↓ev_isEight, ↓ev_foundN, ↓ev_meetsN, ↓ev_found_1, ↓ev_meets_1, ↓ev_found_2, ↓ev_meets_2, ↓ev_found_3, ↓ev_meets_3, ↓ev_found_4, ↓ev_meets_4, ↓ev_found_5, ↓ev_meets_5, true_and, and_true, and_self, eq_self, not_true_eq_false, not_false_eq_true, ite_true, ite_false, true_or, or_true, false_or, or_false, false_and, and_false, ← zi_ni_0, ← zi_ni_1, ← zi_ni_2, ← zi_ni_3, ← zi_ni_4, ← zi_ni_5, ← zi_ni_6, ← zi_ni_7, ← zi_ni_8, ← zi_ni_9, ← zi_ni_10, ← zi_ni_12, ← zi_ni_24, ← zi_ni_25, ← zi_ni_40, ← zi_ni_45, ← zi_ni_47, ← zi_ni_48, ← zi_ni_95, ← zi_ni_96, ← zi_ni_97, ← zi_ni_100, ← zi_ni_144, ← zi_ni_288, nI_ltI, nI_leI, nI_eqI, nlt_T, nlt_F, nle_T, nle_F, neq_T, neq_F, nI_add, pk_mul, nI_clamp, q_inT, ng_lt, ng_tl, ng_le, ng_el, ng_eq, ng_qe, q_b0, q_b1, nar_0, nar_1, b01, b01', q_bn0, q_bn1, nar_n0, nar_n1, si_k, si_i, si_s, si_e, si_2, sl_1, sl_22, sl_k, sl_i, sl_s, sl_e, sp_1, sp_21, sp_22, sc_k, sc_i, sc_e, sc_2, mF_k, mM_k, mF_2, mM_2, mF_0, mM_11, ↓eu_X11_bring]
  refine ev_begin hb (fun u1 f0 f1 f2 f3 f4 => ?_)
  try simp (disch := first | omega | decide) only [Nat.reduceAdd, Nat.reduceMul, ↓ev_bd, ↓ev_ck, ↓ev_if, ↓ev_lt, ↓ev_jn, ↓ev_so, ↓reduceIte, ↓ev_within, ↓ev_in, ↓ev_isBoard, ↓ev_isGauge, ↓ev_isNumber, ↓ev_isSix, ↓ev_isEight, ↓ev_foundN, ↓ev_meetsN, ↓ev_found_1, ↓ev_meets_1, ↓ev_found_2, ↓ev_meets_2, ↓ev_found_3, ↓ev_meets_3, ↓ev_found_4, ↓ev_meets_4, ↓ev_found_5, ↓ev_meets_5, true_and, and_true, and_self, eq_self, not_true_eq_false, not_false_eq_true, ite_true, ite_false, true_or, or_true, false_or, or_false, false_and, and_false, ← zi_ni_0, ← zi_ni_1, ← zi_ni_2, ← zi_ni_3, ← zi_ni_4, ← zi_ni_5, ← zi_ni_6, ← zi_ni_7, ← zi_ni_8, ← zi_ni_9, ← zi_ni_10, ← zi_ni_12, ← zi_ni_24, ← zi_ni_25, ← zi_ni_40, ← zi_ni_45, ← zi_ni_47, ← zi_ni_48, ← zi_ni_95, ← zi_ni_96, ← zi_ni_97, ← zi_ni_100, ← zi_ni_144, ← zi_ni_288, nI_ltI, nI_leI, nI_eqI, nlt_T, nlt_F, nle_T, nle_F, neq_T, neq_F, nI_add, pk_mul, nI_clamp, q_inT, ng_lt, ng_tl, ng_le, ng_el, ng_eq, ng_qe, q_b0, q_b1, nar_0, nar_1, b01, b01', q_bn0, q_bn1, nar_n0, nar_n1, si_k, si_i, si_s, si_e, si_2, sl_1, sl_22, sl_k, sl_i, sl_s, sl_e, sp_1, sp_21, sp_22, sc_k, sc_i, sc_e, sc_2, mF_k, mM_k, mF_2, mM_2, mF_0, mM_11, ↓eu_X11_bring]
  refine lp_br1 ha hb hab (fun u2 h1 => ?_)
  refine lp_br2 ha hb hab (fun u3 h2 => ?_)
  refine lp_br3 ha hb hab (fun u4 h3 => ?_)
  obtain ⟨p0, p1, p2, p3, p4⟩ := h1
  obtain ⟨q0, q1, q2, q3⟩ := h2
  obtain ⟨r0, r1, r2⟩ := h3
  have e3 := f3 a hab
  refine lp_br4 ha hb hab (fun s hs' => ?_) (fun u5 h4 => ?_)
  · have z := hs s
    rw [← e3, mR_5 hs'] at z
    rw [r0 95 0 _ (by omega), q0 95 0 _ (by omega) (by omega), p0 95 0 _ (by omega) (by omega) (by omega)]
    simp (disch := first | omega | decide) only [si_k, si_i, si_s, si_e, si_2, sl_1, sl_22, sl_k, sl_i, sl_s, sl_e, sp_1, sp_21, sp_22, sc_k, sc_i, sc_e, sc_2, mF_k, mM_k, mF_2, mM_2, mF_0, mM_11]
    exact z
  obtain ⟨t0, t1, t2, t3⟩ := h4
  refine ev_so.mpr (K u5 ?_ ?_ ?_ ?_)
  · intro k i s hk h9 h10
    have hm : ∀ c, isMK c = true → ¬ (k = c ∧ i = 0) := fun c hc q => hk ⟨by rw [q.1]; exact hc, q.2⟩
    have m1 := hm 91 rfl
    have m2 := hm 92 rfl
    have m3 := hm 93 rfl
    have m4 := hm 94 rfl
    have m5 := hm 95 rfl
    have m6 := hm 87 rfl
    have m7 := hm 88 rfl
    have m8 := hm 90 rfl
    have n74 := hm 74 rfl
    have n75 := hm 75 rfl
    have n76 := hm 76 rfl
    have n81 := hm 81 rfl
    have n82 := hm 82 rfl
    have n83 := hm 83 rfl
    have n84 := hm 84 rfl
    have n85 := hm 85 rfl
    have n77 := hm 77 rfl
    have n78 := hm 78 rfl
    have n79 := hm 79 rfl
    have n80 := hm 80 rfl
    have n86 := hm 86 rfl
    have n89 := hm 89 rfl
    rw [t0 k i s (by omega) (by omega), r0 k i s (by omega), q0 k i s (by omega) (by omega), p0 k i s (by omega) (by omega) (by omega)]
    rw [si_n (by omega), si_n (by omega), si_n (by omega), si_n (by omega), si_n (by omega), si_n (by omega), si_n (by omega), si_n (by omega), si_n (by omega), si_n (by omega), si_n (by omega)]
    exact f0 k i s hk h9 h10
  · rw [t1, r1, q1, p1]
    exact f1
  · funext t s
    rcases (show t = 0 ∨ t = 1 ∨ t = 2 ∨ t = 3 ∨ t = 4 ∨ t = 5 ∨ t = 6 ∨ t = 7 ∨ t = 8 ∨ 9 ≤ t by omega) with rfl | rfl | rfl | rfl | rfl | rfl | rfl | rfl | rfl | ht
    · rcases (show s = 0 ∨ s = 1 ∨ s = 2 ∨ s = 3 ∨ s = 4 ∨ s = 5 ∨ s = 6 ∨ s = 7 ∨ s = 8 ∨ s = 9 ∨ s = 10 ∨ s = 11 ∨ s = 12 ∨ s = 13 ∨ 14 ≤ s by omega) with rfl | rfl | rfl | rfl | rfl | rfl | rfl | rfl | rfl | rfl | rfl | rfl | rfl | rfl | hs
      · show u5.1 74 0 b = u.1 74 0 a
        rw [t0 74 0 b (by omega) (by omega), r0 74 0 b (by omega), q0 74 0 b (by omega) (by omega), p0 74 0 b (by omega) (by omega) (by omega)]
        simp (disch := first | omega | decide) only [si_k, si_i, si_s, si_e, si_2, sl_1, sl_22, sl_k, sl_i, sl_s, sl_e, sp_1, sp_21, sp_22, sc_k, sc_i, sc_e, sc_2, mF_k, mM_k, mF_2, mM_2, mF_0, mM_11]
        exact (congrFun (congrFun f2 0) 0).trans rfl
      · show u5.1 75 0 b = u.1 75 0 a
        rw [t0 75 0 b (by omega) (by omega), r0 75 0 b (by omega), q0 75 0 b (by omega) (by omega), p0 75 0 b (by omega) (by omega) (by omega)]
        simp (disch := first | omega | decide) only [si_k, si_i, si_s, si_e, si_2, sl_1, sl_22, sl_k, sl_i, sl_s, sl_e, sp_1, sp_21, sp_22, sc_k, sc_i, sc_e, sc_2, mF_k, mM_k, mF_2, mM_2, mF_0, mM_11]
        exact (congrFun (congrFun f2 0) 1).trans rfl
      · show u5.1 76 0 b = u.1 76 0 a
        rw [t0 76 0 b (by omega) (by omega), r0 76 0 b (by omega), q0 76 0 b (by omega) (by omega), p0 76 0 b (by omega) (by omega) (by omega)]
        simp (disch := first | omega | decide) only [si_k, si_i, si_s, si_e, si_2, sl_1, sl_22, sl_k, sl_i, sl_s, sl_e, sp_1, sp_21, sp_22, sc_k, sc_i, sc_e, sc_2, mF_k, mM_k, mF_2, mM_2, mF_0, mM_11]
        exact (congrFun (congrFun f2 0) 2).trans rfl
      · show u5.1 81 0 b = u.1 81 0 a
        rw [t0 81 0 b (by omega) (by omega), r0 81 0 b (by omega), q0 81 0 b (by omega) (by omega), p0 81 0 b (by omega) (by omega) (by omega)]
        simp (disch := first | omega | decide) only [si_k, si_i, si_s, si_e, si_2, sl_1, sl_22, sl_k, sl_i, sl_s, sl_e, sp_1, sp_21, sp_22, sc_k, sc_i, sc_e, sc_2, mF_k, mM_k, mF_2, mM_2, mF_0, mM_11]
        exact congrFun (congrFun e3 0) 3
      · show u5.1 82 0 b = u.1 82 0 a
        rw [t0 82 0 b (by omega) (by omega), r0 82 0 b (by omega), q0 82 0 b (by omega) (by omega), p0 82 0 b (by omega) (by omega) (by omega)]
        simp (disch := first | omega | decide) only [si_k, si_i, si_s, si_e, si_2, sl_1, sl_22, sl_k, sl_i, sl_s, sl_e, sp_1, sp_21, sp_22, sc_k, sc_i, sc_e, sc_2, mF_k, mM_k, mF_2, mM_2, mF_0, mM_11]
        exact congrFun (congrFun e3 0) 4
      · show u5.1 83 0 b = u.1 83 0 a
        rw [t0 83 0 b (by omega) (by omega), r0 83 0 b (by omega), q0 83 0 b (by omega) (by omega), p0 83 0 b (by omega) (by omega) (by omega)]
        simp (disch := first | omega | decide) only [si_k, si_i, si_s, si_e, si_2, sl_1, sl_22, sl_k, sl_i, sl_s, sl_e, sp_1, sp_21, sp_22, sc_k, sc_i, sc_e, sc_2, mF_k, mM_k, mF_2, mM_2, mF_0, mM_11]
        exact congrFun (congrFun e3 0) 5
      · show u5.1 84 0 b = u.1 84 0 a
        rw [t0 84 0 b (by omega) (by omega), r0 84 0 b (by omega), q0 84 0 b (by omega) (by omega), p0 84 0 b (by omega) (by omega) (by omega)]
        simp (disch := first | omega | decide) only [si_k, si_i, si_s, si_e, si_2, sl_1, sl_22, sl_k, sl_i, sl_s, sl_e, sp_1, sp_21, sp_22, sc_k, sc_i, sc_e, sc_2, mF_k, mM_k, mF_2, mM_2, mF_0, mM_11]
        exact congrFun (congrFun e3 0) 6
      · show u5.1 85 0 b = u.1 85 0 a
        rw [t0 85 0 b (by omega) (by omega), r0 85 0 b (by omega), q0 85 0 b (by omega) (by omega), p0 85 0 b (by omega) (by omega) (by omega)]
        simp (disch := first | omega | decide) only [si_k, si_i, si_s, si_e, si_2, sl_1, sl_22, sl_k, sl_i, sl_s, sl_e, sp_1, sp_21, sp_22, sc_k, sc_i, sc_e, sc_2, mF_k, mM_k, mF_2, mM_2, mF_0, mM_11]
        exact congrFun (congrFun e3 0) 7
      · show u5.1 77 0 b = u.1 77 0 a
        rw [t0 77 0 b (by omega) (by omega), r0 77 0 b (by omega), q0 77 0 b (by omega) (by omega), p0 77 0 b (by omega) (by omega) (by omega)]
        simp (disch := first | omega | decide) only [si_k, si_i, si_s, si_e, si_2, sl_1, sl_22, sl_k, sl_i, sl_s, sl_e, sp_1, sp_21, sp_22, sc_k, sc_i, sc_e, sc_2, mF_k, mM_k, mF_2, mM_2, mF_0, mM_11]
        exact congrFun (congrFun e3 0) 8
      · show u5.1 78 0 b = u.1 78 0 a
        rw [t0 78 0 b (by omega) (by omega), r0 78 0 b (by omega), q0 78 0 b (by omega) (by omega), p0 78 0 b (by omega) (by omega) (by omega)]
        simp (disch := first | omega | decide) only [si_k, si_i, si_s, si_e, si_2, sl_1, sl_22, sl_k, sl_i, sl_s, sl_e, sp_1, sp_21, sp_22, sc_k, sc_i, sc_e, sc_2, mF_k, mM_k, mF_2, mM_2, mF_0, mM_11]
        exact congrFun (congrFun e3 0) 9
      · show u5.1 79 0 b = u.1 79 0 a
        rw [t0 79 0 b (by omega) (by omega), r0 79 0 b (by omega), q0 79 0 b (by omega) (by omega), p0 79 0 b (by omega) (by omega) (by omega)]
        simp (disch := first | omega | decide) only [si_k, si_i, si_s, si_e, si_2, sl_1, sl_22, sl_k, sl_i, sl_s, sl_e, sp_1, sp_21, sp_22, sc_k, sc_i, sc_e, sc_2, mF_k, mM_k, mF_2, mM_2, mF_0, mM_11]
        exact congrFun (congrFun e3 0) 10
      · show u5.1 80 0 b = u.1 80 0 a
        rw [t0 80 0 b (by omega) (by omega), r0 80 0 b (by omega), q0 80 0 b (by omega) (by omega), p0 80 0 b (by omega) (by omega) (by omega)]
        simp (disch := first | omega | decide) only [si_k, si_i, si_s, si_e, si_2, sl_1, sl_22, sl_k, sl_i, sl_s, sl_e, sp_1, sp_21, sp_22, sc_k, sc_i, sc_e, sc_2, mF_k, mM_k, mF_2, mM_2, mF_0, mM_11]
        exact congrFun (congrFun e3 0) 11
      · show u5.1 86 0 b = u.1 86 0 a
        rw [t0 86 0 b (by omega) (by omega), r0 86 0 b (by omega), q0 86 0 b (by omega) (by omega), p0 86 0 b (by omega) (by omega) (by omega)]
        simp (disch := first | omega | decide) only [si_k, si_i, si_s, si_e, si_2, sl_1, sl_22, sl_k, sl_i, sl_s, sl_e, sp_1, sp_21, sp_22, sc_k, sc_i, sc_e, sc_2, mF_k, mM_k, mF_2, mM_2, mF_0, mM_11]
        exact congrFun (congrFun e3 0) 12
      · show u5.1 89 0 b = u.1 89 0 a
        rw [t0 89 0 b (by omega) (by omega), r0 89 0 b (by omega), q0 89 0 b (by omega) (by omega), p0 89 0 b (by omega) (by omega) (by omega)]
        simp (disch := first | omega | decide) only [si_k, si_i, si_s, si_e, si_2, sl_1, sl_22, sl_k, sl_i, sl_s, sl_e, sp_1, sp_21, sp_22, sc_k, sc_i, sc_e, sc_2, mF_k, mM_k, mF_2, mM_2, mF_0, mM_11]
        exact congrFun (congrFun e3 0) 13
      · obtain ⟨z, rfl⟩ : ∃ z, s = z + 14 := ⟨s - 14, by omega⟩
        rfl
    · show (if s < 48 then u5.1 91 0 (48 * b + s) else 0) = (if s < 48 then u.1 91 0 (48 * a + s) else 0)
      by_cases q : s < 48
      · rw [if_pos q, if_pos q]
        exact by rw [t0 91 0 _ (by omega) (by omega), r0 91 0 _ (by omega), q2 s q, p0 91 0 _ (by omega) (by omega) (by omega)]; simp (disch := first | omega | decide) only [si_k, si_i, si_s, si_e, si_2, sl_1, sl_22, sl_k, sl_i, sl_s, sl_e, sp_1, sp_21, sp_22, sc_k, sc_i, sc_e, sc_2, mF_k, mM_k, mF_2, mM_2, mF_0, mM_11]; have z := congrFun (congrFun e3 1) s; rwa [mR_1 q, mR_1 q] at z
      · rw [if_neg q, if_neg q]
    · show (if s < 48 then u5.1 92 0 (48 * b + s) else 0) = (if s < 48 then u.1 92 0 (48 * a + s) else 0)
      by_cases q : s < 48
      · rw [if_pos q, if_pos q]
        exact by rw [t0 92 0 _ (by omega) (by omega), r0 92 0 _ (by omega), q3 s q, p0 92 0 _ (by omega) (by omega) (by omega)]; simp (disch := first | omega | decide) only [si_k, si_i, si_s, si_e, si_2, sl_1, sl_22, sl_k, sl_i, sl_s, sl_e, sp_1, sp_21, sp_22, sc_k, sc_i, sc_e, sc_2, mF_k, mM_k, mF_2, mM_2, mF_0, mM_11]; have z := congrFun (congrFun e3 2) s; rwa [mR_2 q, mR_2 q] at z
      · rw [if_neg q, if_neg q]
    · show (if s < 144 then u5.1 93 0 (144 * b + s) else 0) = (if s < 144 then u.1 93 0 (144 * a + s) else 0)
      by_cases q : s < 144
      · rw [if_pos q, if_pos q]
        exact by rw [t0 93 0 _ (by omega) (by omega), r2 s q, q0 93 0 _ (by omega) (by omega), p0 93 0 _ (by omega) (by omega) (by omega)]; simp (disch := first | omega | decide) only [si_k, si_i, si_s, si_e, si_2, sl_1, sl_22, sl_k, sl_i, sl_s, sl_e, sp_1, sp_21, sp_22, sc_k, sc_i, sc_e, sc_2, mF_k, mM_k, mF_2, mM_2, mF_0, mM_11]; have z := congrFun (congrFun e3 3) s; rwa [mR_3 q, mR_3 q] at z
      · rw [if_neg q, if_neg q]
    · show (if s < 96 then u5.1 94 0 (96 * b + s) else 0) = (if s < 96 then u.1 94 0 (96 * a + s) else 0)
      by_cases q : s < 96
      · rw [if_pos q, if_pos q]
        exact by rw [t2 s q, r0 94 0 _ (by omega), q0 94 0 _ (by omega) (by omega), p0 94 0 _ (by omega) (by omega) (by omega)]; simp (disch := first | omega | decide) only [si_k, si_i, si_s, si_e, si_2, sl_1, sl_22, sl_k, sl_i, sl_s, sl_e, sp_1, sp_21, sp_22, sc_k, sc_i, sc_e, sc_2, mF_k, mM_k, mF_2, mM_2, mF_0, mM_11]; have z := congrFun (congrFun e3 4) s; rwa [mR_4 q, mR_4 q] at z
      · rw [if_neg q, if_neg q]
    · show (if s < 96 then u5.1 95 0 (96 * b + s) else 0) = (if s < 96 then u.1 95 0 (96 * a + s) else 0)
      by_cases q : s < 96
      · rw [if_pos q, if_pos q]
        exact by rw [t3 s q, r0 95 0 _ (by omega), q0 95 0 _ (by omega) (by omega), p0 95 0 _ (by omega) (by omega) (by omega)]; simp (disch := first | omega | decide) only [si_k, si_i, si_s, si_e, si_2, sl_1, sl_22, sl_k, sl_i, sl_s, sl_e, sp_1, sp_21, sp_22, sc_k, sc_i, sc_e, sc_2, mF_k, mM_k, mF_2, mM_2, mF_0, mM_11]; have z := congrFun (congrFun e3 5) s; rwa [mR_5 q, mR_5 q] at z
      · rw [if_neg q, if_neg q]
    · show (if s < 4 then u5.1 90 0 (4 * b + s) else 0) = (if s < 4 then u.1 90 0 (4 * a + s) else 0)
      by_cases q : s < 4
      · rw [if_pos q, if_pos q]
        exact by rw [t0 90 0 _ (by omega) (by omega), r0 90 0 _ (by omega), q0 90 0 _ (by omega) (by omega), p4 s q]; simp (disch := first | omega | decide) only [si_k, si_i, si_s, si_e, si_2, sl_1, sl_22, sl_k, sl_i, sl_s, sl_e, sp_1, sp_21, sp_22, sc_k, sc_i, sc_e, sc_2, mF_k, mM_k, mF_2, mM_2, mF_0, mM_11]; have z := congrFun (congrFun e3 6) s; rwa [mR_6 q, mR_6 q] at z
      · rw [if_neg q, if_neg q]
    · show (if s < 4 then u5.1 87 0 (4 * b + s) else 0) = (if s < 4 then u.1 87 0 (4 * a + s) else 0)
      by_cases q : s < 4
      · rw [if_pos q, if_pos q]
        exact by rw [t0 87 0 _ (by omega) (by omega), r0 87 0 _ (by omega), q0 87 0 _ (by omega) (by omega), p2 s q]; simp (disch := first | omega | decide) only [si_k, si_i, si_s, si_e, si_2, sl_1, sl_22, sl_k, sl_i, sl_s, sl_e, sp_1, sp_21, sp_22, sc_k, sc_i, sc_e, sc_2, mF_k, mM_k, mF_2, mM_2, mF_0, mM_11]; have z := congrFun (congrFun e3 7) s; rwa [mR_7 q, mR_7 q] at z
      · rw [if_neg q, if_neg q]
    · show (if s < 4 then u5.1 88 0 (4 * b + s) else 0) = (if s < 4 then u.1 88 0 (4 * a + s) else 0)
      by_cases q : s < 4
      · rw [if_pos q, if_pos q]
        exact by rw [t0 88 0 _ (by omega) (by omega), r0 88 0 _ (by omega), q0 88 0 _ (by omega) (by omega), p3 s q]; simp (disch := first | omega | decide) only [si_k, si_i, si_s, si_e, si_2, sl_1, sl_22, sl_k, sl_i, sl_s, sl_e, sp_1, sp_21, sp_22, sc_k, sc_i, sc_e, sc_2, mF_k, mM_k, mF_2, mM_2, mF_0, mM_11]; have z := congrFun (congrFun e3 8) s; rwa [mR_8 q, mR_8 q] at z
      · rw [if_neg q, if_neg q]
    · obtain ⟨z, rfl⟩ : ∃ z, t = z + 9 := ⟨t - 9, by omega⟩
      rfl
  · intro c hc
    funext t s
    rcases (show t = 0 ∨ t = 1 ∨ t = 2 ∨ t = 3 ∨ t = 4 ∨ t = 5 ∨ t = 6 ∨ t = 7 ∨ t = 8 ∨ 9 ≤ t by omega) with rfl | rfl | rfl | rfl | rfl | rfl | rfl | rfl | rfl | ht
    · rcases (show s = 0 ∨ s = 1 ∨ s = 2 ∨ s = 3 ∨ s = 4 ∨ s = 5 ∨ s = 6 ∨ s = 7 ∨ s = 8 ∨ s = 9 ∨ s = 10 ∨ s = 11 ∨ s = 12 ∨ s = 13 ∨ 14 ≤ s by omega) with rfl | rfl | rfl | rfl | rfl | rfl | rfl | rfl | rfl | rfl | rfl | rfl | rfl | rfl | hs
      · show u5.1 74 0 c = u.1 74 0 c
        rw [t0 74 0 c (by omega) (by omega), r0 74 0 c (by omega), q0 74 0 c (by omega) (by omega), p0 74 0 c (by omega) (by omega) (by omega)]
        simp (disch := first | omega | decide) only [si_k, si_i, si_s, si_e, si_2, sl_1, sl_22, sl_k, sl_i, sl_s, sl_e, sp_1, sp_21, sp_22, sc_k, sc_i, sc_e, sc_2, mF_k, mM_k, mF_2, mM_2, mF_0, mM_11]
        exact congrFun (congrFun (f3 c hc) 0) 0
      · show u5.1 75 0 c = u.1 75 0 c
        rw [t0 75 0 c (by omega) (by omega), r0 75 0 c (by omega), q0 75 0 c (by omega) (by omega), p0 75 0 c (by omega) (by omega) (by omega)]
        simp (disch := first | omega | decide) only [si_k, si_i, si_s, si_e, si_2, sl_1, sl_22, sl_k, sl_i, sl_s, sl_e, sp_1, sp_21, sp_22, sc_k, sc_i, sc_e, sc_2, mF_k, mM_k, mF_2, mM_2, mF_0, mM_11]
        exact congrFun (congrFun (f3 c hc) 0) 1
      · show u5.1 76 0 c = u.1 76 0 c
        rw [t0 76 0 c (by omega) (by omega), r0 76 0 c (by omega), q0 76 0 c (by omega) (by omega), p0 76 0 c (by omega) (by omega) (by omega)]
        simp (disch := first | omega | decide) only [si_k, si_i, si_s, si_e, si_2, sl_1, sl_22, sl_k, sl_i, sl_s, sl_e, sp_1, sp_21, sp_22, sc_k, sc_i, sc_e, sc_2, mF_k, mM_k, mF_2, mM_2, mF_0, mM_11]
        exact congrFun (congrFun (f3 c hc) 0) 2
      · show u5.1 81 0 c = u.1 81 0 c
        rw [t0 81 0 c (by omega) (by omega), r0 81 0 c (by omega), q0 81 0 c (by omega) (by omega), p0 81 0 c (by omega) (by omega) (by omega)]
        simp (disch := first | omega | decide) only [si_k, si_i, si_s, si_e, si_2, sl_1, sl_22, sl_k, sl_i, sl_s, sl_e, sp_1, sp_21, sp_22, sc_k, sc_i, sc_e, sc_2, mF_k, mM_k, mF_2, mM_2, mF_0, mM_11]
        exact congrFun (congrFun (f3 c hc) 0) 3
      · show u5.1 82 0 c = u.1 82 0 c
        rw [t0 82 0 c (by omega) (by omega), r0 82 0 c (by omega), q0 82 0 c (by omega) (by omega), p0 82 0 c (by omega) (by omega) (by omega)]
        simp (disch := first | omega | decide) only [si_k, si_i, si_s, si_e, si_2, sl_1, sl_22, sl_k, sl_i, sl_s, sl_e, sp_1, sp_21, sp_22, sc_k, sc_i, sc_e, sc_2, mF_k, mM_k, mF_2, mM_2, mF_0, mM_11]
        exact congrFun (congrFun (f3 c hc) 0) 4
      · show u5.1 83 0 c = u.1 83 0 c
        rw [t0 83 0 c (by omega) (by omega), r0 83 0 c (by omega), q0 83 0 c (by omega) (by omega), p0 83 0 c (by omega) (by omega) (by omega)]
        simp (disch := first | omega | decide) only [si_k, si_i, si_s, si_e, si_2, sl_1, sl_22, sl_k, sl_i, sl_s, sl_e, sp_1, sp_21, sp_22, sc_k, sc_i, sc_e, sc_2, mF_k, mM_k, mF_2, mM_2, mF_0, mM_11]
        exact congrFun (congrFun (f3 c hc) 0) 5
      · show u5.1 84 0 c = u.1 84 0 c
        rw [t0 84 0 c (by omega) (by omega), r0 84 0 c (by omega), q0 84 0 c (by omega) (by omega), p0 84 0 c (by omega) (by omega) (by omega)]
        simp (disch := first | omega | decide) only [si_k, si_i, si_s, si_e, si_2, sl_1, sl_22, sl_k, sl_i, sl_s, sl_e, sp_1, sp_21, sp_22, sc_k, sc_i, sc_e, sc_2, mF_k, mM_k, mF_2, mM_2, mF_0, mM_11]
        exact congrFun (congrFun (f3 c hc) 0) 6
      · show u5.1 85 0 c = u.1 85 0 c
        rw [t0 85 0 c (by omega) (by omega), r0 85 0 c (by omega), q0 85 0 c (by omega) (by omega), p0 85 0 c (by omega) (by omega) (by omega)]
        simp (disch := first | omega | decide) only [si_k, si_i, si_s, si_e, si_2, sl_1, sl_22, sl_k, sl_i, sl_s, sl_e, sp_1, sp_21, sp_22, sc_k, sc_i, sc_e, sc_2, mF_k, mM_k, mF_2, mM_2, mF_0, mM_11]
        exact congrFun (congrFun (f3 c hc) 0) 7
      · show u5.1 77 0 c = u.1 77 0 c
        rw [t0 77 0 c (by omega) (by omega), r0 77 0 c (by omega), q0 77 0 c (by omega) (by omega), p0 77 0 c (by omega) (by omega) (by omega)]
        simp (disch := first | omega | decide) only [si_k, si_i, si_s, si_e, si_2, sl_1, sl_22, sl_k, sl_i, sl_s, sl_e, sp_1, sp_21, sp_22, sc_k, sc_i, sc_e, sc_2, mF_k, mM_k, mF_2, mM_2, mF_0, mM_11]
        exact congrFun (congrFun (f3 c hc) 0) 8
      · show u5.1 78 0 c = u.1 78 0 c
        rw [t0 78 0 c (by omega) (by omega), r0 78 0 c (by omega), q0 78 0 c (by omega) (by omega), p0 78 0 c (by omega) (by omega) (by omega)]
        simp (disch := first | omega | decide) only [si_k, si_i, si_s, si_e, si_2, sl_1, sl_22, sl_k, sl_i, sl_s, sl_e, sp_1, sp_21, sp_22, sc_k, sc_i, sc_e, sc_2, mF_k, mM_k, mF_2, mM_2, mF_0, mM_11]
        exact congrFun (congrFun (f3 c hc) 0) 9
      · show u5.1 79 0 c = u.1 79 0 c
        rw [t0 79 0 c (by omega) (by omega), r0 79 0 c (by omega), q0 79 0 c (by omega) (by omega), p0 79 0 c (by omega) (by omega) (by omega)]
        simp (disch := first | omega | decide) only [si_k, si_i, si_s, si_e, si_2, sl_1, sl_22, sl_k, sl_i, sl_s, sl_e, sp_1, sp_21, sp_22, sc_k, sc_i, sc_e, sc_2, mF_k, mM_k, mF_2, mM_2, mF_0, mM_11]
        exact congrFun (congrFun (f3 c hc) 0) 10
      · show u5.1 80 0 c = u.1 80 0 c
        rw [t0 80 0 c (by omega) (by omega), r0 80 0 c (by omega), q0 80 0 c (by omega) (by omega), p0 80 0 c (by omega) (by omega) (by omega)]
        simp (disch := first | omega | decide) only [si_k, si_i, si_s, si_e, si_2, sl_1, sl_22, sl_k, sl_i, sl_s, sl_e, sp_1, sp_21, sp_22, sc_k, sc_i, sc_e, sc_2, mF_k, mM_k, mF_2, mM_2, mF_0, mM_11]
        exact congrFun (congrFun (f3 c hc) 0) 11
      · show u5.1 86 0 c = u.1 86 0 c
        rw [t0 86 0 c (by omega) (by omega), r0 86 0 c (by omega), q0 86 0 c (by omega) (by omega), p0 86 0 c (by omega) (by omega) (by omega)]
        simp (disch := first | omega | decide) only [si_k, si_i, si_s, si_e, si_2, sl_1, sl_22, sl_k, sl_i, sl_s, sl_e, sp_1, sp_21, sp_22, sc_k, sc_i, sc_e, sc_2, mF_k, mM_k, mF_2, mM_2, mF_0, mM_11]
        exact congrFun (congrFun (f3 c hc) 0) 12
      · show u5.1 89 0 c = u.1 89 0 c
        rw [t0 89 0 c (by omega) (by omega), r0 89 0 c (by omega), q0 89 0 c (by omega) (by omega), p0 89 0 c (by omega) (by omega) (by omega)]
        simp (disch := first | omega | decide) only [si_k, si_i, si_s, si_e, si_2, sl_1, sl_22, sl_k, sl_i, sl_s, sl_e, sp_1, sp_21, sp_22, sc_k, sc_i, sc_e, sc_2, mF_k, mM_k, mF_2, mM_2, mF_0, mM_11]
        exact congrFun (congrFun (f3 c hc) 0) 13
      · obtain ⟨z, rfl⟩ : ∃ z, s = z + 14 := ⟨s - 14, by omega⟩
        rfl
    · show (if s < 48 then u5.1 91 0 (48 * c + s) else 0) = (if s < 48 then u.1 91 0 (48 * c + s) else 0)
      by_cases q : s < 48
      · rw [if_pos q, if_pos q]
        exact by rw [t0 91 0 _ (by omega) (by omega), r0 91 0 _ (by omega), q0 91 0 _ (by omega) (by omega), p0 91 0 _ (by omega) (by omega) (by omega)]; simp (disch := first | omega | decide) only [si_k, si_i, si_s, si_e, si_2, sl_1, sl_22, sl_k, sl_i, sl_s, sl_e, sp_1, sp_21, sp_22, sc_k, sc_i, sc_e, sc_2, mF_k, mM_k, mF_2, mM_2, mF_0, mM_11]; have z := congrFun (congrFun (f3 c hc) 1) s; rwa [mR_1 q, mR_1 q] at z
      · rw [if_neg q, if_neg q]
    · show (if s < 48 then u5.1 92 0 (48 * c + s) else 0) = (if s < 48 then u.1 92 0 (48 * c + s) else 0)
      by_cases q : s < 48
      · rw [if_pos q, if_pos q]
        exact by rw [t0 92 0 _ (by omega) (by omega), r0 92 0 _ (by omega), q0 92 0 _ (by omega) (by omega), p0 92 0 _ (by omega) (by omega) (by omega)]; simp (disch := first | omega | decide) only [si_k, si_i, si_s, si_e, si_2, sl_1, sl_22, sl_k, sl_i, sl_s, sl_e, sp_1, sp_21, sp_22, sc_k, sc_i, sc_e, sc_2, mF_k, mM_k, mF_2, mM_2, mF_0, mM_11]; have z := congrFun (congrFun (f3 c hc) 2) s; rwa [mR_2 q, mR_2 q] at z
      · rw [if_neg q, if_neg q]
    · show (if s < 144 then u5.1 93 0 (144 * c + s) else 0) = (if s < 144 then u.1 93 0 (144 * c + s) else 0)
      by_cases q : s < 144
      · rw [if_pos q, if_pos q]
        exact by rw [t0 93 0 _ (by omega) (by omega), r0 93 0 _ (by omega), q0 93 0 _ (by omega) (by omega), p0 93 0 _ (by omega) (by omega) (by omega)]; simp (disch := first | omega | decide) only [si_k, si_i, si_s, si_e, si_2, sl_1, sl_22, sl_k, sl_i, sl_s, sl_e, sp_1, sp_21, sp_22, sc_k, sc_i, sc_e, sc_2, mF_k, mM_k, mF_2, mM_2, mF_0, mM_11]; have z := congrFun (congrFun (f3 c hc) 3) s; rwa [mR_3 q, mR_3 q] at z
      · rw [if_neg q, if_neg q]
    · show (if s < 96 then u5.1 94 0 (96 * c + s) else 0) = (if s < 96 then u.1 94 0 (96 * c + s) else 0)
      by_cases q : s < 96
      · rw [if_pos q, if_pos q]
        exact by rw [t0 94 0 _ (by omega) (by omega), r0 94 0 _ (by omega), q0 94 0 _ (by omega) (by omega), p0 94 0 _ (by omega) (by omega) (by omega)]; simp (disch := first | omega | decide) only [si_k, si_i, si_s, si_e, si_2, sl_1, sl_22, sl_k, sl_i, sl_s, sl_e, sp_1, sp_21, sp_22, sc_k, sc_i, sc_e, sc_2, mF_k, mM_k, mF_2, mM_2, mF_0, mM_11]; have z := congrFun (congrFun (f3 c hc) 4) s; rwa [mR_4 q, mR_4 q] at z
      · rw [if_neg q, if_neg q]
    · show (if s < 96 then u5.1 95 0 (96 * c + s) else 0) = (if s < 96 then u.1 95 0 (96 * c + s) else 0)
      by_cases q : s < 96
      · rw [if_pos q, if_pos q]
        exact by rw [t0 95 0 _ (by omega) (by omega), r0 95 0 _ (by omega), q0 95 0 _ (by omega) (by omega), p0 95 0 _ (by omega) (by omega) (by omega)]; simp (disch := first | omega | decide) only [si_k, si_i, si_s, si_e, si_2, sl_1, sl_22, sl_k, sl_i, sl_s, sl_e, sp_1, sp_21, sp_22, sc_k, sc_i, sc_e, sc_2, mF_k, mM_k, mF_2, mM_2, mF_0, mM_11]; have z := congrFun (congrFun (f3 c hc) 5) s; rwa [mR_5 q, mR_5 q] at z
      · rw [if_neg q, if_neg q]
    · show (if s < 4 then u5.1 90 0 (4 * c + s) else 0) = (if s < 4 then u.1 90 0 (4 * c + s) else 0)
      by_cases q : s < 4
      · rw [if_pos q, if_pos q]
        exact by rw [t0 90 0 _ (by omega) (by omega), r0 90 0 _ (by omega), q0 90 0 _ (by omega) (by omega), p0 90 0 _ (by omega) (by omega) (by omega)]; simp (disch := first | omega | decide) only [si_k, si_i, si_s, si_e, si_2, sl_1, sl_22, sl_k, sl_i, sl_s, sl_e, sp_1, sp_21, sp_22, sc_k, sc_i, sc_e, sc_2, mF_k, mM_k, mF_2, mM_2, mF_0, mM_11]; have z := congrFun (congrFun (f3 c hc) 6) s; rwa [mR_6 q, mR_6 q] at z
      · rw [if_neg q, if_neg q]
    · show (if s < 4 then u5.1 87 0 (4 * c + s) else 0) = (if s < 4 then u.1 87 0 (4 * c + s) else 0)
      by_cases q : s < 4
      · rw [if_pos q, if_pos q]
        exact by rw [t0 87 0 _ (by omega) (by omega), r0 87 0 _ (by omega), q0 87 0 _ (by omega) (by omega), p0 87 0 _ (by omega) (by omega) (by omega)]; simp (disch := first | omega | decide) only [si_k, si_i, si_s, si_e, si_2, sl_1, sl_22, sl_k, sl_i, sl_s, sl_e, sp_1, sp_21, sp_22, sc_k, sc_i, sc_e, sc_2, mF_k, mM_k, mF_2, mM_2, mF_0, mM_11]; have z := congrFun (congrFun (f3 c hc) 7) s; rwa [mR_7 q, mR_7 q] at z
      · rw [if_neg q, if_neg q]
    · show (if s < 4 then u5.1 88 0 (4 * c + s) else 0) = (if s < 4 then u.1 88 0 (4 * c + s) else 0)
      by_cases q : s < 4
      · rw [if_pos q, if_pos q]
        exact by rw [t0 88 0 _ (by omega) (by omega), r0 88 0 _ (by omega), q0 88 0 _ (by omega) (by omega), p0 88 0 _ (by omega) (by omega) (by omega)]; simp (disch := first | omega | decide) only [si_k, si_i, si_s, si_e, si_2, sl_1, sl_22, sl_k, sl_i, sl_s, sl_e, sp_1, sp_21, sp_22, sc_k, sc_i, sc_e, sc_2, mF_k, mM_k, mF_2, mM_2, mF_0, mM_11]; have z := congrFun (congrFun (f3 c hc) 8) s; rwa [mR_8 q, mR_8 q] at z
      · rw [if_neg q, if_neg q]
    · obtain ⟨z, rfl⟩ : ∃ z, t = z + 9 := ⟨t - 9, by omega⟩
      rfl
