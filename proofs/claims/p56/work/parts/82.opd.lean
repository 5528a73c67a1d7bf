theorem si_n {μ : qM} {k i s a b c : Nat} {v : Int32} (h : ¬ (a = k ∧ b = i ∧ c = s)) : (q_si μ k i s v).1 a b c = μ.1 a b c := if_neg h
theorem lp_rs1 {o : Nat} {u : qM} {e : qM → Option (Unit × qM)} {P : Unit → qM → Prop}  (K0 : ∀ u', (∀ k i s, ¬ (k = 37 ∧ i = o ∧ s < 48) → ¬ (k = 38 ∧ i = o ∧ s < 48) → u'.1 k i s = u.1 k i s) ∧ u'.2 = u.2 ∧ (∀ s, s < 48 → u'.1 37 o (s) = nI 0) ∧ (∀ s, s < 48 → u'.1 38 o (s) = nI 0) → Ev (e u') P) : Ev (L_X0_reset_78 o q_fu 0 u e) P := by
  refine lpc (fun f x t => L_X0_reset_78 o f x t e) (fun j t => (∀ k i s, ¬ (k = 37 ∧ i = o ∧ s < j) → ¬ (k = 38 ∧ i = o ∧ s < j) → t.1 k i s = u.1 k i s) ∧ t.2 = u.2 ∧ (∀ s, s < j → t.1 37 o (s) = nI 0) ∧ (∀ s, s < j → t.1 38 o (s) = nI 0)) (48) (by omega) u ⟨fun _ _ _ _ _ => rfl, rfl, fun s hs => absurd hs (Nat.not_lt_zero _), fun s hs => absurd hs (Nat.not_lt_zero _)⟩ ?_ ?_
  · rintro f j w hj ⟨fr, f2, g0, g1⟩ K
    show Ev (L_X0_reset_78 o (f + 1) (nI j) w e) P
    simp (disch := first | omega | decide) only [Nat.reduceAdd, Nat.reduceMul, ↓ev_bd, ↓ev_ck, ↓ev_if, ↓ev_lt, ↓ev_jn, ↓ev_so, ↓reduceIte, ↓ev_within, ↓ev_isBoard, ↓ev_isNumber, ↓ev_foundN, ↓ev_found_1, ↓ev_found_2, ↓ev_found_3, ↓ev_found_4, ↓ev_found_5, true_and, and_true, and_self, eq_self, not_true_eq_false, not_false_eq_true, ite_true, ite_false, true_or, or_true, false_or, or_false, false_and, and_false, ← zi_ni_0, ← zi_ni_1, ← zi_ni_2, ← zi_ni_3, ← zi_ni_4, ← zi_ni_5, ← zi_ni_6, ← zi_ni_7, ← zi_ni_8, ← zi_ni_9, ← zi_ni_10, ← zi_ni_12, ← zi_ni_24, ← zi_ni_25, ← zi_ni_40, ← zi_ni_45, ← zi_ni_47, ← zi_ni_48, ← zi_ni_95, ← zi_ni_96, ← zi_ni_97, ← zi_ni_100, ← zi_ni_144, ← zi_ni_288, nI_ltI, nI_leI, nI_eqI, nlt_T, nlt_F, nle_T, nle_F, neq_T, neq_F, nI_add, pk_mul, nI_clamp, q_inT, ng_lt, ng_tl, ng_le, ng_el, ng_eq, ng_qe, q_b0, q_b1, nar_0, nar_1, b01, b01', q_bn0, q_bn1, nar_n0, nar_n1, si_k, si_i, si_s, si_e, si_2, sl_1, sl_22, sl_k, sl_i, sl_s, sl_e, sp_1, sp_21, sp_22, sc_k, sc_i, sc_e, sc_2, mF_k, mF_2, mF_0, ↓eu_L_X0_reset_78]
    refine K _ ⟨fun k i s h0 h1 => ?_, f2, fun s hs => ?_, fun s hs => ?_⟩
    · rw [si_n (by omega), si_n (by omega)]
      exact fr k i s (by omega) (by omega)
    · rw [si_k (by decide), si_c]
      by_cases q : s = j
      · subst q
        rw [if_pos rfl]
      · rw [if_neg (by omega)]
        exact g0 s (by omega)
    · rw [si_c]
      by_cases q : s = j
      · subst q
        rw [if_pos rfl]
      · rw [if_neg (by omega), si_k (by decide)]
        exact g1 s (by omega)
  · rintro f w g
    show Ev (L_X0_reset_78 o (f + 1) (nI 48) w e) P
    simp (disch := first | omega | decide) only [Nat.reduceAdd, Nat.reduceMul, ↓ev_bd, ↓ev_ck, ↓ev_if, ↓ev_lt, ↓ev_jn, ↓ev_so, ↓reduceIte, ↓ev_within, ↓ev_isBoard, ↓ev_isNumber, ↓ev_foundN, ↓ev_found_1, ↓ev_found_2, ↓ev_found_3, ↓ev_found_4, ↓ev_found_5, true_and, and_true, and_self, eq_self, not_true_eq_false, not_false_eq_true, ite_true, ite_false, true_or, or_true, false_or, or_false, false_and, and_false, ← zi_ni_0, ← zi_ni_1, ← zi_ni_2, ← zi_ni_3, ← zi_ni_4, ← zi_ni_5, ← zi_ni_6, ← zi_ni_7, ← zi_ni_8, ← zi_ni_9, ← zi_ni_10, ← zi_ni_12, ← zi_ni_24, ← zi_ni_25, ← zi_ni_40, ← zi_ni_45, ← zi_ni_47, ← zi_ni_48, ← zi_ni_95, ← zi_ni_96, ← zi_ni_97, ← zi_ni_100, ← zi_ni_144, ← zi_ni_288, nI_ltI, nI_leI, nI_eqI, nlt_T, nlt_F, nle_T, nle_F, neq_T, neq_F, nI_add, pk_mul, nI_clamp, q_inT, ng_lt, ng_tl, ng_le, ng_el, ng_eq, ng_qe, q_b0, q_b1, nar_0, nar_1, b01, b01', q_bn0, q_bn1, nar_n0, nar_n1, si_k, si_i, si_s, si_e, si_2, sl_1, sl_22, sl_k, sl_i, sl_s, sl_e, sp_1, sp_21, sp_22, sc_k, sc_i, sc_e, sc_2, mF_k, mF_2, mF_0, ↓eu_L_X0_reset_78]
    exact K0 _ g

theorem lp_rs2 {o : Nat} {u : qM} {e : qM → Option (Unit × qM)} {P : Unit → qM → Prop}  (K0 : ∀ u', (∀ k i s, ¬ (k = 39 ∧ i = o ∧ s < 144) → u'.1 k i s = u.1 k i s) ∧ u'.2 = u.2 ∧ (∀ s, s < 144 → u'.1 39 o (s) = nI 0) → Ev (e u') P) : Ev (L_X0_reset_110 o q_fu 0 u e) P := by
  refine lpc (fun f x t => L_X0_reset_110 o f x t e) (fun j t => (∀ k i s, ¬ (k = 39 ∧ i = o ∧ s < j) → t.1 k i s = u.1 k i s) ∧ t.2 = u.2 ∧ (∀ s, s < j → t.1 39 o (s) = nI 0)) (144) (by omega) u ⟨fun _ _ _ _ => rfl, rfl, fun s hs => absurd hs (Nat.not_lt_zero _)⟩ ?_ ?_
  · rintro f j w hj ⟨fr, f2, g0⟩ K
    show Ev (L_X0_reset_110 o (f + 1) (nI j) w e) P
    simp (disch := first | omega | decide) only [Nat.reduceAdd, Nat.reduceMul, ↓ev_bd, ↓ev_ck, ↓ev_if, ↓ev_lt, ↓ev_jn, ↓ev_so, ↓reduceIte, ↓ev_within, ↓ev_isBoard, ↓ev_isNumber, ↓ev_foundN, ↓ev_found_1, ↓ev_found_2, ↓ev_found_3, ↓ev_found_4, ↓ev_found_5, true_and, and_true, and_self, eq_self, not_true_eq_false, not_false_eq_true, ite_true, ite_false, true_or, or_true, false_or, or_false, false_and, and_false, ← zi_ni_0, ← zi_ni_1, ← zi_ni_2, ← zi_ni_3, ← zi_ni_4, ← zi_ni_5, ← zi_ni_6, ← zi_ni_7, ← zi_ni_8, ← zi_ni_9, ← zi_ni_10, ← zi_ni_12, ← zi_ni_24, ← zi_ni_25, ← zi_ni_40, ← zi_ni_45, ← zi_ni_47, ← zi_ni_48, ← zi_ni_95, ← zi_ni_96, ← zi_ni_97, ← zi_ni_100, ← zi_ni_144, ← zi_ni_288, nI_ltI, nI_leI, nI_eqI, nlt_T, nlt_F, nle_T, nle_F, neq_T, neq_F, nI_add, pk_mul, nI_clamp, q_inT, ng_lt, ng_tl, ng_le, ng_el, ng_eq, ng_qe, q_b0, q_b1, nar_0, nar_1, b01, b01', q_bn0, q_bn1, nar_n0, nar_n1, si_k, si_i, si_s, si_e, si_2, sl_1, sl_22, sl_k, sl_i, sl_s, sl_e, sp_1, sp_21, sp_22, sc_k, sc_i, sc_e, sc_2, mF_k, mF_2, mF_0, ↓eu_L_X0_reset_110]
    refine K _ ⟨fun k i s h0 => ?_, f2, fun s hs => ?_⟩
    · rw [si_n (by omega)]
      exact fr k i s (by omega)
    · rw [si_c]
      by_cases q : s = j
      · subst q
        rw [if_pos rfl]
      · rw [if_neg (by omega)]
        exact g0 s (by omega)
  · rintro f w g
    show Ev (L_X0_reset_110 o (f + 1) (nI 144) w e) P
    simp (disch := first | omega | decide) only [Nat.reduceAdd, Nat.reduceMul, ↓ev_bd, ↓ev_ck, ↓ev_if, ↓ev_lt, ↓ev_jn, ↓ev_so, ↓reduceIte, ↓ev_within, ↓ev_isBoard, ↓ev_isNumber, ↓ev_foundN, ↓ev_found_1, ↓ev_found_2, ↓ev_found_3, ↓ev_found_4, ↓ev_found_5, true_and, and_true, and_self, eq_self, not_true_eq_false, not_false_eq_true, ite_true, ite_false, true_or, or_true, false_or, or_false, false_and, and_false, ← zi_ni_0, ← zi_ni_1, ← zi_ni_2, ← zi_ni_3, ← zi_ni_4, ← zi_ni_5, ← zi_ni_6, ← zi_ni_7, ← zi_ni_8, ← zi_ni_9, ← zi_ni_10, ← zi_ni_12, ← zi_ni_24, ← zi_ni_25, ← zi_ni_40, ← zi_ni_45, ← zi_ni_47, ← zi_ni_48, ← zi_ni_95, ← zi_ni_96, ← zi_ni_97, ← zi_ni_100, ← zi_ni_144, ← zi_ni_288, nI_ltI, nI_leI, nI_eqI, nlt_T, nlt_F, nle_T, nle_F, neq_T, neq_F, nI_add, pk_mul, nI_clamp, q_inT, ng_lt, ng_tl, ng_le, ng_el, ng_eq, ng_qe, q_b0, q_b1, nar_0, nar_1, b01, b01', q_bn0, q_bn1, nar_n0, nar_n1, si_k, si_i, si_s, si_e, si_2, sl_1, sl_22, sl_k, sl_i, sl_s, sl_e, sp_1, sp_21, sp_22, sc_k, sc_i, sc_e, sc_2, mF_k, mF_2, mF_0, ↓eu_L_X0_reset_110]
    exact K0 _ g

theorem lp_rs3 {o : Nat} {u : qM} {e : qM → Option (Unit × qM)} {P : Unit → qM → Prop}  (K0 : ∀ u', (∀ k i s, ¬ (k = 40 ∧ i = o ∧ s < 96) → ¬ (k = 41 ∧ i = o ∧ s < 96) → u'.1 k i s = u.1 k i s) ∧ u'.2 = u.2 ∧ (∀ s, s < 96 → u'.1 40 o (s) = nI 0) ∧ (∀ s, s < 96 → u'.1 41 o (s) = nI 0) → Ev (e u') P) : Ev (L_X0_reset_135 o q_fu 0 u e) P := by
  refine lpc (fun f x t => L_X0_reset_135 o f x t e) (fun j t => (∀ k i s, ¬ (k = 40 ∧ i = o ∧ s < j) → ¬ (k = 41 ∧ i = o ∧ s < j) → t.1 k i s = u.1 k i s) ∧ t.2 = u.2 ∧ (∀ s, s < j → t.1 40 o (s) = nI 0) ∧ (∀ s, s < j → t.1 41 o (s) = nI 0)) (96) (by omega) u ⟨fun _ _ _ _ _ => rfl, rfl, fun s hs => absurd hs (Nat.not_lt_zero _), fun s hs => absurd hs (Nat.not_lt_zero _)⟩ ?_ ?_
  · rintro f j w hj ⟨fr, f2, g0, g1⟩ K
    show Ev (L_X0_reset_135 o (f + 1) (nI j) w e) P
    simp (disch := first | omega | decide) only [Nat.reduceAdd, Nat.reduceMul, ↓ev_bd, ↓ev_ck, ↓ev_if, ↓ev_lt, ↓ev_jn, ↓ev_so, ↓reduceIte, ↓ev_within, ↓ev_isBoard, ↓ev_isNumber, ↓ev_foundN, ↓ev_found_1, ↓ev_found_2, ↓ev_found_3, ↓ev_found_4, ↓ev_found_5, true_and, and_true, and_self, eq_self, not_true_eq_false, not_false_eq_true, ite_true, ite_false, true_or, or_true, false_or, or_false, false_and, and_false, ← zi_ni_0, ← zi_ni_1, ← zi_ni_2, ← zi_ni_3, ← zi_ni_4, ← zi_ni_5, ← zi_ni_6, ← zi_ni_7, ← zi_ni_8, ← zi_ni_9, ← zi_ni_10, ← zi_ni_12, ← zi_ni_24, ← zi_ni_25, ← zi_ni_40, ← zi_ni_45, ← zi_ni_47, ← zi_ni_48, ← zi_ni_95, ← zi_ni_96, ← zi_ni_97, ← zi_ni_100, ← zi_ni_144, ← zi_ni_288, nI_ltI, nI_leI, nI_eqI, nlt_T, nlt_F, nle_T, nle_F, neq_T, neq_F, nI_add, pk_mul, nI_clamp, q_inT, ng_lt, ng_tl, ng_le, ng_el, ng_eq, ng_qe, q_b0, q_b1, nar_0, nar_1, b01, b01', q_bn0, q_bn1, nar_n0, nar_n1, si_k, si_i, si_s, si_e, si_2, sl_1, sl_22, sl_k, sl_i, sl_s, sl_e, sp_1, sp_21, sp_22, sc_k, sc_i, sc_e, sc_2, mF_k, mF_2, mF_0, ↓eu_L_X0_reset_135]
    refine K _ ⟨fun k i s h0 h1 => ?_, f2, fun s hs => ?_, fun s hs => ?_⟩
    · rw [si_n (by omega), si_n (by omega)]
      exact fr k i s (by omega) (by omega)
    · rw [si_k (by decide), si_c]
      by_cases q : s = j
      · subst q
        rw [if_pos rfl]
      · rw [if_neg (by omega)]
        exact g0 s (by omega)
    · rw [si_c]
      by_cases q : s = j
      · subst q
        rw [if_pos rfl]
      · rw [if_neg (by omega), si_k (by decide)]
        exact g1 s (by omega)
  · rintro f w g
    show Ev (L_X0_reset_135 o (f + 1) (nI 96) w e) P
    simp (disch := first | omega | decide) only [Nat.reduceAdd, Nat.reduceMul, ↓ev_bd, ↓ev_ck, ↓ev_if, ↓ev_lt, ↓ev_jn, ↓ev_so, ↓reduceIte, ↓ev_within, ↓ev_isBoard, ↓ev_isNumber, ↓ev_foundN, ↓ev_found_1, ↓ev_found_2, ↓ev_found_3, ↓ev_found_4, ↓ev_found_5, true_and, and_true, and_self, eq_self, not_true_eq_false, not_false_eq_true, ite_true, ite_false, true_or, or_true, false_or, or_false, false_and, and_false, ← zi_ni_0, ← zi_ni_1, ← zi_ni_2, ← zi_ni_3, ← zi_ni_4, ← zi_ni_5, ← zi_ni_6, ← zi_ni_7, ← zi_ni_8, ← zi_ni_9, ← zi_ni_10, ← zi_ni_12, ← zi_ni_24, ← zi_ni_25, ← zi_ni_40, ← zi_ni_45, ← zi_ni_47, ← zi_ni_48, ← zi_ni_95, ← zi_ni_96, ← zi_ni_97, ← zi_ni_100, ← zi_ni_144, ← zi_ni_288, nI_ltI, nI_leI, nI_eqI, nlt_T, nlt_F, nle_T, nle_F, neq_T, neq_F, nI_add, pk_mul, nI_clamp, q_inT, ng_lt, ng_tl, ng_le, ng_el, ng_eq, ng_qe, q_b0, q_b1, nar_0, nar_1, b01, b01', q_bn0, q_bn1, nar_n0, nar_n1, si_k, si_i, si_s, si_e, si_2, sl_1, sl_22, sl_k, sl_i, sl_s, sl_e, sp_1, sp_21, sp_22, sc_k, sc_i, sc_e, sc_2, mF_k, mF_2, mF_0, ↓eu_L_X0_reset_135]
    exact K0 _ g

theorem lp_to1 {o p : Nat} {u : qM} {e : qM → Option (Unit × qM)} {P : Unit → qM → Prop} (hop : o ≠ p) (K0 : ∀ u', (∀ k i s, ¬ (k = 43 ∧ i = o ∧ s < 4) → ¬ (k = 44 ∧ i = o ∧ s < 4) → u'.1 k i s = u.1 k i s) ∧ u'.2 = u.2 ∧ (∀ s, s < 4 → u'.1 43 o (s) = u.1 43 p s) ∧ (∀ s, s < 4 → u'.1 44 o (s) = u.1 44 p s) → Ev (e u') P) : Ev (L_X5_takeOver_10 o p q_fu 0 u e) P := by
  refine lpc (fun f x t => L_X5_takeOver_10 o p f x t e) (fun j t => (∀ k i s, ¬ (k = 43 ∧ i = o ∧ s < j) → ¬ (k = 44 ∧ i = o ∧ s < j) → t.1 k i s = u.1 k i s) ∧ t.2 = u.2 ∧ (∀ s, s < j → t.1 43 o (s) = u.1 43 p s) ∧ (∀ s, s < j → t.1 44 o (s) = u.1 44 p s)) (4) (by omega) u ⟨fun _ _ _ _ _ => rfl, rfl, fun s hs => absurd hs (Nat.not_lt_zero _), fun s hs => absurd hs (Nat.not_lt_zero _)⟩ ?_ ?_
  · rintro f j w hj ⟨fr, f2, g0, g1⟩ K
    show Ev (L_X5_takeOver_10 o p (f + 1) (nI j) w e) P
    have r0 : w.1 43 p (j) = u.1 43 p (j) := fr _ _ _ (by omega) (by omega)
    have r1 : w.1 44 p (j) = u.1 44 p (j) := fr _ _ _ (by omega) (by omega)
    simp (disch := first | omega | decide) only [Nat.reduceAdd, Nat.reduceMul, ↓ev_bd, ↓ev_ck, ↓ev_if, ↓ev_lt, ↓ev_jn, ↓ev_so, ↓reduceIte, ↓ev_within, ↓ev_isBoard, ↓ev_isNumber, ↓ev_foundN, ↓ev_found_1, ↓ev_found_2, ↓ev_found_3, ↓ev_found_4, ↓ev_found_5, true_and, and_true, and_self, eq_self, not_true_eq_false, not_false_eq_true, ite_true, ite_false, true_or, or_true, false_or, or_false, false_and, and_false, ← zi_ni_0, ← zi_ni_1, ← zi_ni_2, ← zi_ni_3, ← zi_ni_4, ← zi_ni_5, ← zi_ni_6, ← zi_ni_7, ← zi_ni_8, ← zi_ni_9, ← zi_ni_10, ← zi_ni_12, ← zi_ni_24, ← zi_ni_25, ← zi_ni_40, ← zi_ni_45, ← zi_ni_47, ← zi_ni_48, ← zi_ni_95, ← zi_ni_96, ← zi_ni_97, ← zi_ni_100, ← zi_ni_144, ← zi_ni_288, nI_ltI, nI_leI, nI_eqI, nlt_T, nlt_F, nle_T, nle_F, neq_T, neq_F, nI_add, pk_mul, nI_clamp, q_inT, ng_lt, ng_tl, ng_le, ng_el, ng_eq, ng_qe, q_b0, q_b1, nar_0, nar_1, b01, b01', q_bn0, q_bn1, nar_n0, nar_n1, si_k, si_i, si_s, si_e, si_2, sl_1, sl_22, sl_k, sl_i, sl_s, sl_e, sp_1, sp_21, sp_22, sc_k, sc_i, sc_e, sc_2, mF_k, mF_2, mF_0, ↓eu_L_X5_takeOver_10, r0, r1]
    refine K _ ⟨fun k i s h0 h1 => ?_, f2, fun s hs => ?_, fun s hs => ?_⟩
    · rw [si_n (by omega), si_n (by omega)]
      exact fr k i s (by omega) (by omega)
    · rw [si_k (by decide), si_c]
      by_cases q : s = j
      · subst q
        rw [if_pos rfl]
      · rw [if_neg (by omega)]
        exact g0 s (by omega)
    · rw [si_c]
      by_cases q : s = j
      · subst q
        rw [if_pos rfl]
      · rw [if_neg (by omega), si_k (by decide)]
        exact g1 s (by omega)
  · rintro f w g
    show Ev (L_X5_takeOver_10 o p (f + 1) (nI 4) w e) P
    simp (disch := first | omega | decide) only [Nat.reduceAdd, Nat.reduceMul, ↓ev_bd, ↓ev_ck, ↓ev_if, ↓ev_lt, ↓ev_jn, ↓ev_so, ↓reduceIte, ↓ev_within, ↓ev_isBoard, ↓ev_isNumber, ↓ev_foundN, ↓ev_found_1, ↓ev_found_2, ↓ev_found_3, ↓ev_found_4, ↓ev_found_5, true_and, and_true, and_self, eq_self, not_true_eq_false, not_false_eq_true, ite_true, ite_false, true_or, or_true, false_or, or_false, false_and, and_false, ← zi_ni_0, ← zi_ni_1, ← zi_ni_2, ← zi_ni_3, ← zi_ni_4, ← zi_ni_5, ← zi_ni_6, ← zi_ni_7, ← zi_ni_8, ← zi_ni_9, ← zi_ni_10, ← zi_ni_12, ← zi_ni_24, ← zi_ni_25, ← zi_ni_40, ← zi_ni_45, ← zi_ni_47, ← zi_ni_48, ← zi_ni_95, ← zi_ni_96, ← zi_ni_97, ← zi_ni_100, ← zi_ni_144, ← zi_ni_288, nI_ltI, nI_leI, nI_eqI, nlt_T, nlt_F, nle_T, nle_F, neq_T, neq_F, nI_add, pk_mul, nI_clamp, q_inT, ng_lt, ng_tl, ng_le, ng_el, ng_eq, ng_qe, q_b0, q_b1, nar_0, nar_1, b01, b01', q_bn0, q_bn1, nar_n0, nar_n1, si_k, si_i, si_s, si_e, si_2, sl_1, sl_22, sl_k, sl_i, sl_s, sl_e, sp_1, sp_21, sp_22, sc_k, sc_i, sc_e, sc_2, mF_k, mF_2, mF_0, ↓eu_L_X5_takeOver_10]
    exact K0 _ g

theorem lp_to2 {o p : Nat} {u : qM} {e : qM → Option (Unit × qM)} {P : Unit → qM → Prop} (hop : o ≠ p) (hs : ∀ s, s < 96 → u.1 41 p s = 0 ∨ u.1 41 p s = 1) (K0 : ∀ u', (∀ k i s, ¬ (k = 41 ∧ i = o ∧ s < 96) → u'.1 k i s = u.1 k i s) ∧ u'.2 = u.2 ∧ (∀ s, s < 96 → u'.1 41 o (s) = u.1 41 p s) → Ev (e u') P) : Ev (L_X0_takeOver_188 o p q_fu 0 u e) P := by
  refine lpc (fun f x t => L_X0_takeOver_188 o p f x t e) (fun j t => (∀ k i s, ¬ (k = 41 ∧ i = o ∧ s < j) → t.1 k i s = u.1 k i s) ∧ t.2 = u.2 ∧ (∀ s, s < j → t.1 41 o (s) = u.1 41 p s)) (96) (by omega) u ⟨fun _ _ _ _ => rfl, rfl, fun s hs => absurd hs (Nat.not_lt_zero _)⟩ ?_ ?_
  · rintro f j w hj ⟨fr, f2, g0⟩ K
    show Ev (L_X0_takeOver_188 o p (f + 1) (nI j) w e) P
    have r0 : w.1 41 p (j) = u.1 41 p (j) := fr _ _ _ (by omega)
    have nb := nar_b (hs j hj)
    simp (disch := first | omega | decide) only [Nat.reduceAdd, Nat.reduceMul, ↓ev_bd, ↓ev_ck, ↓ev_if, ↓ev_lt, ↓ev_jn, ↓ev_so, ↓reduceIte, ↓ev_within, ↓ev_isBoard, ↓ev_isNumber, ↓ev_foundN, ↓ev_found_1, ↓ev_found_2, ↓ev_found_3, ↓ev_found_4, ↓ev_found_5, true_and, and_true, and_self, eq_self, not_true_eq_false, not_false_eq_true, ite_true, ite_false, true_or, or_true, false_or, or_false, false_and, and_false, ← zi_ni_0, ← zi_ni_1, ← zi_ni_2, ← zi_ni_3, ← zi_ni_4, ← zi_ni_5, ← zi_ni_6, ← zi_ni_7, ← zi_ni_8, ← zi_ni_9, ← zi_ni_10, ← zi_ni_12, ← zi_ni_24, ← zi_ni_25, ← zi_ni_40, ← zi_ni_45, ← zi_ni_47, ← zi_ni_48, ← zi_ni_95, ← zi_ni_96, ← zi_ni_97, ← zi_ni_100, ← zi_ni_144, ← zi_ni_288, nI_ltI, nI_leI, nI_eqI, nlt_T, nlt_F, nle_T, nle_F, neq_T, neq_F, nI_add, pk_mul, nI_clamp, q_inT, ng_lt, ng_tl, ng_le, ng_el, ng_eq, ng_qe, q_b0, q_b1, nar_0, nar_1, b01, b01', q_bn0, q_bn1, nar_n0, nar_n1, si_k, si_i, si_s, si_e, si_2, sl_1, sl_22, sl_k, sl_i, sl_s, sl_e, sp_1, sp_21, sp_22, sc_k, sc_i, sc_e, sc_2, mF_k, mF_2, mF_0, ↓eu_L_X0_takeOver_188, r0, nb]
    refine K _ ⟨fun k i s h0 => ?_, f2, fun s hs => ?_⟩
    · rw [si_n (by omega)]
      exact fr k i s (by omega)
    · rw [si_c]
      by_cases q : s = j
      · subst q
        rw [if_pos rfl]
      · rw [if_neg (by omega)]
        exact g0 s (by omega)
  · rintro f w g
    show Ev (L_X0_takeOver_188 o p (f + 1) (nI 96) w e) P
    simp (disch := first | omega | decide) only [Nat.reduceAdd, Nat.reduceMul, ↓ev_bd, ↓ev_ck, ↓ev_if, ↓ev_lt, ↓ev_jn, ↓ev_so, ↓reduceIte, ↓ev_within, ↓ev_isBoard, ↓ev_isNumber, ↓ev_foundN, ↓ev_found_1, ↓ev_found_2, ↓ev_found_3, ↓ev_found_4, ↓ev_found_5, true_and, and_true, and_self, eq_self, not_true_eq_false, not_false_eq_true, ite_true, ite_false, true_or, or_true, false_or, or_false, false_and, and_false, ← zi_ni_0, ← zi_ni_1, ← zi_ni_2, ← zi_ni_3, ← zi_ni_4, ← zi_ni_5, ← zi_ni_6, ← zi_ni_7, ← zi_ni_8, ← zi_ni_9, ← zi_ni_10, ← zi_ni_12, ← zi_ni_24, ← zi_ni_25, ← zi_ni_40, ← zi_ni_45, ← zi_ni_47, ← zi_ni_48, ← zi_ni_95, ← zi_ni_96, ← zi_ni_97, ← zi_ni_100, ← zi_ni_144, ← zi_ni_288, nI_ltI, nI_leI, nI_eqI, nlt_T, nlt_F, nle_T, nle_F, neq_T, neq_F, nI_add, pk_mul, nI_clamp, q_inT, ng_lt, ng_tl, ng_le, ng_el, ng_eq, ng_qe, q_b0, q_b1, nar_0, nar_1, b01, b01', q_bn0, q_bn1, nar_n0, nar_n1, si_k, si_i, si_s, si_e, si_2, sl_1, sl_22, sl_k, sl_i, sl_s, sl_e, sp_1, sp_21, sp_22, sc_k, sc_i, sc_e, sc_2, mF_k, mF_2, mF_0, ↓eu_L_X0_takeOver_188]
    exact K0 _ g


