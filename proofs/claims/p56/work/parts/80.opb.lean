/-- what a boat's or gauge's board is when only the boards of U are there -/
def bo (U : Nat → Bool) (x : Int32) : Int32 := if nI 0 ≤ x ∧ x < nI 6 ∧ U x.toNatClampNeg = false then -nI 9 else x
def del (U : Nat → Bool) (b : Nat) : Nat → Bool := fun x => U x && !decide (x = b)
theorem bo_del {U : Nat → Bool} {b : Nat} {x : Int32} (hb : b < 6) : bo (del U b) x = if bo U x = nI b then -nI 9 else bo U x := by
  unfold bo del
  by_cases h : nI 0 ≤ x ∧ x < nI 6
  · obtain ⟨j, hj, rfl⟩ : ∃ j, j < 6 ∧ x = nI j := by
      rcases y_ix6 x with q | q
      · exact q
      · exact absurd h q
    rw [nI_clamp (by omega)]
    by_cases hu : U j = true
    · by_cases hjb : j = b
      · subst hjb
        simp only [hu, h, decide_true, Bool.not_true, Bool.and_false, and_self, if_true, Bool.true_eq_false, and_false, if_false]
      · have hne : ¬ nI j = nI b := fun q => hjb ((nI_eq (by omega) (by omega)).mp q)
        simp only [hu, h, hjb, decide_false, Bool.not_false, Bool.and_true, Bool.true_eq_false, and_false, if_false, hne]
    · have hu' : U j = false := by
        cases hq : U j
        · rfl
        · exact absurd hq hu
      have hne : ¬ -nI 9 = nI b := by simp (disch := omega) only [ng_eq, not_false_eq_true]
      simp only [hu', h, Bool.false_and, and_self, if_true, hne, if_false]
  · have h1 : ¬ (nI 0 ≤ x ∧ x < nI 6 ∧ U x.toNatClampNeg = false) := fun q => h ⟨q.1, q.2.1⟩
    have h2 : ¬ (nI 0 ≤ x ∧ x < nI 6 ∧ (U x.toNatClampNeg && !decide (x.toNatClampNeg = b)) = false) := fun q => h ⟨q.1, q.2.1⟩
    have h3 : ¬ x = nI b := by
      rintro rfl
      exact h ⟨nI_pos' (by omega), nI_lt hb (by decide)⟩
    rw [if_neg h1, if_neg h2, if_neg h3]
def ClC (μ0 : qM) (U : Nat → Bool) (μ : qM) : Prop := (∀ k i s, ¬ (k = 2 ∧ i < 6 ∧ s = 10) → ¬ (k = 8 ∧ s = 0) → ¬ (k = 9 ∧ s = 2) → μ.1 k i s = μ0.1 k i s) ∧ μ.2 = μ0.2 ∧ (∀ x, x < 6 → μ.1 2 x 10 = if U x = true then nI 1 else nI 0) ∧ (∀ k, k < 8 → μ.1 8 k 0 = bo U (μ0.1 8 k 0)) ∧ (∀ k, k < 8 → μ.1 9 k 2 = bo U (μ0.1 9 k 2))
def ClM (μ0 : qM) (U : Nat → Bool) (μ : qM) : Prop := (∀ k i s, ¬ (k = 74 ∧ i = 0 ∧ s < 6) → ¬ (k = 105 ∧ i = 0) → ¬ (k = 108 ∧ i = 0) → μ.1 k i s = μ0.1 k i s) ∧ μ.2 = μ0.2 ∧ (∀ x, x < 6 → μ.1 74 0 x = if U x = true then μ0.1 74 0 x else -nI 9) ∧ (∀ k, k < 8 → μ.1 105 0 k = bo U (μ0.1 105 0 k)) ∧ (∀ k, k < 8 → μ.1 108 0 k = bo U (μ0.1 108 0 k))
theorem lp_rm1 {b : Nat} {u : qM} {e : qM → Option (Unit × qM)} {P : Unit → qM → Prop} (hb : b < 6) (K0 : ∀ u', (∀ k i s, ¬ (k = 8 ∧ i < 8 ∧ s = 0) → u'.1 k i s = u.1 k i s) ∧ u'.2 = u.2 ∧ (∀ k, k < 8 → u'.1 8 k 0 = if u.1 8 k 0 = nI b then -nI 9 else u.1 8 k 0) → Ev (e u') P) : Ev (L_X10_removeBoard_12 (nI b) q_fu 0 u e) P := by
  refine lpc (fun f x t => L_X10_removeBoard_12 (nI b) f x t e) (fun j t => (∀ k i s, ¬ (k = 8 ∧ i < j ∧ s = 0) → t.1 k i s = u.1 k i s) ∧ t.2 = u.2 ∧ (∀ k, k < j → t.1 8 k 0 = if u.1 8 k 0 = nI b then -nI 9 else u.1 8 k 0)) 8 (by decide) u ⟨fun _ _ _ _ => rfl, rfl, fun k hk => absurd hk (Nat.not_lt_zero _)⟩ ?_ ?_
  · rintro f j w hj ⟨g1, g2, g3⟩ K
    show Ev (L_X10_removeBoard_12 (nI b) (f + 1) (nI j) w e) P
    have g4 : w.1 8 j 0 = u.1 8 j 0 := g1 8 j 0 (by omega)
    by_cases hc : u.1 8 j 0 = nI b
    · simp (disch := first | omega | decide) only [Nat.reduceAdd, Nat.reduceMul, ↓ev_bd, ↓ev_ck, ↓ev_if, ↓ev_lt, ↓ev_jn, ↓ev_so, ↓reduceIte, ↓ev_within, ↓ev_isBoard, ↓ev_isNumber, ↓ev_foundN, ↓ev_found_1, ↓ev_found_2, ↓ev_found_3, ↓ev_found_4, ↓ev_found_5, true_and, and_true, and_self, eq_self, not_true_eq_false, not_false_eq_true, ite_true, ite_false, true_or, or_true, false_or, or_false, false_and, and_false, ← zi_ni_0, ← zi_ni_1, ← zi_ni_2, ← zi_ni_3, ← zi_ni_4, ← zi_ni_5, ← zi_ni_6, ← zi_ni_7, ← zi_ni_8, ← zi_ni_9, ← zi_ni_10, ← zi_ni_12, ← zi_ni_24, ← zi_ni_25, ← zi_ni_40, ← zi_ni_45, ← zi_ni_47, ← zi_ni_48, ← zi_ni_95, ← zi_ni_96, ← zi_ni_97, ← zi_ni_100, ← zi_ni_144, ← zi_ni_288, nI_ltI, nI_leI, nI_eqI, nlt_T, nlt_F, nle_T, nle_F, neq_T, neq_F, nI_add, pk_mul, nI_clamp, q_inT, ng_lt, ng_tl, ng_le, ng_el, ng_eq, ng_qe, q_b0, q_b1, nar_0, nar_1, b01, b01', q_bn0, q_bn1, nar_n0, nar_n1, si_k, si_i, si_s, si_e, si_2, sl_1, sl_22, sl_k, sl_i, sl_s, sl_e, sp_1, sp_21, sp_22, sc_k, sc_i, sc_e, sc_2, mF_k, mF_2, mF_0, ↓eu_L_X10_removeBoard_12, g4, hc]
      refine K _ ⟨fun k i s hk => ?_, g2, fun k hk => ?_⟩
      · by_cases q : k = 8 ∧ i = j ∧ s = 0
        · exact absurd ⟨q.1, by omega, q.2.2⟩ hk
        · rw [show (q_si w 8 j 0 (-nI 9)).1 k i s = w.1 k i s from if_neg q]
          exact g1 k i s (fun z => hk ⟨z.1, by omega, z.2.2⟩)
      · by_cases q : k = j
        · subst q
          rw [si_e, if_pos hc]
        · rw [si_i q]
          exact g3 k (by omega)
    · simp (disch := first | omega | decide) only [Nat.reduceAdd, Nat.reduceMul, ↓ev_bd, ↓ev_ck, ↓ev_if, ↓ev_lt, ↓ev_jn, ↓ev_so, ↓reduceIte, ↓ev_within, ↓ev_isBoard, ↓ev_isNumber, ↓ev_foundN, ↓ev_found_1, ↓ev_found_2, ↓ev_found_3, ↓ev_found_4, ↓ev_found_5, true_and, and_true, and_self, eq_self, not_true_eq_false, not_false_eq_true, ite_true, ite_false, true_or, or_true, false_or, or_false, false_and, and_false, ← zi_ni_0, ← zi_ni_1, ← zi_ni_2, ← zi_ni_3, ← zi_ni_4, ← zi_ni_5, ← zi_ni_6, ← zi_ni_7, ← zi_ni_8, ← zi_ni_9, ← zi_ni_10, ← zi_ni_12, ← zi_ni_24, ← zi_ni_25, ← zi_ni_40, ← zi_ni_45, ← zi_ni_47, ← zi_ni_48, ← zi_ni_95, ← zi_ni_96, ← zi_ni_97, ← zi_ni_100, ← zi_ni_144, ← zi_ni_288, nI_ltI, nI_leI, nI_eqI, nlt_T, nlt_F, nle_T, nle_F, neq_T, neq_F, nI_add, pk_mul, nI_clamp, q_inT, ng_lt, ng_tl, ng_le, ng_el, ng_eq, ng_qe, q_b0, q_b1, nar_0, nar_1, b01, b01', q_bn0, q_bn1, nar_n0, nar_n1, si_k, si_i, si_s, si_e, si_2, sl_1, sl_22, sl_k, sl_i, sl_s, sl_e, sp_1, sp_21, sp_22, sc_k, sc_i, sc_e, sc_2, mF_k, mF_2, mF_0, ↓eu_L_X10_removeBoard_12, g4, hc]
      refine K _ ⟨fun k i s hk => g1 k i s (fun z => hk ⟨z.1, by omega, z.2.2⟩), g2, fun k hk => ?_⟩
      by_cases q : k = j
      · subst q
        rw [g4, if_neg hc]
      · exact g3 k (by omega)
  · rintro f w ⟨g1, g2, g3⟩
    show Ev (L_X10_removeBoard_12 (nI b) (f + 1) (nI 8) w e) P
    simp (disch := first | omega | decide) only [Nat.reduceAdd, Nat.reduceMul, ↓ev_bd, ↓ev_ck, ↓ev_if, ↓ev_lt, ↓ev_jn, ↓ev_so, ↓reduceIte, ↓ev_within, ↓ev_isBoard, ↓ev_isNumber, ↓ev_foundN, ↓ev_found_1, ↓ev_found_2, ↓ev_found_3, ↓ev_found_4, ↓ev_found_5, true_and, and_true, and_self, eq_self, not_true_eq_false, not_false_eq_true, ite_true, ite_false, true_or, or_true, false_or, or_false, false_and, and_false, ← zi_ni_0, ← zi_ni_1, ← zi_ni_2, ← zi_ni_3, ← zi_ni_4, ← zi_ni_5, ← zi_ni_6, ← zi_ni_7, ← zi_ni_8, ← zi_ni_9, ← zi_ni_10, ← zi_ni_12, ← zi_ni_24, ← zi_ni_25, ← zi_ni_40, ← zi_ni_45, ← zi_ni_47, ← zi_ni_48, ← zi_ni_95, ← zi_ni_96, ← zi_ni_97, ← zi_ni_100, ← zi_ni_144, ← zi_ni_288, nI_ltI, nI_leI, nI_eqI, nlt_T, nlt_F, nle_T, nle_F, neq_T, neq_F, nI_add, pk_mul, nI_clamp, q_inT, ng_lt, ng_tl, ng_le, ng_el, ng_eq, ng_qe, q_b0, q_b1, nar_0, nar_1, b01, b01', q_bn0, q_bn1, nar_n0, nar_n1, si_k, si_i, si_s, si_e, si_2, sl_1, sl_22, sl_k, sl_i, sl_s, sl_e, sp_1, sp_21, sp_22, sc_k, sc_i, sc_e, sc_2, mF_k, mF_2, mF_0, ↓eu_L_X10_removeBoard_12]
    exact K0 _ ⟨g1, g2, g3⟩
theorem lp_rm2 {b : Nat} {u : qM} {e : qM → Option (Unit × qM)} {P : Unit → qM → Prop} (hb : b < 6) (K0 : ∀ u', (∀ k i s, ¬ (k = 9 ∧ i < 8 ∧ s = 2) → u'.1 k i s = u.1 k i s) ∧ u'.2 = u.2 ∧ (∀ k, k < 8 → u'.1 9 k 2 = if u.1 9 k 2 = nI b then -nI 9 else u.1 9 k 2) → Ev (e u') P) : Ev (L_X10_removeBoard_50 (nI b) q_fu 0 u e) P := by
  refine lpc (fun f x t => L_X10_removeBoard_50 (nI b) f x t e) (fun j t => (∀ k i s, ¬ (k = 9 ∧ i < j ∧ s = 2) → t.1 k i s = u.1 k i s) ∧ t.2 = u.2 ∧ (∀ k, k < j → t.1 9 k 2 = if u.1 9 k 2 = nI b then -nI 9 else u.1 9 k 2)) 8 (by decide) u ⟨fun _ _ _ _ => rfl, rfl, fun k hk => absurd hk (Nat.not_lt_zero _)⟩ ?_ ?_
  · rintro f j w hj ⟨g1, g2, g3⟩ K
    show Ev (L_X10_removeBoard_50 (nI b) (f + 1) (nI j) w e) P
    have g4 : w.1 9 j 2 = u.1 9 j 2 := g1 9 j 2 (by omega)
    by_cases hc : u.1 9 j 2 = nI b
    · simp (disch := first | omega | decide) only [Nat.reduceAdd, Nat.reduceMul, ↓ev_bd, ↓ev_ck, ↓ev_if, ↓ev_lt, ↓ev_jn, ↓ev_so, ↓reduceIte, ↓ev_within, ↓ev_isBoard, ↓ev_isNumber, ↓ev_foundN, ↓ev_found_1, ↓ev_found_2, ↓ev_found_3, ↓ev_found_4, ↓ev_found_5, true_and, and_true, and_self, eq_self, not_true_eq_false, not_false_eq_true, ite_true, ite_false, true_or, or_true, false_or, or_false, false_and, and_false, ← zi_ni_0, ← zi_ni_1, ← zi_ni_2, ← zi_ni_3, ← zi_ni_4, ← zi_ni_5, ← zi_ni_6, ← zi_ni_7, ← zi_ni_8, ← zi_ni_9, ← zi_ni_10, ← zi_ni_12, ← zi_ni_24, ← zi_ni_25, ← zi_ni_40, ← zi_ni_45, ← zi_ni_47, ← zi_ni_48, ← zi_ni_95, ← zi_ni_96, ← zi_ni_97, ← zi_ni_100, ← zi_ni_144, ← zi_ni_288, nI_ltI, nI_leI, nI_eqI, nlt_T, nlt_F, nle_T, nle_F, neq_T, neq_F, nI_add, pk_mul, nI_clamp, q_inT, ng_lt, ng_tl, ng_le, ng_el, ng_eq, ng_qe, q_b0, q_b1, nar_0, nar_1, b01, b01', q_bn0, q_bn1, nar_n0, nar_n1, si_k, si_i, si_s, si_e, si_2, sl_1, sl_22, sl_k, sl_i, sl_s, sl_e, sp_1, sp_21, sp_22, sc_k, sc_i, sc_e, sc_2, mF_k, mF_2, mF_0, ↓eu_L_X10_removeBoard_50, g4, hc]
      refine K _ ⟨fun k i s hk => ?_, g2, fun k hk => ?_⟩
      · by_cases q : k = 9 ∧ i = j ∧ s = 2
        · exact absurd ⟨q.1, by omega, q.2.2⟩ hk
        · rw [show (q_si w 9 j 2 (-nI 9)).1 k i s = w.1 k i s from if_neg q]
          exact g1 k i s (fun z => hk ⟨z.1, by omega, z.2.2⟩)
      · by_cases q : k = j
        · subst q
          rw [si_e, if_pos hc]
        · rw [si_i q]
          exact g3 k (by omega)
    · simp (disch := first | omega | decide) only [Nat.reduceAdd, Nat.reduceMul, ↓ev_bd, ↓ev_ck, ↓ev_if, ↓ev_lt, ↓ev_jn, ↓ev_so, ↓reduceIte, ↓ev_within, ↓ev_isBoard, ↓ev_isNumber, ↓ev_foundN, ↓ev_found_1, ↓ev_found_2, ↓ev_found_3, ↓ev_found_4, ↓ev_found_5, true_and, and_true, and_self, eq_self, not_true_eq_false, not_false_eq_true, ite_true, ite_false, true_or, or_true, false_or, or_false, false_and, and_false, ← zi_ni_0, ← zi_ni_1, ← zi_ni_2, ← zi_ni_3, ← zi_ni_4, ← zi_ni_5, ← zi_ni_6, ← zi_ni_7, ← zi_ni_8, ← zi_ni_9, ← zi_ni_10, ← zi_ni_12, ← zi_ni_24, ← zi_ni_25, ← zi_ni_40, ← zi_ni_45, ← zi_ni_47, ← zi_ni_48, ← zi_ni_95, ← zi_ni_96, ← zi_ni_97, ← zi_ni_100, ← zi_ni_144, ← zi_ni_288, nI_ltI, nI_leI, nI_eqI, nlt_T, nlt_F, nle_T, nle_F, neq_T, neq_F, nI_add, pk_mul, nI_clamp, q_inT, ng_lt, ng_tl, ng_le, ng_el, ng_eq, ng_qe, q_b0, q_b1, nar_0, nar_1, b01, b01', q_bn0, q_bn1, nar_n0, nar_n1, si_k, si_i, si_s, si_e, si_2, sl_1, sl_22, sl_k, sl_i, sl_s, sl_e, sp_1, sp_21, sp_22, sc_k, sc_i, sc_e, sc_2, mF_k, mF_2, mF_0, ↓eu_L_X10_removeBoard_50, g4, hc]
      refine K _ ⟨fun k i s hk => g1 k i s (fun z => hk ⟨z.1, by omega, z.2.2⟩), g2, fun k hk => ?_⟩
      by_cases q : k = j
      · subst q
        rw [g4, if_neg hc]
      · exact g3 k (by omega)
  · rintro f w ⟨g1, g2, g3⟩
    show Ev (L_X10_removeBoard_50 (nI b) (f + 1) (nI 8) w e) P
    simp (disch := first | omega | decide) only [Nat.reduceAdd, Nat.reduceMul, ↓ev_bd, ↓ev_ck, ↓ev_if, ↓ev_lt, ↓ev_jn, ↓ev_so, ↓reduceIte, ↓ev_within, ↓ev_isBoard, ↓ev_isNumber, ↓ev_foundN, ↓ev_found_1, ↓ev_found_2, ↓ev_found_3, ↓ev_found_4, ↓ev_found_5, true_and, and_true, and_self, eq_self, not_true_eq_false, not_false_eq_true, ite_true, ite_false, true_or, or_true, false_or, or_false, false_and, and_false, ← zi_ni_0, ← zi_ni_1, ← zi_ni_2, ← zi_ni_3, ← zi_ni_4, ← zi_ni_5, ← zi_ni_6, ← zi_ni_7, ← zi_ni_8, ← zi_ni_9, ← zi_ni_10, ← zi_ni_12, ← zi_ni_24, ← zi_ni_25, ← zi_ni_40, ← zi_ni_45, ← zi_ni_47, ← zi_ni_48, ← zi_ni_95, ← zi_ni_96, ← zi_ni_97, ← zi_ni_100, ← zi_ni_144, ← zi_ni_288, nI_ltI, nI_leI, nI_eqI, nlt_T, nlt_F, nle_T, nle_F, neq_T, neq_F, nI_add, pk_mul, nI_clamp, q_inT, ng_lt, ng_tl, ng_le, ng_el, ng_eq, ng_qe, q_b0, q_b1, nar_0, nar_1, b01, b01', q_bn0, q_bn1, nar_n0, nar_n1, si_k, si_i, si_s, si_e, si_2, sl_1, sl_22, sl_k, sl_i, sl_s, sl_e, sp_1, sp_21, sp_22, sc_k, sc_i, sc_e, sc_2, mF_k, mF_2, mF_0, ↓eu_L_X10_removeBoard_50]
    exact K0 _ ⟨g1, g2, g3⟩
theorem ev_remove {b : Nat} {μ0 u : qM} {U : Nat → Bool} {P : Unit → qM → Prop} (hb : b < 6) (h : ClC μ0 U u) (K : ∀ u', ClC μ0 (del U b) u' → P () u') : Ev (f_X10_removeBoard (nI b) u) P := by
  obtain ⟨a1, a2, a3, a4, a5⟩ := h
  simp (disch := first | omega | decide) only [Nat.reduceAdd, Nat.reduceMul, ↓ev_bd, ↓ev_ck, ↓ev_if, ↓ev_lt, ↓ev_jn, ↓ev_so, ↓reduceIte, ↓ev_within, ↓ev_isBoard, ↓ev_isNumber, ↓ev_foundN, ↓ev_found_1, ↓ev_found_2, ↓ev_found_3, ↓ev_found_4, ↓ev_found_5, true_and, and_true, and_self, eq_self, not_true_eq_false, not_false_eq_true, ite_true, ite_false, true_or, or_true, false_or, or_false, false_and, and_false, ← zi_ni_0, ← zi_ni_1, ← zi_ni_2, ← zi_ni_3, ← zi_ni_4, ← zi_ni_5, ← zi_ni_6, ← zi_ni_7, ← zi_ni_8, ← zi_ni_9, ← zi_ni_10, ← zi_ni_12, ← zi_ni_24, ← zi_ni_25, ← zi_ni_40, ← zi_ni_45, ← zi_ni_47, ← zi_ni_48, ← zi_ni_95, ← zi_ni_96, ← zi_ni_97, ← zi_ni_100, ← zi_ni_144, ← zi_ni_288, nI_ltI, nI_leI, nI_eqI, nlt_T, nlt_F, nle_T, nle_F, neq_T, neq_F, nI_add, pk_mul, nI_clamp, q_inT, ng_lt, ng_tl, ng_le, ng_el, ng_eq, ng_qe, q_b0, q_b1, nar_0, nar_1, b01, b01', q_bn0, q_bn1, nar_n0, nar_n1, si_k, si_i, si_s, si_e, si_2, sl_1, sl_22, sl_k, sl_i, sl_s, sl_e, sp_1, sp_21, sp_22, sc_k, sc_i, sc_e, sc_2, mF_k, mF_2, mF_0, ↓eu_X10_removeBoard]
  refine lp_rm1 hb (fun u1 h1 => ?_)
  refine lp_rm2 hb (fun u2 h2 => ?_)
  obtain ⟨p1, p2, p3⟩ := h1
  obtain ⟨q1, q2, q3⟩ := h2
  refine ev_so.mpr (K _ ⟨fun k i s h1 h2 h3 => ?_, ?_, fun x hx => ?_, fun k hk => ?_, fun k hk => ?_⟩)
  · rw [q1 k i s (fun z => h3 ⟨z.1, z.2.2⟩), p1 k i s (fun z => h2 ⟨z.1, z.2.2⟩)]
    rw [show (q_si u 2 b 10 (nI 0)).1 k i s = u.1 k i s from if_neg (fun z => h1 ⟨z.1, by omega, z.2.2⟩)]
    exact a1 k i s h1 h2 h3
  · rw [q2, p2]
    exact a2
  · rw [q1 2 x 10 (by omega), p1 2 x 10 (by omega), si_b, a3 x hx]
    unfold del
    by_cases q : x = b
    · subst q
      rw [if_pos ⟨rfl, rfl⟩]
      simp only [decide_true, Bool.not_true, Bool.and_false, Bool.false_eq_true, if_false]
    · rw [if_neg (fun z => q z.1)]
      simp only [q, decide_false, Bool.not_false, Bool.and_true]
  · rw [q1 8 k 0 (by omega), p3 k hk, si_k (by decide), a4 k hk, bo_del hb]
  · rw [q3 k hk, p1 9 k 2 (by omega), si_k (by decide), a5 k hk, bo_del hb]

/-- which boards are there, which of them are nests, and on what -/
def CF (μ : qM) (th ne : Nat → Bool) (on : Nat → Nat) : Prop := (∀ x, x < 6 → μ.1 2 x 10 = if th x = true then nI 1 else nI 0) ∧ (∀ x, x < 6 → th x = true → (μ.1 2 x 11 = nI 2 ↔ ne x = true)) ∧ ∀ x, x < 6 → th x = true → ne x = true → μ.1 5 x 2 = nI (on x)
/-- nests lie on boards that are there, and none in itself -/
def NF (th ne : Nat → Bool) (on dep : Nat → Nat) : Prop := ∀ x, x < 6 → th x = true → ne x = true → on x < 6 ∧ on x ≠ x ∧ th (on x) = true ∧ dep (on x) < dep x ∧ dep x < 6
/-- what is left when b goes -/
def EU (th ne : Nat → Bool) (on : Nat → Nat) (b : Nat) (U : Nat → Bool) : Prop := ∀ x, x < 6 → (U x = true ↔ th x = true ∧ x ≠ b ∧ (ne x = true → U (on x) = true))
/-- one round over the boards -/
def JP (th ne : Nat → Bool) (on dep : Nat → Nat) (b r : Nat) (U0 : Nat → Bool) (k : Nat) (U : Nat → Bool) : Prop := (∀ x, x < 6 → U x = true → U0 x = true) ∧ (∀ x, x < 6 → U0 x = true → (ne x = true → dep x < r) → U x = true) ∧ (∀ x, x < k → x < 6 → dep x = r → U x = true → ne x = true → U0 (on x) = true ∧ (ne (on x) = true → dep (on x) < r)) ∧ (∀ x, x < 6 → U x = true → th x = true ∧ x ≠ b) ∧ (∀ x, x < 6 → th x = true → x ≠ b → U x = false → ne x = true ∧ U (on x) = false)
def JR (th ne : Nat → Bool) (on dep : Nat → Nat) (b r : Nat) (U : Nat → Bool) : Prop := (∀ x, x < 6 → U x = true → ne x = true → dep x < r → U (on x) = true) ∧ (∀ x, x < 6 → U x = true → th x = true ∧ x ≠ b) ∧ (∀ x, x < 6 → th x = true → x ≠ b → U x = false → ne x = true ∧ U (on x) = false)
theorem del_self {U : Nat → Bool} {b : Nat} : del U b b = false := by
  unfold del
  simp only [decide_true, Bool.not_true, Bool.and_false]
theorem del_ne {U : Nat → Bool} {b x : Nat} (h : x ≠ b) : del U b x = U x := by
  unfold del
  simp only [h, decide_false, Bool.not_false, Bool.and_true]
theorem del_le {U : Nat → Bool} {b x : Nat} (h : del U b x = true) : U x = true := by
  unfold del at h
  cases hu : U x
  · rw [hu] at h; simp only [Bool.false_and, Bool.false_eq_true] at h
  · rfl
theorem nf {x : Bool} (h : ¬ x = true) : x = false := by
  cases x
  · rfl
  · exact absurd rfl h
theorem lp_clear1 {b r : Nat} {y : Int32} {th ne : Nat → Bool} {on dep : Nat → Nat} {U0 : Nat → Bool} {μ0 u : qM} {e : qM → Option (Unit × qM)} {P : Unit → qM → Prop} (hn : NF th ne on dep) (hf : CF μ0 th ne on) (hu : ClC μ0 U0 u) (hj : JR th ne on dep b r U0) (K0 : ∀ U u', ClC μ0 U u' → JR th ne on dep b (r + 1) U → Ev (e u') P) : Ev (L_X10_clear_15 y q_fu 0 u e) P := by
  refine lpc (fun f x t => L_X10_clear_15 y f x t e) (fun k t => ∃ U, ClC μ0 U t ∧ JP th ne on dep b r U0 k U) 6 (by decide) u ⟨U0, hu, fun x _ h => h, fun x _ h _ => h, fun x h => absurd h (Nat.not_lt_zero _), hj.2.1, hj.2.2⟩ ?_ ?_
  · rintro f k w hk ⟨U, hU, j1, j2, j3, j4, j5⟩ K
    show Ev (L_X10_clear_15 y (f + 1) (nI k) w e) P
    have hU' := hU
    obtain ⟨a1, a2, a3, a4, a5⟩ := hU'
    have c1 := a3 k hk
    have c2 : w.1 2 k 11 = μ0.1 2 k 11 := a1 2 k 11 (by omega) (by omega) (by omega)
    have c3 : w.1 5 k 2 = μ0.1 5 k 2 := a1 5 k 2 (by omega) (by omega) (by omega)
    by_cases h1 : U k = true
    · rw [h1, if_pos rfl] at c1
      have ht := (j4 k hk h1).1
      by_cases h2 : ne k = true
      · have c4 : μ0.1 2 k 11 = nI 2 := (hf.2.1 k hk ht).mpr h2
        have c5 := hf.2.2 k hk ht h2
        obtain ⟨g1, g2, g3, g4, g5⟩ := hn k hk ht h2
        have c6 := a3 (on k) g1
        by_cases h3 : U (on k) = true
        · rw [h3, if_pos rfl] at c6
          simp (disch := first | omega | decide) only [Nat.reduceAdd, Nat.reduceMul, ↓ev_bd, ↓ev_ck, ↓ev_if, ↓ev_lt, ↓ev_jn, ↓ev_so, ↓reduceIte, ↓ev_within, ↓ev_isBoard, ↓ev_isNumber, ↓ev_foundN, ↓ev_found_1, ↓ev_found_2, ↓ev_found_3, ↓ev_found_4, ↓ev_found_5, true_and, and_true, and_self, eq_self, not_true_eq_false, not_false_eq_true, ite_true, ite_false, true_or, or_true, false_or, or_false, false_and, and_false, ← zi_ni_0, ← zi_ni_1, ← zi_ni_2, ← zi_ni_3, ← zi_ni_4, ← zi_ni_5, ← zi_ni_6, ← zi_ni_7, ← zi_ni_8, ← zi_ni_9, ← zi_ni_10, ← zi_ni_12, ← zi_ni_24, ← zi_ni_25, ← zi_ni_40, ← zi_ni_45, ← zi_ni_47, ← zi_ni_48, ← zi_ni_95, ← zi_ni_96, ← zi_ni_97, ← zi_ni_100, ← zi_ni_144, ← zi_ni_288, nI_ltI, nI_leI, nI_eqI, nlt_T, nlt_F, nle_T, nle_F, neq_T, neq_F, nI_add, pk_mul, nI_clamp, q_inT, ng_lt, ng_tl, ng_le, ng_el, ng_eq, ng_qe, q_b0, q_b1, nar_0, nar_1, b01, b01', q_bn0, q_bn1, nar_n0, nar_n1, si_k, si_i, si_s, si_e, si_2, sl_1, sl_22, sl_k, sl_i, sl_s, sl_e, sp_1, sp_21, sp_22, sc_k, sc_i, sc_e, sc_2, mF_k, mF_2, mF_0, ↓eu_L_X10_clear_15, ↓eu_X10_hasGround, c1, c2, c3, c4, c5, c6]
          refine K _ ⟨U, hU, j1, j2, fun x hx hx6 hd hux hnx => ?_, j4, j5⟩
          rcases Nat.lt_or_ge x k with q | q
          · exact j3 x q hx6 hd hux hnx
          · obtain rfl : x = k := by omega
            exact ⟨j1 _ g1 h3, fun hq => by omega⟩
        · rw [nf h3, if_neg (by decide)] at c6
          simp (disch := first | omega | decide) only [Nat.reduceAdd, Nat.reduceMul, ↓ev_bd, ↓ev_ck, ↓ev_if, ↓ev_lt, ↓ev_jn, ↓ev_so, ↓reduceIte, ↓ev_within, ↓ev_isBoard, ↓ev_isNumber, ↓ev_foundN, ↓ev_found_1, ↓ev_found_2, ↓ev_found_3, ↓ev_found_4, ↓ev_found_5, true_and, and_true, and_self, eq_self, not_true_eq_false, not_false_eq_true, ite_true, ite_false, true_or, or_true, false_or, or_false, false_and, and_false, ← zi_ni_0, ← zi_ni_1, ← zi_ni_2, ← zi_ni_3, ← zi_ni_4, ← zi_ni_5, ← zi_ni_6, ← zi_ni_7, ← zi_ni_8, ← zi_ni_9, ← zi_ni_10, ← zi_ni_12, ← zi_ni_24, ← zi_ni_25, ← zi_ni_40, ← zi_ni_45, ← zi_ni_47, ← zi_ni_48, ← zi_ni_95, ← zi_ni_96, ← zi_ni_97, ← zi_ni_100, ← zi_ni_144, ← zi_ni_288, nI_ltI, nI_leI, nI_eqI, nlt_T, nlt_F, nle_T, nle_F, neq_T, neq_F, nI_add, pk_mul, nI_clamp, q_inT, ng_lt, ng_tl, ng_le, ng_el, ng_eq, ng_qe, q_b0, q_b1, nar_0, nar_1, b01, b01', q_bn0, q_bn1, nar_n0, nar_n1, si_k, si_i, si_s, si_e, si_2, sl_1, sl_22, sl_k, sl_i, sl_s, sl_e, sp_1, sp_21, sp_22, sc_k, sc_i, sc_e, sc_2, mF_k, mF_2, mF_0, ↓eu_L_X10_clear_15, ↓eu_X10_hasGround, c1, c2, c3, c4, c5, c6]
          refine ev_remove hk hU (fun u' hu' => ?_)
          try simp (disch := first | omega | decide) only [Nat.reduceAdd, Nat.reduceMul, ↓ev_bd, ↓ev_ck, ↓ev_if, ↓ev_lt, ↓ev_jn, ↓ev_so, ↓reduceIte, ↓ev_within, ↓ev_isBoard, ↓ev_isNumber, ↓ev_foundN, ↓ev_found_1, ↓ev_found_2, ↓ev_found_3, ↓ev_found_4, ↓ev_found_5, true_and, and_true, and_self, eq_self, not_true_eq_false, not_false_eq_true, ite_true, ite_false, true_or, or_true, false_or, or_false, false_and, and_false, ← zi_ni_0, ← zi_ni_1, ← zi_ni_2, ← zi_ni_3, ← zi_ni_4, ← zi_ni_5, ← zi_ni_6, ← zi_ni_7, ← zi_ni_8, ← zi_ni_9, ← zi_ni_10, ← zi_ni_12, ← zi_ni_24, ← zi_ni_25, ← zi_ni_40, ← zi_ni_45, ← zi_ni_47, ← zi_ni_48, ← zi_ni_95, ← zi_ni_96, ← zi_ni_97, ← zi_ni_100, ← zi_ni_144, ← zi_ni_288, nI_ltI, nI_leI, nI_eqI, nlt_T, nlt_F, nle_T, nle_F, neq_T, neq_F, nI_add, pk_mul, nI_clamp, q_inT, ng_lt, ng_tl, ng_le, ng_el, ng_eq, ng_qe, q_b0, q_b1, nar_0, nar_1, b01, b01', q_bn0, q_bn1, nar_n0, nar_n1, si_k, si_i, si_s, si_e, si_2, sl_1, sl_22, sl_k, sl_i, sl_s, sl_e, sp_1, sp_21, sp_22, sc_k, sc_i, sc_e, sc_2, mF_k, mF_2, mF_0, ↓eu_L_X10_clear_15]
          refine K _ ⟨del U k, hu', fun x hx h => j1 x hx (del_le h), fun x hx h hq => ?_, fun x hx hx6 hd hux hnx => ?_, fun x hx h => j4 x hx (del_le h), fun x hx h1' h2' h3' => ?_⟩
          · by_cases q : x = k
            · subst q
              have h4 := hq h2
              have h5 : U0 (on x) = true := hj.1 x hx (j1 x hx h1) h2 h4
              have h6 := j2 (on x) g1 h5 (fun _ => by omega)
              exact absurd h6 h3
            · rw [del_ne q]
              exact j2 x hx h hq
          · by_cases q : x = k
            · subst q
              rw [del_self] at hux
              cases hux
            · exact j3 x (by omega) hx6 hd (del_le hux) hnx
          · by_cases q : x = k
            · subst q
              exact ⟨h2, by rw [del_ne g2]; exact nf h3⟩
            · rw [del_ne q] at h3'
              obtain ⟨z1, z2⟩ := j5 x hx h1' h2' h3'
              refine ⟨z1, nf (fun z => ?_)⟩
              rw [del_le z] at z2
              cases z2
      · have c4 : ¬ μ0.1 2 k 11 = nI 2 := fun q => h2 ((hf.2.1 k hk ht).mp q)
        simp (disch := first | omega | decide) only [Nat.reduceAdd, Nat.reduceMul, ↓ev_bd, ↓ev_ck, ↓ev_if, ↓ev_lt, ↓ev_jn, ↓ev_so, ↓reduceIte, ↓ev_within, ↓ev_isBoard, ↓ev_isNumber, ↓ev_foundN, ↓ev_found_1, ↓ev_found_2, ↓ev_found_3, ↓ev_found_4, ↓ev_found_5, true_and, and_true, and_self, eq_self, not_true_eq_false, not_false_eq_true, ite_true, ite_false, true_or, or_true, false_or, or_false, false_and, and_false, ← zi_ni_0, ← zi_ni_1, ← zi_ni_2, ← zi_ni_3, ← zi_ni_4, ← zi_ni_5, ← zi_ni_6, ← zi_ni_7, ← zi_ni_8, ← zi_ni_9, ← zi_ni_10, ← zi_ni_12, ← zi_ni_24, ← zi_ni_25, ← zi_ni_40, ← zi_ni_45, ← zi_ni_47, ← zi_ni_48, ← zi_ni_95, ← zi_ni_96, ← zi_ni_97, ← zi_ni_100, ← zi_ni_144, ← zi_ni_288, nI_ltI, nI_leI, nI_eqI, nlt_T, nlt_F, nle_T, nle_F, neq_T, neq_F, nI_add, pk_mul, nI_clamp, q_inT, ng_lt, ng_tl, ng_le, ng_el, ng_eq, ng_qe, q_b0, q_b1, nar_0, nar_1, b01, b01', q_bn0, q_bn1, nar_n0, nar_n1, si_k, si_i, si_s, si_e, si_2, sl_1, sl_22, sl_k, sl_i, sl_s, sl_e, sp_1, sp_21, sp_22, sc_k, sc_i, sc_e, sc_2, mF_k, mF_2, mF_0, ↓eu_L_X10_clear_15, c1, c2, c4]
        refine K _ ⟨U, hU, j1, j2, fun x hx hx6 hd hux hnx => ?_, j4, j5⟩
        rcases Nat.lt_or_ge x k with q | q
        · exact j3 x q hx6 hd hux hnx
        · obtain rfl : x = k := by omega
          exact absurd hnx h2
    · rw [nf h1, if_neg (by decide)] at c1
      simp (disch := first | omega | decide) only [Nat.reduceAdd, Nat.reduceMul, ↓ev_bd, ↓ev_ck, ↓ev_if, ↓ev_lt, ↓ev_jn, ↓ev_so, ↓reduceIte, ↓ev_within, ↓ev_isBoard, ↓ev_isNumber, ↓ev_foundN, ↓ev_found_1, ↓ev_found_2, ↓ev_found_3, ↓ev_found_4, ↓ev_found_5, true_and, and_true, and_self, eq_self, not_true_eq_false, not_false_eq_true, ite_true, ite_false, true_or, or_true, false_or, or_false, false_and, and_false, ← zi_ni_0, ← zi_ni_1, ← zi_ni_2, ← zi_ni_3, ← zi_ni_4, ← zi_ni_5, ← zi_ni_6, ← zi_ni_7, ← zi_ni_8, ← zi_ni_9, ← zi_ni_10, ← zi_ni_12, ← zi_ni_24, ← zi_ni_25, ← zi_ni_40, ← zi_ni_45, ← zi_ni_47, ← zi_ni_48, ← zi_ni_95, ← zi_ni_96, ← zi_ni_97, ← zi_ni_100, ← zi_ni_144, ← zi_ni_288, nI_ltI, nI_leI, nI_eqI, nlt_T, nlt_F, nle_T, nle_F, neq_T, neq_F, nI_add, pk_mul, nI_clamp, q_inT, ng_lt, ng_tl, ng_le, ng_el, ng_eq, ng_qe, q_b0, q_b1, nar_0, nar_1, b01, b01', q_bn0, q_bn1, nar_n0, nar_n1, si_k, si_i, si_s, si_e, si_2, sl_1, sl_22, sl_k, sl_i, sl_s, sl_e, sp_1, sp_21, sp_22, sc_k, sc_i, sc_e, sc_2, mF_k, mF_2, mF_0, ↓eu_L_X10_clear_15, c1]
      refine K _ ⟨U, hU, j1, j2, fun x hx hx6 hd hux hnx => ?_, j4, j5⟩
      rcases Nat.lt_or_ge x k with q | q
      · exact j3 x q hx6 hd hux hnx
      · obtain rfl : x = k := by omega
        exact absurd hux h1
  · rintro f w ⟨U, hU, j1, j2, j3, j4, j5⟩
    show Ev (L_X10_clear_15 y (f + 1) (nI 6) w e) P
    simp (disch := first | omega | decide) only [Nat.reduceAdd, Nat.reduceMul, ↓ev_bd, ↓ev_ck, ↓ev_if, ↓ev_lt, ↓ev_jn, ↓ev_so, ↓reduceIte, ↓ev_within, ↓ev_isBoard, ↓ev_isNumber, ↓ev_foundN, ↓ev_found_1, ↓ev_found_2, ↓ev_found_3, ↓ev_found_4, ↓ev_found_5, true_and, and_true, and_self, eq_self, not_true_eq_false, not_false_eq_true, ite_true, ite_false, true_or, or_true, false_or, or_false, false_and, and_false, ← zi_ni_0, ← zi_ni_1, ← zi_ni_2, ← zi_ni_3, ← zi_ni_4, ← zi_ni_5, ← zi_ni_6, ← zi_ni_7, ← zi_ni_8, ← zi_ni_9, ← zi_ni_10, ← zi_ni_12, ← zi_ni_24, ← zi_ni_25, ← zi_ni_40, ← zi_ni_45, ← zi_ni_47, ← zi_ni_48, ← zi_ni_95, ← zi_ni_96, ← zi_ni_97, ← zi_ni_100, ← zi_ni_144, ← zi_ni_288, nI_ltI, nI_leI, nI_eqI, nlt_T, nlt_F, nle_T, nle_F, neq_T, neq_F, nI_add, pk_mul, nI_clamp, q_inT, ng_lt, ng_tl, ng_le, ng_el, ng_eq, ng_qe, q_b0, q_b1, nar_0, nar_1, b01, b01', q_bn0, q_bn1, nar_n0, nar_n1, si_k, si_i, si_s, si_e, si_2, sl_1, sl_22, sl_k, sl_i, sl_s, sl_e, sp_1, sp_21, sp_22, sc_k, sc_i, sc_e, sc_2, mF_k, mF_2, mF_0, ↓eu_L_X10_clear_15]
    refine K0 U _ hU ⟨fun x hx h1 h2 h3 => ?_, j4, j5⟩
    obtain ⟨g1, g2, g3, g4, g5⟩ := hn x hx (j4 x hx h1).1 h2
    rcases Nat.lt_or_ge (dep x) r with q | q
    · exact j2 _ g1 (hj.1 x hx (j1 x hx h1) h2 q) (fun _ => by omega)
    · have := j3 x (by omega) hx (by omega) h1 h2
      exact j2 _ g1 this.1 this.2

/-- the class: b goes with all that is in it -/
theorem ev_clear {b : Nat} {th ne : Nat → Bool} {on dep : Nat → Nat} {u : qM} {P : Unit → qM → Prop} (hb : b < 6) (hn : NF th ne on dep) (hf : CF u th ne on) (hB : ∀ k, k < 8 → bo th (u.1 8 k 0) = u.1 8 k 0) (hG : ∀ k, k < 8 → bo th (u.1 9 k 2) = u.1 9 k 2) (K : ∀ U u', EU th ne on b U → ClC u U u' → P () u') : Ev (f_X10_clear (nI b) u) P := by
  have h0 : ClC u th u := ⟨fun _ _ _ _ _ _ => rfl, rfl, hf.1, fun k hk => (hB k hk).symm, fun k hk => (hG k hk).symm⟩
  simp (disch := first | omega | decide) only [Nat.reduceAdd, Nat.reduceMul, ↓ev_bd, ↓ev_ck, ↓ev_if, ↓ev_lt, ↓ev_jn, ↓ev_so, ↓reduceIte, ↓ev_within, ↓ev_isBoard, ↓ev_isNumber, ↓ev_foundN, ↓ev_found_1, ↓ev_found_2, ↓ev_found_3, ↓ev_found_4, ↓ev_found_5, true_and, and_true, and_self, eq_self, not_true_eq_false, not_false_eq_true, ite_true, ite_false, true_or, or_true, false_or, or_false, false_and, and_false, ← zi_ni_0, ← zi_ni_1, ← zi_ni_2, ← zi_ni_3, ← zi_ni_4, ← zi_ni_5, ← zi_ni_6, ← zi_ni_7, ← zi_ni_8, ← zi_ni_9, ← zi_ni_10, ← zi_ni_12, ← zi_ni_24, ← zi_ni_25, ← zi_ni_40, ← zi_ni_45, ← zi_ni_47, ← zi_ni_48, ← zi_ni_95, ← zi_ni_96, ← zi_ni_97, ← zi_ni_100, ← zi_ni_144, ← zi_ni_288, nI_ltI, nI_leI, nI_eqI, nlt_T, nlt_F, nle_T, nle_F, neq_T, neq_F, nI_add, pk_mul, nI_clamp, q_inT, ng_lt, ng_tl, ng_le, ng_el, ng_eq, ng_qe, q_b0, q_b1, nar_0, nar_1, b01, b01', q_bn0, q_bn1, nar_n0, nar_n1, si_k, si_i, si_s, si_e, si_2, sl_1, sl_22, sl_k, sl_i, sl_s, sl_e, sp_1, sp_21, sp_22, sc_k, sc_i, sc_e, sc_2, mF_k, mF_2, mF_0, ↓eu_X10_clear]
  refine ev_remove hb h0 (fun u1 h1 => ?_)
  try simp (disch := first | omega | decide) only [Nat.reduceAdd, Nat.reduceMul, ↓ev_bd, ↓ev_ck, ↓ev_if, ↓ev_lt, ↓ev_jn, ↓ev_so, ↓reduceIte, ↓ev_within, ↓ev_isBoard, ↓ev_isNumber, ↓ev_foundN, ↓ev_found_1, ↓ev_found_2, ↓ev_found_3, ↓ev_found_4, ↓ev_found_5, true_and, and_true, and_self, eq_self, not_true_eq_false, not_false_eq_true, ite_true, ite_false, true_or, or_true, false_or, or_false, false_and, and_false, ← zi_ni_0, ← zi_ni_1, ← zi_ni_2, ← zi_ni_3, ← zi_ni_4, ← zi_ni_5, ← zi_ni_6, ← zi_ni_7, ← zi_ni_8, ← zi_ni_9, ← zi_ni_10, ← zi_ni_12, ← zi_ni_24, ← zi_ni_25, ← zi_ni_40, ← zi_ni_45, ← zi_ni_47, ← zi_ni_48, ← zi_ni_95, ← zi_ni_96, ← zi_ni_97, ← zi_ni_100, ← zi_ni_144, ← zi_ni_288, nI_ltI, nI_leI, nI_eqI, nlt_T, nlt_F, nle_T, nle_F, neq_T, neq_F, nI_add, pk_mul, nI_clamp, q_inT, ng_lt, ng_tl, ng_le, ng_el, ng_eq, ng_qe, q_b0, q_b1, nar_0, nar_1, b01, b01', q_bn0, q_bn1, nar_n0, nar_n1, si_k, si_i, si_s, si_e, si_2, sl_1, sl_22, sl_k, sl_i, sl_s, sl_e, sp_1, sp_21, sp_22, sc_k, sc_i, sc_e, sc_2, mF_k, mF_2, mF_0, ↓eu_L_X10_clear_7]
  refine lpc (fun f x t => L_X10_clear_7 f x t (fun u8 => some ((), u8))) (fun r t => ∃ U, ClC u U t ∧ JR th ne on dep b r U) 6 (by decide) u1 ⟨_, h1, fun x hx h2 h3 h4 => absurd h4 (Nat.not_lt_zero _), fun x hx h => ?_, fun x hx h2 h3 h4 => ?_⟩ ?_ ?_
  · refine ⟨del_le h, fun q => ?_⟩
    subst q
    rw [del_self] at h
    cases h
  · rw [del_ne h3, h2] at h4
    cases h4
  · rintro f r w hr ⟨U, hU, hJ⟩ K1
    show Ev (L_X10_clear_7 (f + 1) (nI r) w _) P
    simp (disch := first | omega | decide) only [Nat.reduceAdd, Nat.reduceMul, ↓ev_bd, ↓ev_ck, ↓ev_if, ↓ev_lt, ↓ev_jn, ↓ev_so, ↓reduceIte, ↓ev_within, ↓ev_isBoard, ↓ev_isNumber, ↓ev_foundN, ↓ev_found_1, ↓ev_found_2, ↓ev_found_3, ↓ev_found_4, ↓ev_found_5, true_and, and_true, and_self, eq_self, not_true_eq_false, not_false_eq_true, ite_true, ite_false, true_or, or_true, false_or, or_false, false_and, and_false, ← zi_ni_0, ← zi_ni_1, ← zi_ni_2, ← zi_ni_3, ← zi_ni_4, ← zi_ni_5, ← zi_ni_6, ← zi_ni_7, ← zi_ni_8, ← zi_ni_9, ← zi_ni_10, ← zi_ni_12, ← zi_ni_24, ← zi_ni_25, ← zi_ni_40, ← zi_ni_45, ← zi_ni_47, ← zi_ni_48, ← zi_ni_95, ← zi_ni_96, ← zi_ni_97, ← zi_ni_100, ← zi_ni_144, ← zi_ni_288, nI_ltI, nI_leI, nI_eqI, nlt_T, nlt_F, nle_T, nle_F, neq_T, neq_F, nI_add, pk_mul, nI_clamp, q_inT, ng_lt, ng_tl, ng_le, ng_el, ng_eq, ng_qe, q_b0, q_b1, nar_0, nar_1, b01, b01', q_bn0, q_bn1, nar_n0, nar_n1, si_k, si_i, si_s, si_e, si_2, sl_1, sl_22, sl_k, sl_i, sl_s, sl_e, sp_1, sp_21, sp_22, sc_k, sc_i, sc_e, sc_2, mF_k, mF_2, mF_0, ↓eu_L_X10_clear_7]
    refine lp_clear1 hn hf hU hJ (fun U' u' hU' hJ' => ?_)
    try simp (disch := first | omega | decide) only [Nat.reduceAdd, Nat.reduceMul, ↓ev_bd, ↓ev_ck, ↓ev_if, ↓ev_lt, ↓ev_jn, ↓ev_so, ↓reduceIte, ↓ev_within, ↓ev_isBoard, ↓ev_isNumber, ↓ev_foundN, ↓ev_found_1, ↓ev_found_2, ↓ev_found_3, ↓ev_found_4, ↓ev_found_5, true_and, and_true, and_self, eq_self, not_true_eq_false, not_false_eq_true, ite_true, ite_false, true_or, or_true, false_or, or_false, false_and, and_false, ← zi_ni_0, ← zi_ni_1, ← zi_ni_2, ← zi_ni_3, ← zi_ni_4, ← zi_ni_5, ← zi_ni_6, ← zi_ni_7, ← zi_ni_8, ← zi_ni_9, ← zi_ni_10, ← zi_ni_12, ← zi_ni_24, ← zi_ni_25, ← zi_ni_40, ← zi_ni_45, ← zi_ni_47, ← zi_ni_48, ← zi_ni_95, ← zi_ni_96, ← zi_ni_97, ← zi_ni_100, ← zi_ni_144, ← zi_ni_288, nI_ltI, nI_leI, nI_eqI, nlt_T, nlt_F, nle_T, nle_F, neq_T, neq_F, nI_add, pk_mul, nI_clamp, q_inT, ng_lt, ng_tl, ng_le, ng_el, ng_eq, ng_qe, q_b0, q_b1, nar_0, nar_1, b01, b01', q_bn0, q_bn1, nar_n0, nar_n1, si_k, si_i, si_s, si_e, si_2, sl_1, sl_22, sl_k, sl_i, sl_s, sl_e, sp_1, sp_21, sp_22, sc_k, sc_i, sc_e, sc_2, mF_k, mF_2, mF_0, ↓eu_L_X10_clear_7]
    exact K1 _ ⟨U', hU', hJ'⟩
  · rintro f w ⟨U, hU, j1, j2, j3⟩
    show Ev (L_X10_clear_7 (f + 1) (nI 6) w _) P
    simp (disch := first | omega | decide) only [Nat.reduceAdd, Nat.reduceMul, ↓ev_bd, ↓ev_ck, ↓ev_if, ↓ev_lt, ↓ev_jn, ↓ev_so, ↓reduceIte, ↓ev_within, ↓ev_isBoard, ↓ev_isNumber, ↓ev_foundN, ↓ev_found_1, ↓ev_found_2, ↓ev_found_3, ↓ev_found_4, ↓ev_found_5, true_and, and_true, and_self, eq_self, not_true_eq_false, not_false_eq_true, ite_true, ite_false, true_or, or_true, false_or, or_false, false_and, and_false, ← zi_ni_0, ← zi_ni_1, ← zi_ni_2, ← zi_ni_3, ← zi_ni_4, ← zi_ni_5, ← zi_ni_6, ← zi_ni_7, ← zi_ni_8, ← zi_ni_9, ← zi_ni_10, ← zi_ni_12, ← zi_ni_24, ← zi_ni_25, ← zi_ni_40, ← zi_ni_45, ← zi_ni_47, ← zi_ni_48, ← zi_ni_95, ← zi_ni_96, ← zi_ni_97, ← zi_ni_100, ← zi_ni_144, ← zi_ni_288, nI_ltI, nI_leI, nI_eqI, nlt_T, nlt_F, nle_T, nle_F, neq_T, neq_F, nI_add, pk_mul, nI_clamp, q_inT, ng_lt, ng_tl, ng_le, ng_el, ng_eq, ng_qe, q_b0, q_b1, nar_0, nar_1, b01, b01', q_bn0, q_bn1, nar_n0, nar_n1, si_k, si_i, si_s, si_e, si_2, sl_1, sl_22, sl_k, sl_i, sl_s, sl_e, sp_1, sp_21, sp_22, sc_k, sc_i, sc_e, sc_2, mF_k, mF_2, mF_0, ↓eu_L_X10_clear_7]
    refine K U _ (fun x hx => ⟨fun h => ⟨(j2 x hx h).1, (j2 x hx h).2, fun hq => j1 x hx h hq (hn x hx (j2 x hx h).1 hq).2.2.2.2⟩, fun h => ?_⟩) hU
    cases hux : U x
    · obtain ⟨z1, z2⟩ := j3 x hx h.1 h.2.1 hux
      rw [h.2.2 z1] at z2
      cases z2
    · rfl


