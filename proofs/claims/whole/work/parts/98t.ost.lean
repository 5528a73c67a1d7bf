/-! alarm: the sum of the weights. -/
theorem lp_allW {m : Nat} {u : qM} {e1 : Int32 → qM → Option (Int32 × qM)} {P : Int32 → qM → Prop} (hm : m ≤ 8) (e14 : u.1 0 0 14 = nI m) (K : Ev (e1 (asum (u.1 34 0) m) u) P) : ∀ k i F, i + k = m → k < F → Ev (L_X10_allWeights_4 F (asum (u.1 34 0) i) (nI i) u e1) P := by
  intro k
  induction k with
  | zero =>
    intro i F hi hF
    obtain ⟨F, rfl⟩ : ∃ F', F = F' + 1 := ⟨F - 1, by omega⟩
    obtain rfl : i = m := by omega
    refine eu_L_X10_allWeights_4.mpr ?_
    simp (disch := first | omega | decide) only [Nat.reduceAdd, Nat.reduceMul, ↓ev_bd, ↓ev_ck, ↓ev_if, ↓ev_lt, ↓ev_jn, ↓ev_so, ↓reduceIte, ↓ev_within, ↓ev_in, ↓ev_isBoard, ↓ev_isGauge, ↓ev_isNumber, ↓ev_isSix, ↓ev_isEight, ↓ev_foundN, ↓ev_meetsN, ↓ev_found_1, ↓ev_meets_1, ↓ev_found_2, ↓ev_meets_2, ↓ev_found_3, ↓ev_meets_3, ↓ev_found_4, ↓ev_meets_4, ↓ev_found_5, ↓ev_meets_5, true_and, and_true, and_self, eq_self, not_true_eq_false, not_false_eq_true, ite_true, ite_false, true_or, or_true, false_or, or_false, false_and, and_false, ← zi_ni_0, ← zi_ni_1, ← zi_ni_2, ← zi_ni_3, ← zi_ni_4, ← zi_ni_5, ← zi_ni_6, ← zi_ni_7, ← zi_ni_8, ← zi_ni_9, ← zi_ni_10, ← zi_ni_12, ← zi_ni_24, ← zi_ni_25, ← zi_ni_40, ← zi_ni_45, ← zi_ni_47, ← zi_ni_48, ← zi_ni_95, ← zi_ni_96, ← zi_ni_97, ← zi_ni_100, ← zi_ni_144, ← zi_ni_288, nI_ltI, nI_leI, nI_eqI, nlt_T, nlt_F, nle_T, nle_F, neq_T, neq_F, nI_add, pk_mul, nI_clamp, q_inT, ng_lt, ng_tl, ng_le, ng_el, ng_eq, ng_qe, q_b0, q_b1, nar_0, nar_1, b01, b01', q_bn0, q_bn1, nar_n0, nar_n1, si_k, si_i, si_s, si_e, si_2, sl_1, sl_22, sl_k, sl_i, sl_s, sl_e, sp_1, sp_21, sp_22, sc_k, sc_i, sc_e, sc_2, mF_k, mM_k, mF_2, mM_2, mF_0, mM_11, e14]
    exact K
  | succ k ih =>
    intro i F hi hF
    obtain ⟨F, rfl⟩ : ∃ F', F = F' + 1 := ⟨F - 1, by omega⟩
    have IH := ih (i + 1) F (by omega) (by omega)
    refine eu_L_X10_allWeights_4.mpr ?_
    simp (disch := first | omega | decide) only [Nat.reduceAdd, Nat.reduceMul, ↓ev_bd, ↓ev_ck, ↓ev_if, ↓ev_lt, ↓ev_jn, ↓ev_so, ↓reduceIte, ↓ev_within, ↓ev_in, ↓ev_isBoard, ↓ev_isGauge, ↓ev_isNumber, ↓ev_isSix, ↓ev_isEight, ↓ev_foundN, ↓ev_meetsN, ↓ev_found_1, ↓ev_meets_1, ↓ev_found_2, ↓ev_meets_2, ↓ev_found_3, ↓ev_meets_3, ↓ev_found_4, ↓ev_meets_4, ↓ev_found_5, ↓ev_meets_5, true_and, and_true, and_self, eq_self, not_true_eq_false, not_false_eq_true, ite_true, ite_false, true_or, or_true, false_or, or_false, false_and, and_false, ← zi_ni_0, ← zi_ni_1, ← zi_ni_2, ← zi_ni_3, ← zi_ni_4, ← zi_ni_5, ← zi_ni_6, ← zi_ni_7, ← zi_ni_8, ← zi_ni_9, ← zi_ni_10, ← zi_ni_12, ← zi_ni_24, ← zi_ni_25, ← zi_ni_40, ← zi_ni_45, ← zi_ni_47, ← zi_ni_48, ← zi_ni_95, ← zi_ni_96, ← zi_ni_97, ← zi_ni_100, ← zi_ni_144, ← zi_ni_288, nI_ltI, nI_leI, nI_eqI, nlt_T, nlt_F, nle_T, nle_F, neq_T, neq_F, nI_add, pk_mul, nI_clamp, q_inT, ng_lt, ng_tl, ng_le, ng_el, ng_eq, ng_qe, q_b0, q_b1, nar_0, nar_1, b01, b01', q_bn0, q_bn1, nar_n0, nar_n1, si_k, si_i, si_s, si_e, si_2, sl_1, sl_22, sl_k, sl_i, sl_s, sl_e, sp_1, sp_21, sp_22, sc_k, sc_i, sc_e, sc_2, mF_k, mM_k, mF_2, mM_2, mF_0, mM_11, e14]
    exact IH
theorem Rel.w7 {n : Nat} {μ : qM} (h : Rel n μ) : ∃ m, WT7 μ m ∧ WM7 μ μ m := by
  obtain ⟨m, hm, e1, e2, h7⟩ := h.2.2.2.2.2.2.2.1
  refine ⟨m, ⟨hm, e1, fun k hk => ?_⟩, ⟨hm, e2, fun k hk => ?_⟩⟩
  · obtain ⟨L, a1, a2, a3, a4, a5, wt, a6, a7, a8⟩ := h7 k hk
    exact ⟨L, a1, a2, a5, wt, a6, a7⟩
  · obtain ⟨L, a1, a2, a3, a4, a5, wt, a6, a7, a8⟩ := h7 k hk
    exact ⟨L, a1, a2, a5, a3, a4, wt, a6, a7, a8⟩
theorem asum_N {f : Nat → Int32} : ∀ m, m ≤ 8 → (∀ k, k < m → ∃ wt, wt ≤ 99 ∧ f k = nI wt) → ∃ S, S ≤ 99 * m ∧ asum f m = nI S
  | 0, _, _ => ⟨0, by omega, rfl⟩
  | m + 1, hm, h => by
    obtain ⟨S, h1, h2⟩ := asum_N m (by omega) (fun k hk => h k (by omega))
    obtain ⟨wt, h3, h4⟩ := h m (by omega)
    exact ⟨S + wt, by omega, by rw [asum, h2, h4, nI_add]⟩
theorem aws_N {T : qB → Option Int32} {q : Nat} {y : Int32} {μ : qM} {v : qB} : ∀ m, m ≤ 8 → (∀ k, k < m → ∃ wt, wt ≤ 99 ∧ μ.1 34 0 k = nI wt) → ∃ S, S ≤ 99 * m ∧ aws T q y μ v m = nI S
  | 0, _, _ => ⟨0, by omega, rfl⟩
  | m + 1, hm, h => by
    obtain ⟨S, h1, h2⟩ := aws_N m (by omega) (fun k hk => h k (by omega))
    obtain ⟨wt, h3, h4⟩ := h m (by omega)
    by_cases z : alL T q y (wIt μ m) v = true
    · exact ⟨S + wt, by omega, by rw [aws_y z, h2, h4, nI_add]⟩
    · exact ⟨S, by omega, by rw [aws_n z, h2]⟩
