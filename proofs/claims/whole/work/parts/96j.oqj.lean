/-! up, the call. -/
theorem ev_vV {α : Type} {X : Int32} {u : qM} {g : Int32 → qM → Option (α × qM)} {P : α → qM → Prop} (K : Ev (g (vV X) u) P) : Ev (q_jn g (fun j1 => if (0 : Int32) ≤ X then if (X / 4) ≤ 100000 then j1 (X / 4) u else j1 100000 u else j1 0 u)) P := by
  refine (show Ev (if (0 : Int32) ≤ X then if (X / 4) ≤ 100000 then g (X / 4) u else g 100000 u else g 0 u) P from ?_)
  unfold vV at K
  by_cases h : (0 : Int32) ≤ X
  · rw [if_pos (show nI 0 ≤ X from h)] at K
    rw [if_pos h]
    by_cases h2 : (X / 4) ≤ 100000
    · rw [if_pos (show X / nI 4 ≤ 100000 from h2)] at K
      rw [if_pos h2]
      exact K
    · rw [if_neg (show ¬ X / nI 4 ≤ 100000 from h2)] at K
      rw [if_neg h2]
      exact K
  · rw [if_neg (show ¬ nI 0 ≤ X from h)] at K
    rw [if_neg h]
    exact K
def UF (c : qM) (b d wd hg x y W : Nat) : Prop := c.1 2 b 10 = nI 1 ∧ c.1 2 b 11 = nI 2 ∧ c.1 2 b 12 = nI (2 * wd) ∧ c.1 2 b 13 = nI (2 * hg) ∧ c.1 2 d 12 = nI W ∧ c.1 5 b 3 = nI x ∧ c.1 5 b 4 = nI y
def UG (m : qM) (b d wd hg x y W : Nat) : Prop := m.1 75 0 b = nI (2 * wd) ∧ m.1 76 0 b = nI (2 * hg) ∧ m.1 75 0 d = nI W ∧ m.1 97 0 b = nI x ∧ m.1 98 0 b = nI y ∧ m.1 96 0 b = nI d
theorem Rel.carry {n b wd hg k : Nat} {μ : qM} (h : Rel n μ) (hb : b < 6) (hw : wd ≤ 4) (hg3 : hg ≤ 3) (e1 : μ.1 2 b 10 = nI 1) (e2 : μ.1 2 b 11 = nI 2) (e3 : μ.1 2 b 12 = nI (2 * wd)) (e4 : μ.1 2 b 13 = nI (2 * hg)) (hk : k < wd * hg) : μ.1 99 0 (48 * b + k) = μ.1 45 b k ∧ μ.1 100 0 (48 * b + k) = μ.1 46 b k := by
  obtain ⟨-, a2⟩ := h.2.2.2.1 b hb
  rcases a2 with ⟨z, -⟩ | ⟨-, -, -, b4⟩
  · rw [e1] at z
    exact absurd z (by decide)
  · obtain ⟨d, x', y, wd', hg', q1, q2, q3, q4, q5, q6, q7, q8, q9, q10, q11, q12, q13, q14, q15, q16, q17, q18⟩ := b4 e2
    have z1 : nW (cB μ b) = 2 * wd := by
      show (μ.1 2 b 12).toNatClampNeg = _
      rw [e3]; exact nI_clamp (by omega)
    have z2 : nH (cB μ b) = 2 * hg := by
      show (μ.1 2 b 13).toNatClampNeg = _
      rw [e4]; exact nI_clamp (by omega)
    obtain rfl : wd' = wd := by omega
    obtain rfl : hg' = hg := by omega
    exact ⟨(q18 k hk).1, (q18 k hk).2.1⟩
theorem Rel.wat {n x s : Nat} {μ : qM} (h : Rel n μ) (hx : x < 6) (hs : s < 48) : μ.1 92 0 (48 * x + s) = μ.1 38 x s := by
  have := congrFun ((h.2.2.2.1 x hx).1 2 (by decide)) s
  rwa [cR_2 hs, mR_2 hs] at this
theorem up_sim {n b d wd hg x y W H : Nat} (hb : b < 6) (hd : d < 6) (hbd : d ≠ b) (hw : 1 ≤ wd) (hw4 : wd ≤ 4) (hg3 : hg ≤ 3) (hx : x + wd ≤ W) (hy : y + hg ≤ H) (hWH : W * H ≤ 48) : ∀ j k (c m0 : qM) (r : Int32) (F : Nat) (P : Int32 → qM → Prop), k + j = wd * hg → j < F → Rel n (mix c m0) → UF c b d wd hg x y W → (∀ r' c', FC c c' → (∀ m, Rel n (mix c m) → UG m b d wd hg x y W → ∀ F' e' P', j < F' → (∀ m', FM m m' → Rel n (mix c' m') → Ev (e' r' m') P') → Ev (L_X11_up_17 (nI b) F' r (nI k) m e') P') → P r' c') → Ev (L_X0_giveUp_4 b d F r (nI k) c (fun x16 u11 => some (x16, u11))) P := by
  intro j
  have hN : wd * hg ≤ 12 := Nat.mul_le_mul hw4 hg3
  have hN4 : 2 * wd * (2 * hg) / 4 = wd * hg := by
    rw [show 2 * wd * (2 * hg) = 4 * (wd * hg) by rw [Nat.mul_mul_mul_comm]]
    omega
  have hN48 : 2 * wd * (2 * hg) ≤ 48 := by
    rw [show 2 * wd * (2 * hg) = 4 * (wd * hg) by rw [Nat.mul_mul_mul_comm]]
    omega
  induction j with
  | zero =>
    intro k c m0 r F P hk hF h hu K
    obtain ⟨F, rfl⟩ : ∃ F', F = F' + 1 := ⟨F - 1, by omega⟩
    obtain rfl : k = wd * hg := by omega
    obtain ⟨u1, u2, u3, u4, u5, u6, u7⟩ := hu
    simp (disch := first | omega | decide) only [Nat.reduceAdd, Nat.reduceMul, ↓ev_bd, ↓ev_ck, ↓ev_if, ↓ev_lt, ↓ev_jn, ↓ev_so, ↓reduceIte, ↓ev_within, ↓ev_in, ↓ev_isBoard, ↓ev_isGauge, ↓ev_isNumber, ↓ev_isSix, ↓ev_isEight, ↓ev_foundN, ↓ev_meetsN, ↓ev_found_1, ↓ev_meets_1, ↓ev_found_2, ↓ev_meets_2, ↓ev_found_3, ↓ev_meets_3, ↓ev_found_4, ↓ev_meets_4, ↓ev_found_5, ↓ev_meets_5, true_and, and_true, and_self, eq_self, not_true_eq_false, not_false_eq_true, ite_true, ite_false, true_or, or_true, false_or, or_false, false_and, and_false, ← zi_ni_0, ← zi_ni_1, ← zi_ni_2, ← zi_ni_3, ← zi_ni_4, ← zi_ni_5, ← zi_ni_6, ← zi_ni_7, ← zi_ni_8, ← zi_ni_9, ← zi_ni_10, ← zi_ni_12, ← zi_ni_24, ← zi_ni_25, ← zi_ni_40, ← zi_ni_45, ← zi_ni_47, ← zi_ni_48, ← zi_ni_95, ← zi_ni_96, ← zi_ni_97, ← zi_ni_100, ← zi_ni_144, ← zi_ni_288, nI_ltI, nI_leI, nI_eqI, nlt_T, nlt_F, nle_T, nle_F, neq_T, neq_F, nI_add, pk_mul, nI_clamp, q_inT, ng_lt, ng_tl, ng_le, ng_el, ng_eq, ng_qe, q_b0, q_b1, nar_0, nar_1, b01, b01', q_bn0, q_bn1, nar_n0, nar_n1, si_k, si_i, si_s, si_e, si_2, sl_1, sl_22, sl_k, sl_i, sl_s, sl_e, sp_1, sp_21, sp_22, sc_k, sc_i, sc_e, sc_2, mF_k, mM_k, mF_2, mM_2, mF_0, mM_11, ↓eu_L_X0_giveUp_4, ↓eu_X0_cells, u3, u4, pk_div, hN4]
    refine K _ _ FC.rf (fun m hm hg F' e' P' hF' K' => ?_)
    obtain ⟨F', rfl⟩ : ∃ F'', F' = F'' + 1 := ⟨F' - 1, by omega⟩
    obtain ⟨g1, g2, g3, g4, g5, g6⟩ := hg
    simp (disch := first | omega | decide) only [Nat.reduceAdd, Nat.reduceMul, ↓ev_bd, ↓ev_ck, ↓ev_if, ↓ev_lt, ↓ev_jn, ↓ev_so, ↓reduceIte, ↓ev_within, ↓ev_in, ↓ev_isBoard, ↓ev_isGauge, ↓ev_isNumber, ↓ev_isSix, ↓ev_isEight, ↓ev_foundN, ↓ev_meetsN, ↓ev_found_1, ↓ev_meets_1, ↓ev_found_2, ↓ev_meets_2, ↓ev_found_3, ↓ev_meets_3, ↓ev_found_4, ↓ev_meets_4, ↓ev_found_5, ↓ev_meets_5, true_and, and_true, and_self, eq_self, not_true_eq_false, not_false_eq_true, ite_true, ite_false, true_or, or_true, false_or, or_false, false_and, and_false, ← zi_ni_0, ← zi_ni_1, ← zi_ni_2, ← zi_ni_3, ← zi_ni_4, ← zi_ni_5, ← zi_ni_6, ← zi_ni_7, ← zi_ni_8, ← zi_ni_9, ← zi_ni_10, ← zi_ni_12, ← zi_ni_24, ← zi_ni_25, ← zi_ni_40, ← zi_ni_45, ← zi_ni_47, ← zi_ni_48, ← zi_ni_95, ← zi_ni_96, ← zi_ni_97, ← zi_ni_100, ← zi_ni_144, ← zi_ni_288, nI_ltI, nI_leI, nI_eqI, nlt_T, nlt_F, nle_T, nle_F, neq_T, neq_F, nI_add, pk_mul, nI_clamp, q_inT, ng_lt, ng_tl, ng_le, ng_el, ng_eq, ng_qe, q_b0, q_b1, nar_0, nar_1, b01, b01', q_bn0, q_bn1, nar_n0, nar_n1, si_k, si_i, si_s, si_e, si_2, sl_1, sl_22, sl_k, sl_i, sl_s, sl_e, sp_1, sp_21, sp_22, sc_k, sc_i, sc_e, sc_2, mF_k, mM_k, mF_2, mM_2, mF_0, mM_11, ↓eu_L_X11_up_17, ↓eu_X11_cells, g1, g2, pk_div, hN4]
    exact K' m FM.rf hm
  | succ j ih =>
    intro k c m0 r F P hk hF h hu K
    obtain ⟨F, rfl⟩ : ∃ F', F = F' + 1 := ⟨F - 1, by omega⟩
    have hu0 := hu
    obtain ⟨u1, u2, u3, u4, u5, u6, u7⟩ := hu
    have hk2 : k < 12 := by omega
    have hkN : k < wd * hg := by omega
    have hS : undN wd W x y k < 48 := Nat.lt_of_lt_of_le (undN_lt hw hkN hx hy) hWH
    have hund : ∀ P, Ev (f_X0_underCell b (nI k) d c) P ↔ P (nI (undN wd W x y k)) c := fun P => ev_undC hw hw4 hk2 u3 u5 u6 u7
    generalize hSd : undN wd W x y k = S at *
    simp (disch := first | omega | decide) only [Nat.reduceAdd, Nat.reduceMul, ↓ev_bd, ↓ev_ck, ↓ev_if, ↓ev_lt, ↓ev_jn, ↓ev_so, ↓reduceIte, ↓ev_within, ↓ev_in, ↓ev_isBoard, ↓ev_isGauge, ↓ev_isNumber, ↓ev_isSix, ↓ev_isEight, ↓ev_foundN, ↓ev_meetsN, ↓ev_found_1, ↓ev_meets_1, ↓ev_found_2, ↓ev_meets_2, ↓ev_found_3, ↓ev_meets_3, ↓ev_found_4, ↓ev_meets_4, ↓ev_found_5, ↓ev_meets_5, true_and, and_true, and_self, eq_self, not_true_eq_false, not_false_eq_true, ite_true, ite_false, true_or, or_true, false_or, or_false, false_and, and_false, ← zi_ni_0, ← zi_ni_1, ← zi_ni_2, ← zi_ni_3, ← zi_ni_4, ← zi_ni_5, ← zi_ni_6, ← zi_ni_7, ← zi_ni_8, ← zi_ni_9, ← zi_ni_10, ← zi_ni_12, ← zi_ni_24, ← zi_ni_25, ← zi_ni_40, ← zi_ni_45, ← zi_ni_47, ← zi_ni_48, ← zi_ni_95, ← zi_ni_96, ← zi_ni_97, ← zi_ni_100, ← zi_ni_144, ← zi_ni_288, nI_ltI, nI_leI, nI_eqI, nlt_T, nlt_F, nle_T, nle_F, neq_T, neq_F, nI_add, pk_mul, nI_clamp, q_inT, ng_lt, ng_tl, ng_le, ng_el, ng_eq, ng_qe, q_b0, q_b1, nar_0, nar_1, b01, b01', q_bn0, q_bn1, nar_n0, nar_n1, si_k, si_i, si_s, si_e, si_2, sl_1, sl_22, sl_k, sl_i, sl_s, sl_e, sp_1, sp_21, sp_22, sc_k, sc_i, sc_e, sc_2, mF_k, mM_k, mF_2, mM_2, mF_0, mM_11, ↓eu_L_X0_giveUp_4, ↓eu_X0_cells, ↓hund, u3, u4, pk_div, hN4]
    refine ev_sumC (hg := hg) hw hw4 hg3 hkN u3 ?_
    refine ev_bd.mpr (ev_fdiv (fun v hv => ?_))
    refine (show Ev (q_lt (cl v) _) P from ?_)
    rw [hv]
    have hV := vV_bd (c.1 46 b k + c.1 38 b (fineN wd k 0) + c.1 38 b (fineN wd k 1) + c.1 38 b (fineN wd k 2) + c.1 38 b (fineN wd k 3))
    generalize hX : c.1 46 b k + c.1 38 b (fineN wd k 0) + c.1 38 b (fineN wd k 1) + c.1 38 b (fineN wd k 2) + c.1 38 b (fineN wd k 3) = X at *
    generalize hVV : vV X = V at *
    simp (disch := first | omega | decide) only [Nat.reduceAdd, Nat.reduceMul, ↓ev_bd, ↓ev_ck, ↓ev_if, ↓ev_lt, ↓ev_jn, ↓ev_so, ↓reduceIte, ↓ev_within, ↓ev_in, ↓ev_isBoard, ↓ev_isGauge, ↓ev_isNumber, ↓ev_isSix, ↓ev_isEight, ↓ev_foundN, ↓ev_meetsN, ↓ev_found_1, ↓ev_meets_1, ↓ev_found_2, ↓ev_meets_2, ↓ev_found_3, ↓ev_meets_3, ↓ev_found_4, ↓ev_meets_4, ↓ev_found_5, ↓ev_meets_5, true_and, and_true, and_self, eq_self, not_true_eq_false, not_false_eq_true, ite_true, ite_false, true_or, or_true, false_or, or_false, false_and, and_false, ← zi_ni_0, ← zi_ni_1, ← zi_ni_2, ← zi_ni_3, ← zi_ni_4, ← zi_ni_5, ← zi_ni_6, ← zi_ni_7, ← zi_ni_8, ← zi_ni_9, ← zi_ni_10, ← zi_ni_12, ← zi_ni_24, ← zi_ni_25, ← zi_ni_40, ← zi_ni_45, ← zi_ni_47, ← zi_ni_48, ← zi_ni_95, ← zi_ni_96, ← zi_ni_97, ← zi_ni_100, ← zi_ni_144, ← zi_ni_288, nI_ltI, nI_leI, nI_eqI, nlt_T, nlt_F, nle_T, nle_F, neq_T, neq_F, nI_add, pk_mul, nI_clamp, q_inT, ng_lt, ng_tl, ng_le, ng_el, ng_eq, ng_qe, q_b0, q_b1, nar_0, nar_1, b01, b01', q_bn0, q_bn1, nar_n0, nar_n1, si_k, si_i, si_s, si_e, si_2, sl_1, sl_22, sl_k, sl_i, sl_s, sl_e, sp_1, sp_21, sp_22, sc_k, sc_i, sc_e, sc_2, mF_k, mM_k, mF_2, mM_2, mF_0, mM_11]
    have upd : ∀ m, Rel n (mix c m) → Rel n (mix (q_si (q_si (q_si c 38 d S V) 45 b k V) 46 b k (X - nI 4 * V)) (q_si (q_si (q_si m 92 0 (48 * d + S) V) 100 0 (48 * b + k) (X - nI 4 * V)) 99 0 (48 * b + k) V)) := fun m hm => by
      rw [mix_sm rfl, mix_sm rfl, mix_sm rfl, mix_sc rfl, mix_sc rfl, mix_sc rfl]
      refine Rel_WN (μ := mix c m) (fun a q1 q2 q3 q4 q5 q6 q7 => by rw [si_k q5, si_k q6, si_k q4, si_k q3, si_k q2, si_k q1]) rfl (fun x' s hx' hs => ?_) (fun x' k' hx' hk' => ?_) hm
      · rw [si_k (show (38 : Nat) ≠ 99 by decide), si_k (show (38 : Nat) ≠ 100 by decide), si_k (show (38 : Nat) ≠ 92 by decide), si_k (show (38 : Nat) ≠ 46 by decide), si_k (show (38 : Nat) ≠ 45 by decide), si_k (show (92 : Nat) ≠ 99 by decide), si_k (show (92 : Nat) ≠ 100 by decide)]
        by_cases q : x' = d ∧ s = S
        · rw [q.1, q.2, si_e, si_e]
          exact .inr ⟨rfl, hV⟩
        · refine .inl ⟨si_n (by omega), ?_⟩
          rw [si_n (by omega), si_k (by decide), si_k (by decide), si_k (by decide)]
      · rw [si_k (show (45 : Nat) ≠ 99 by decide), si_k (show (45 : Nat) ≠ 100 by decide), si_k (show (45 : Nat) ≠ 92 by decide), si_k (show (45 : Nat) ≠ 46 by decide), si_k (show (46 : Nat) ≠ 99 by decide), si_k (show (46 : Nat) ≠ 100 by decide), si_k (show (46 : Nat) ≠ 92 by decide), si_k (show (100 : Nat) ≠ 99 by decide)]
        by_cases q : x' = b ∧ k' = k
        · rw [q.1, q.2, si_e, si_e, si_e, si_e]
          exact .inr ⟨rfl, rfl, hV⟩
        · refine .inl ⟨?_, ?_, ?_, ?_⟩
          · rw [si_n (by omega), si_k (by decide)]
          · rw [si_n (by omega), si_k (by decide), si_k (by decide)]
          · rw [si_n (by omega), si_k (by decide), si_k (by decide), si_k (by decide), si_k (by decide), si_k (by decide)]
          · rw [si_n (by omega), si_k (by decide), si_k (by decide), si_k (by decide), si_k (by decide)]
    refine ih (k + 1) (q_si (q_si (q_si c 38 d S V) 45 b k V) 46 b k (X - nI 4 * V)) (q_si (q_si (q_si m0 92 0 (48 * d + S) V) 100 0 (48 * b + k) (X - nI 4 * V)) 99 0 (48 * b + k) V) _ F P (by omega) (by omega) (upd m0 h) ⟨u1, u2, u3, u4, u5, u6, u7⟩ (fun r' c' hfc hm2 => K r' c' (FC.tr (b := q_si (q_si (q_si c 38 d S V) 45 b k V) 46 b k (X - nI 4 * V)) ⟨fun a q => ?_, rfl⟩ hfc) (fun m hm hg' F' e' P' hF' K' => ?_))
    · have := isM_t q
      rw [si_k (by omega), si_k (by omega), si_k (by omega)]
    · obtain ⟨F', rfl⟩ : ∃ F'', F' = F'' + 1 := ⟨F' - 1, by omega⟩
      have hg0 := hg'
      obtain ⟨g1, g2, g3, g4, g5, g6⟩ := hg'
      have hw0 := fun s (q : s < 48) => hm.wat hb q
      have hwd := hm.wat hd hS
      have hca := (hm.carry (k := k) hb hw4 hg3 u1 u2 u3 u4 hkN).2
      simp (disch := first | omega | decide) only [Nat.reduceAdd, Nat.reduceMul, ↓ev_bd, ↓ev_ck, ↓ev_if, ↓ev_lt, ↓ev_jn, ↓ev_so, ↓reduceIte, ↓ev_within, ↓ev_in, ↓ev_isBoard, ↓ev_isGauge, ↓ev_isNumber, ↓ev_isSix, ↓ev_isEight, ↓ev_foundN, ↓ev_meetsN, ↓ev_found_1, ↓ev_meets_1, ↓ev_found_2, ↓ev_meets_2, ↓ev_found_3, ↓ev_meets_3, ↓ev_found_4, ↓ev_meets_4, ↓ev_found_5, ↓ev_meets_5, true_and, and_true, and_self, eq_self, not_true_eq_false, not_false_eq_true, ite_true, ite_false, true_or, or_true, false_or, or_false, false_and, and_false, ← zi_ni_0, ← zi_ni_1, ← zi_ni_2, ← zi_ni_3, ← zi_ni_4, ← zi_ni_5, ← zi_ni_6, ← zi_ni_7, ← zi_ni_8, ← zi_ni_9, ← zi_ni_10, ← zi_ni_12, ← zi_ni_24, ← zi_ni_25, ← zi_ni_40, ← zi_ni_45, ← zi_ni_47, ← zi_ni_48, ← zi_ni_95, ← zi_ni_96, ← zi_ni_97, ← zi_ni_100, ← zi_ni_144, ← zi_ni_288, nI_ltI, nI_leI, nI_eqI, nlt_T, nlt_F, nle_T, nle_F, neq_T, neq_F, nI_add, pk_mul, nI_clamp, q_inT, ng_lt, ng_tl, ng_le, ng_el, ng_eq, ng_qe, q_b0, q_b1, nar_0, nar_1, b01, b01', q_bn0, q_bn1, nar_n0, nar_n1, si_k, si_i, si_s, si_e, si_2, sl_1, sl_22, sl_k, sl_i, sl_s, sl_e, sp_1, sp_21, sp_22, sc_k, sc_i, sc_e, sc_2, mF_k, mM_k, mF_2, mM_2, mF_0, mM_11, ↓eu_L_X11_up_17, ↓eu_X11_cells, g1, g2, pk_div, hN4]
      refine ev_sumM (hg := hg) hb hw hw4 hg3 hkN g1 ?_
      have hlt : ∀ q, q < 4 → fineN wd k q < 48 := fun q hq => Nat.lt_of_lt_of_le (fineN_lt hw hkN hq) hN48
      have hXm : m.1 100 0 (48 * b + k) + m.1 92 0 (48 * b + fineN wd k 0) + m.1 92 0 (48 * b + fineN wd k 1) + m.1 92 0 (48 * b + fineN wd k 2) + m.1 92 0 (48 * b + fineN wd k 3) = X := by
        rw [← hX, show m.1 100 0 (48 * b + k) = c.1 46 b k from hca, show m.1 92 0 (48 * b + fineN wd k 0) = c.1 38 b (fineN wd k 0) from hw0 _ (hlt 0 (by decide)), show m.1 92 0 (48 * b + fineN wd k 1) = c.1 38 b (fineN wd k 1) from hw0 _ (hlt 1 (by decide)), show m.1 92 0 (48 * b + fineN wd k 2) = c.1 38 b (fineN wd k 2) from hw0 _ (hlt 2 (by decide)), show m.1 92 0 (48 * b + fineN wd k 3) = c.1 38 b (fineN wd k 3) from hw0 _ (hlt 3 (by decide))]
      rw [hXm]
      refine (show Ev (q_jn _ _) P' from ev_vV ?_)
      rw [hVV]
      have hundM : ∀ P, Ev (f_X11_beneath (nI b) (nI k) m) P ↔ P (nI S) m := fun P => by
        rw [← hSd]
        exact ev_undM hb hd hw hw4 hk2 g1 g3 g4 g5 g6
      simp (disch := first | omega | decide) only [Nat.reduceAdd, Nat.reduceMul, ↓ev_bd, ↓ev_ck, ↓ev_if, ↓ev_lt, ↓ev_jn, ↓ev_so, ↓reduceIte, ↓ev_within, ↓ev_in, ↓ev_isBoard, ↓ev_isGauge, ↓ev_isNumber, ↓ev_isSix, ↓ev_isEight, ↓ev_foundN, ↓ev_meetsN, ↓ev_found_1, ↓ev_meets_1, ↓ev_found_2, ↓ev_meets_2, ↓ev_found_3, ↓ev_meets_3, ↓ev_found_4, ↓ev_meets_4, ↓ev_found_5, ↓ev_meets_5, true_and, and_true, and_self, eq_self, not_true_eq_false, not_false_eq_true, ite_true, ite_false, true_or, or_true, false_or, or_false, false_and, and_false, ← zi_ni_0, ← zi_ni_1, ← zi_ni_2, ← zi_ni_3, ← zi_ni_4, ← zi_ni_5, ← zi_ni_6, ← zi_ni_7, ← zi_ni_8, ← zi_ni_9, ← zi_ni_10, ← zi_ni_12, ← zi_ni_24, ← zi_ni_25, ← zi_ni_40, ← zi_ni_45, ← zi_ni_47, ← zi_ni_48, ← zi_ni_95, ← zi_ni_96, ← zi_ni_97, ← zi_ni_100, ← zi_ni_144, ← zi_ni_288, nI_ltI, nI_leI, nI_eqI, nlt_T, nlt_F, nle_T, nle_F, neq_T, neq_F, nI_add, pk_mul, nI_clamp, q_inT, ng_lt, ng_tl, ng_le, ng_el, ng_eq, ng_qe, q_b0, q_b1, nar_0, nar_1, b01, b01', q_bn0, q_bn1, nar_n0, nar_n1, si_k, si_i, si_s, si_e, si_2, sl_1, sl_22, sl_k, sl_i, sl_s, sl_e, sp_1, sp_21, sp_22, sc_k, sc_i, sc_e, sc_2, mF_k, mM_k, mF_2, mM_2, mF_0, mM_11, ↓hundM, g6]
      rw [show m.1 92 0 (48 * d + S) = c.1 38 d S from hwd]
      refine hm2 (q_si (q_si (q_si m 92 0 (48 * d + S) V) 100 0 (48 * b + k) (X - nI 4 * V)) 99 0 (48 * b + k) V) (upd m hm) ⟨g1, g2, g3, g4, g5, g6⟩ F' e' P' (by omega) (fun m' hfm hr => K' m' (FM.tr (b := q_si (q_si (q_si m 92 0 (48 * d + S) V) 100 0 (48 * b + k) (X - nI 4 * V)) 99 0 (48 * b + k) V) ⟨fun a q => ?_, fun _ _ => rfl⟩ hfm) hr)
      have := isM_f q
      rw [si_k (by omega), si_k (by omega), si_k (by omega)]
