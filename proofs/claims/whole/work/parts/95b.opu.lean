/-! The reference's step: rivers, what is written back, the rim.-/
/-- rivers in the reference's cells -/
def SQ (v : qB) (u : qM) (j rc : Nat) : Prop := rc ≤ 4 ∧ u.1 86 0 j = nI rc ∧ rcN v = rc ∧ ∀ k, k < rc → u.1 87 0 (4 * j + k) = v 7 k ∧ u.1 88 0 (4 * j + k) = v 8 k ∧ ∃ c, c < nN v ∧ v 7 k = nI c
theorem SQ.k {v : qB} {u u' : qM} {j rc : Nat} (h : SQ v u j rc) (e : ∀ k, k < 101 ∨ 104 < k → u'.1 k = u.1 k) : SQ v u' j rc := by
  unfold SQ
  rw [e 86 (by decide), e 87 (by decide), e 88 (by decide)]
  exact h
theorem lp_mriv {v : qB} {j w h rc : Nat} {u : qM} {e : Int32 → qM → Option (Int32 × qM)} {P : Int32 → qM → Prop} (hj : j < 8) (hd : DW v w h) (hr : SQ v u j rc) (hz : ∀ c, c < w * h → u.1 103 0 c = watF v (2 * (w * h)) c) (K0 : ∀ u', (∀ k, k ≠ 103 → u'.1 k = u.1 k) ∧ u'.2 = u.2 ∧ (∀ c, c < w * h → u'.1 103 0 c = rivF v rc c) → Ev (e (rainF v rc) u') P) : Ev (L_X11_stepOnce_14 (nI j) q_fu 0 0 u e) P := by
  obtain ⟨d1, d2, d3, d4, d5, d6, d7, d8, d9, d10⟩ := hd
  obtain ⟨r1, r2, r3, r4⟩ := hr
  refine lpa (fun f b x t => L_X11_stepOnce_14 (nI j) f b x t e) (fun i b t => b = rainF v i ∧ (∀ k, k ≠ 103 → t.1 k = u.1 k) ∧ t.2 = u.2 ∧ (∀ c, c < w * h → t.1 103 0 c = rivF v i c)) rc (by omega) 0 u ⟨rfl, fun _ _ => rfl, rfl, fun c hc => by rw [hz c hc, ← d9]; rfl⟩ ?_ ?_
  · rintro f i b t hi ⟨rfl, g1, g2, g3⟩ K
    show Ev (L_X11_stepOnce_14 (nI j) (f + 1) _ (nI i) t e) P
    obtain ⟨q1, q2, c, hc, q3⟩ := r4 i hi
    rw [d9] at hc
    have c2 : t.1 86 0 j = nI rc := by rw [g1 86 (by decide)]; exact r2
    have c4 : t.1 87 0 (4 * j + i) = nI c := by rw [g1 87 (by decide)]; exact q1.trans q3
    have c5 : t.1 88 0 (4 * j + i) = v 8 i := by rw [g1 88 (by decide)]; exact q2
    simp (disch := first | omega | decide) only [Nat.reduceAdd, Nat.reduceMul, ↓ev_bd, ↓ev_ck, ↓ev_if, ↓ev_lt, ↓ev_jn, ↓ev_so, ↓reduceIte, ↓ev_within, ↓ev_in, ↓ev_isBoard, ↓ev_isGauge, ↓ev_isNumber, ↓ev_isSix, ↓ev_isEight, ↓ev_foundN, ↓ev_meetsN, ↓ev_found_1, ↓ev_meets_1, ↓ev_found_2, ↓ev_meets_2, ↓ev_found_3, ↓ev_meets_3, ↓ev_found_4, ↓ev_meets_4, ↓ev_found_5, ↓ev_meets_5, true_and, and_true, and_self, eq_self, not_true_eq_false, not_false_eq_true, ite_true, ite_false, true_or, or_true, false_or, or_false, false_and, and_false, ← zi_ni_0, ← zi_ni_1, ← zi_ni_2, ← zi_ni_3, ← zi_ni_4, ← zi_ni_5, ← zi_ni_6, ← zi_ni_7, ← zi_ni_8, ← zi_ni_9, ← zi_ni_10, ← zi_ni_12, ← zi_ni_24, ← zi_ni_25, ← zi_ni_40, ← zi_ni_45, ← zi_ni_47, ← zi_ni_48, ← zi_ni_95, ← zi_ni_96, ← zi_ni_97, ← zi_ni_100, ← zi_ni_144, ← zi_ni_288, nI_ltI, nI_leI, nI_eqI, nlt_T, nlt_F, nle_T, nle_F, neq_T, neq_F, nI_add, pk_mul, nI_clamp, q_inT, ng_lt, ng_tl, ng_le, ng_el, ng_eq, ng_qe, q_b0, q_b1, nar_0, nar_1, b01, b01', q_bn0, q_bn1, nar_n0, nar_n1, si_k, si_i, si_s, si_e, si_2, sl_1, sl_22, sl_k, sl_i, sl_s, sl_e, sp_1, sp_21, sp_22, sc_k, sc_i, sc_e, sc_2, mF_k, mM_k, mF_2, mM_2, mF_0, mM_11, ↓eu_L_X11_stepOnce_14, c2, c4, c5]
    refine K _ _ ⟨rfl, fun k q => by rw [si_k q]; exact g1 k q, g2, fun c' hc' => ?_⟩
    rw [si_c]
    show _ = if c' = (v 7 i).toNatClampNeg then rivF v i c' + v 8 i else rivF v i c'
    rw [q3, nI_clamp (by omega), g3 c hc, g3 c' hc']
    by_cases q : c' = c
    · rw [if_pos q, if_pos q, q]
    · rw [if_neg q, if_neg q]
  · rintro f b t ⟨rfl, g⟩
    show Ev (L_X11_stepOnce_14 (nI j) (f + 1) _ (nI rc) t e) P
    have c2 : t.1 86 0 j = nI rc := by rw [g.1 86 (by decide)]; exact r2
    simp (disch := first | omega | decide) only [Nat.reduceAdd, Nat.reduceMul, ↓ev_bd, ↓ev_ck, ↓ev_if, ↓ev_lt, ↓ev_jn, ↓ev_so, ↓reduceIte, ↓ev_within, ↓ev_in, ↓ev_isBoard, ↓ev_isGauge, ↓ev_isNumber, ↓ev_isSix, ↓ev_isEight, ↓ev_foundN, ↓ev_meetsN, ↓ev_found_1, ↓ev_meets_1, ↓ev_found_2, ↓ev_meets_2, ↓ev_found_3, ↓ev_meets_3, ↓ev_found_4, ↓ev_meets_4, ↓ev_found_5, ↓ev_meets_5, true_and, and_true, and_self, eq_self, not_true_eq_false, not_false_eq_true, ite_true, ite_false, true_or, or_true, false_or, or_false, false_and, and_false, ← zi_ni_0, ← zi_ni_1, ← zi_ni_2, ← zi_ni_3, ← zi_ni_4, ← zi_ni_5, ← zi_ni_6, ← zi_ni_7, ← zi_ni_8, ← zi_ni_9, ← zi_ni_10, ← zi_ni_12, ← zi_ni_24, ← zi_ni_25, ← zi_ni_40, ← zi_ni_45, ← zi_ni_47, ← zi_ni_48, ← zi_ni_95, ← zi_ni_96, ← zi_ni_97, ← zi_ni_100, ← zi_ni_144, ← zi_ni_288, nI_ltI, nI_leI, nI_eqI, nlt_T, nlt_F, nle_T, nle_F, neq_T, neq_F, nI_add, pk_mul, nI_clamp, q_inT, ng_lt, ng_tl, ng_le, ng_el, ng_eq, ng_qe, q_b0, q_b1, nar_0, nar_1, b01, b01', q_bn0, q_bn1, nar_n0, nar_n1, si_k, si_i, si_s, si_e, si_2, sl_1, sl_22, sl_k, sl_i, sl_s, sl_e, sp_1, sp_21, sp_22, sc_k, sc_i, sc_e, sc_2, mF_k, mM_k, mF_2, mM_2, mF_0, mM_11, ↓eu_L_X11_stepOnce_14, c2]
    exact K0 _ g
theorem lp_mtoo {v : qB} {j w h rc : Nat} {y : Int32} {u : qM} {e1 e2 : qM → Option (Int32 × qM)} {P : Int32 → qM → Prop} (hj : j < 8) (hd : DW v w h) (hn : SM v u j) (hr : rcN v = rc) (hz : ∀ c, c < w * h → u.1 103 0 c = rivF v rc c) (K0 : tmF v = false → Ev (e1 u) P) (K1 : tmF v = true → Ev (e2 u) P) : Ev (L_X11_stepOnce_73 (nI j) y q_fu 0 u e1 e2) P := by
  obtain ⟨d1, d2, d3, d4, d5, d6, d7, d8, d9, d10⟩ := hd
  have c2 : u.1 75 0 j = nI w := hn.2.1.trans d1
  have c3 : u.1 76 0 j = nI h := hn.2.2.1.trans d2
  refine lpc (fun f x t => L_X11_stepOnce_73 (nI j) y f x t e1 e2) (fun i t => t = u ∧ ∀ c, c < i → rivF v rc c ≤ 100000) (w * h) (by omega) u ⟨rfl, fun s hs => absurd hs (Nat.not_lt_zero _)⟩ ?_ ?_
  · rintro f i t hi ⟨rfl, g⟩ K
    show Ev (L_X11_stepOnce_73 (nI j) y (f + 1) (nI i) t e1 e2) P
    have c5 := hz i hi
    by_cases hq : rivF v rc i ≤ 100000
    · simp (disch := first | omega | decide) only [Nat.reduceAdd, Nat.reduceMul, ↓ev_ck, ↓ev_if, ↓ev_lt, ↓ev_jn, ↓ev_so, ↓reduceIte, ↓ev_within, ↓ev_in, ↓ev_isBoard, ↓ev_isGauge, ↓ev_isNumber, ↓ev_isSix, ↓ev_isEight, ↓ev_foundN, ↓ev_meetsN, ↓ev_found_1, ↓ev_meets_1, ↓ev_found_2, ↓ev_meets_2, ↓ev_found_3, ↓ev_meets_3, ↓ev_found_4, ↓ev_meets_4, ↓ev_found_5, ↓ev_meets_5, true_and, and_true, and_self, eq_self, not_true_eq_false, not_false_eq_true, ite_true, ite_false, true_or, or_true, false_or, or_false, false_and, and_false, ← zi_ni_0, ← zi_ni_1, ← zi_ni_2, ← zi_ni_3, ← zi_ni_4, ← zi_ni_5, ← zi_ni_6, ← zi_ni_7, ← zi_ni_8, ← zi_ni_9, ← zi_ni_10, ← zi_ni_12, ← zi_ni_24, ← zi_ni_25, ← zi_ni_40, ← zi_ni_45, ← zi_ni_47, ← zi_ni_48, ← zi_ni_95, ← zi_ni_96, ← zi_ni_97, ← zi_ni_100, ← zi_ni_144, ← zi_ni_288, nI_ltI, nI_leI, nI_eqI, nlt_T, nlt_F, nle_T, nle_F, neq_T, neq_F, nI_add, pk_mul, nI_clamp, q_inT, ng_lt, ng_tl, ng_le, ng_el, ng_eq, ng_qe, q_b0, q_b1, nar_0, nar_1, b01, b01', q_bn0, q_bn1, nar_n0, nar_n1, si_k, si_i, si_s, si_e, si_2, sl_1, sl_22, sl_k, sl_i, sl_s, sl_e, sp_1, sp_21, sp_22, sc_k, sc_i, sc_e, sc_2, mF_k, mM_k, mF_2, mM_2, mF_0, mM_11, ↓eu_L_X11_stepOnce_73, ↓bd_mcells, c2, c3, c5, hq]
      refine K _ ⟨rfl, fun c hc => ?_⟩
      by_cases q : c = i
      · rw [q]; exact hq
      · exact g c (by omega)
    · simp (disch := first | omega | decide) only [Nat.reduceAdd, Nat.reduceMul, ↓ev_ck, ↓ev_if, ↓ev_lt, ↓ev_jn, ↓ev_so, ↓reduceIte, ↓ev_within, ↓ev_in, ↓ev_isBoard, ↓ev_isGauge, ↓ev_isNumber, ↓ev_isSix, ↓ev_isEight, ↓ev_foundN, ↓ev_meetsN, ↓ev_found_1, ↓ev_meets_1, ↓ev_found_2, ↓ev_meets_2, ↓ev_found_3, ↓ev_meets_3, ↓ev_found_4, ↓ev_meets_4, ↓ev_found_5, ↓ev_meets_5, true_and, and_true, and_self, eq_self, not_true_eq_false, not_false_eq_true, ite_true, ite_false, true_or, or_true, false_or, or_false, false_and, and_false, ← zi_ni_0, ← zi_ni_1, ← zi_ni_2, ← zi_ni_3, ← zi_ni_4, ← zi_ni_5, ← zi_ni_6, ← zi_ni_7, ← zi_ni_8, ← zi_ni_9, ← zi_ni_10, ← zi_ni_12, ← zi_ni_24, ← zi_ni_25, ← zi_ni_40, ← zi_ni_45, ← zi_ni_47, ← zi_ni_48, ← zi_ni_95, ← zi_ni_96, ← zi_ni_97, ← zi_ni_100, ← zi_ni_144, ← zi_ni_288, nI_ltI, nI_leI, nI_eqI, nlt_T, nlt_F, nle_T, nle_F, neq_T, neq_F, nI_add, pk_mul, nI_clamp, q_inT, ng_lt, ng_tl, ng_le, ng_el, ng_eq, ng_qe, q_b0, q_b1, nar_0, nar_1, b01, b01', q_bn0, q_bn1, nar_n0, nar_n1, si_k, si_i, si_s, si_e, si_2, sl_1, sl_22, sl_k, sl_i, sl_s, sl_e, sp_1, sp_21, sp_22, sc_k, sc_i, sc_e, sc_2, mF_k, mM_k, mF_2, mM_2, mF_0, mM_11, ↓eu_L_X11_stepOnce_73, ↓bd_mcells, c2, c3, c5, hq]
      exact K1 (tmF_t (by rw [d9]; exact hi) (by rw [hr]; exact hq))
  · rintro f t ⟨rfl, g⟩
    show Ev (L_X11_stepOnce_73 (nI j) y (f + 1) (nI (w * h)) t e1 e2) P
    simp (disch := first | omega | decide) only [Nat.reduceAdd, Nat.reduceMul, ↓ev_ck, ↓ev_if, ↓ev_lt, ↓ev_jn, ↓ev_so, ↓reduceIte, ↓ev_within, ↓ev_in, ↓ev_isBoard, ↓ev_isGauge, ↓ev_isNumber, ↓ev_isSix, ↓ev_isEight, ↓ev_foundN, ↓ev_meetsN, ↓ev_found_1, ↓ev_meets_1, ↓ev_found_2, ↓ev_meets_2, ↓ev_found_3, ↓ev_meets_3, ↓ev_found_4, ↓ev_meets_4, ↓ev_found_5, ↓ev_meets_5, true_and, and_true, and_self, eq_self, not_true_eq_false, not_false_eq_true, ite_true, ite_false, true_or, or_true, false_or, or_false, false_and, and_false, ← zi_ni_0, ← zi_ni_1, ← zi_ni_2, ← zi_ni_3, ← zi_ni_4, ← zi_ni_5, ← zi_ni_6, ← zi_ni_7, ← zi_ni_8, ← zi_ni_9, ← zi_ni_10, ← zi_ni_12, ← zi_ni_24, ← zi_ni_25, ← zi_ni_40, ← zi_ni_45, ← zi_ni_47, ← zi_ni_48, ← zi_ni_95, ← zi_ni_96, ← zi_ni_97, ← zi_ni_100, ← zi_ni_144, ← zi_ni_288, nI_ltI, nI_leI, nI_eqI, nlt_T, nlt_F, nle_T, nle_F, neq_T, neq_F, nI_add, pk_mul, nI_clamp, q_inT, ng_lt, ng_tl, ng_le, ng_el, ng_eq, ng_qe, q_b0, q_b1, nar_0, nar_1, b01, b01', q_bn0, q_bn1, nar_n0, nar_n1, si_k, si_i, si_s, si_e, si_2, sl_1, sl_22, sl_k, sl_i, sl_s, sl_e, sp_1, sp_21, sp_22, sc_k, sc_i, sc_e, sc_2, mF_k, mM_k, mF_2, mM_2, mF_0, mM_11, ↓eu_L_X11_stepOnce_73, ↓bd_mcells, c2, c3]
    exact K0 (tmF_f (fun c hc => by rw [d9] at hc; rw [hr]; exact g c hc))
theorem lp_mcf {j w h : Nat} {u : qM} {e : qM → Option (Int32 × qM)} {P : Int32 → qM → Prop} (hj : j < 8) (e2 : u.1 75 0 j = nI w) (e3 : u.1 76 0 j = nI h) (h48 : w * h ≤ 48) (K0 : ∀ u', (∀ k i s, ¬ (k = 94 ∧ i = 0 ∧ 96 * j ≤ s ∧ s < 96 * j + 2 * (w * h)) → u'.1 k i s = u.1 k i s) ∧ u'.2 = u.2 ∧ (∀ s, s < 2 * (w * h) → u'.1 94 0 (96 * j + s) = u.1 101 0 s) → Ev (e u') P) : Ev (L_X11_stepOnce_113 (nI j) q_fu 0 u e) P := by
  refine lpc (fun f x t => L_X11_stepOnce_113 (nI j) f x t e) (fun i t => (∀ k i' s, ¬ (k = 94 ∧ i' = 0 ∧ 96 * j ≤ s ∧ s < 96 * j + i) → t.1 k i' s = u.1 k i' s) ∧ t.2 = u.2 ∧ (∀ s, s < i → t.1 94 0 (96 * j + s) = u.1 101 0 s)) (2 * (w * h)) (by omega) u ⟨fun _ _ _ _ => rfl, rfl, fun s hs => absurd hs (Nat.not_lt_zero _)⟩ ?_ ?_
  · rintro f i t hi ⟨g1, g2, g3⟩ K
    show Ev (L_X11_stepOnce_113 (nI j) (f + 1) (nI i) t e) P
    have c2 : t.1 75 0 j = nI w := (g1 75 0 j (by omega)).trans e2
    have c3 : t.1 76 0 j = nI h := (g1 76 0 j (by omega)).trans e3
    have c4 : t.1 101 0 i = u.1 101 0 i := g1 101 0 i (by omega)
    simp (disch := first | omega | decide) only [Nat.reduceAdd, Nat.reduceMul, ↓ev_ck, ↓ev_if, ↓ev_lt, ↓ev_jn, ↓ev_so, ↓reduceIte, ↓ev_within, ↓ev_in, ↓ev_isBoard, ↓ev_isGauge, ↓ev_isNumber, ↓ev_isSix, ↓ev_isEight, ↓ev_foundN, ↓ev_meetsN, ↓ev_found_1, ↓ev_meets_1, ↓ev_found_2, ↓ev_meets_2, ↓ev_found_3, ↓ev_meets_3, ↓ev_found_4, ↓ev_meets_4, ↓ev_found_5, ↓ev_meets_5, true_and, and_true, and_self, eq_self, not_true_eq_false, not_false_eq_true, ite_true, ite_false, true_or, or_true, false_or, or_false, false_and, and_false, ← zi_ni_0, ← zi_ni_1, ← zi_ni_2, ← zi_ni_3, ← zi_ni_4, ← zi_ni_5, ← zi_ni_6, ← zi_ni_7, ← zi_ni_8, ← zi_ni_9, ← zi_ni_10, ← zi_ni_12, ← zi_ni_24, ← zi_ni_25, ← zi_ni_40, ← zi_ni_45, ← zi_ni_47, ← zi_ni_48, ← zi_ni_95, ← zi_ni_96, ← zi_ni_97, ← zi_ni_100, ← zi_ni_144, ← zi_ni_288, nI_ltI, nI_leI, nI_eqI, nlt_T, nlt_F, nle_T, nle_F, neq_T, neq_F, nI_add, pk_mul, nI_clamp, q_inT, ng_lt, ng_tl, ng_le, ng_el, ng_eq, ng_qe, q_b0, q_b1, nar_0, nar_1, b01, b01', q_bn0, q_bn1, nar_n0, nar_n1, si_k, si_i, si_s, si_e, si_2, sl_1, sl_22, sl_k, sl_i, sl_s, sl_e, sp_1, sp_21, sp_22, sc_k, sc_i, sc_e, sc_2, mF_k, mM_k, mF_2, mM_2, mF_0, mM_11, ↓eu_L_X11_stepOnce_113, ↓bd_mcells, c2, c3, c4]
    refine K _ ⟨fun k i' s q => by rw [si_n (by omega)]; exact g1 k i' s (by omega), g2, fun s hs => ?_⟩
    rw [si_c]
    by_cases q : s = i
    · rw [if_pos (by omega), q]
    · rw [if_neg (by omega)]
      exact g3 s (by omega)
  · rintro f t g
    show Ev (L_X11_stepOnce_113 (nI j) (f + 1) (nI (2 * (w * h))) t e) P
    have c2 : t.1 75 0 j = nI w := (g.1 75 0 j (by omega)).trans e2
    have c3 : t.1 76 0 j = nI h := (g.1 76 0 j (by omega)).trans e3
    simp (disch := first | omega | decide) only [Nat.reduceAdd, Nat.reduceMul, ↓ev_ck, ↓ev_if, ↓ev_lt, ↓ev_jn, ↓ev_so, ↓reduceIte, ↓ev_within, ↓ev_in, ↓ev_isBoard, ↓ev_isGauge, ↓ev_isNumber, ↓ev_isSix, ↓ev_isEight, ↓ev_foundN, ↓ev_meetsN, ↓ev_found_1, ↓ev_meets_1, ↓ev_found_2, ↓ev_meets_2, ↓ev_found_3, ↓ev_meets_3, ↓ev_found_4, ↓ev_meets_4, ↓ev_found_5, ↓ev_meets_5, true_and, and_true, and_self, eq_self, not_true_eq_false, not_false_eq_true, ite_true, ite_false, true_or, or_true, false_or, or_false, false_and, and_false, ← zi_ni_0, ← zi_ni_1, ← zi_ni_2, ← zi_ni_3, ← zi_ni_4, ← zi_ni_5, ← zi_ni_6, ← zi_ni_7, ← zi_ni_8, ← zi_ni_9, ← zi_ni_10, ← zi_ni_12, ← zi_ni_24, ← zi_ni_25, ← zi_ni_40, ← zi_ni_45, ← zi_ni_47, ← zi_ni_48, ← zi_ni_95, ← zi_ni_96, ← zi_ni_97, ← zi_ni_100, ← zi_ni_144, ← zi_ni_288, nI_ltI, nI_leI, nI_eqI, nlt_T, nlt_F, nle_T, nle_F, neq_T, neq_F, nI_add, pk_mul, nI_clamp, q_inT, ng_lt, ng_tl, ng_le, ng_el, ng_eq, ng_qe, q_b0, q_b1, nar_0, nar_1, b01, b01', q_bn0, q_bn1, nar_n0, nar_n1, si_k, si_i, si_s, si_e, si_2, sl_1, sl_22, sl_k, sl_i, sl_s, sl_e, sp_1, sp_21, sp_22, sc_k, sc_i, sc_e, sc_2, mF_k, mM_k, mF_2, mM_2, mF_0, mM_11, ↓eu_L_X11_stepOnce_113, ↓bd_mcells, c2, c3]
    exact K0 _ g
theorem lp_mcw {j w h : Nat} {u : qM} {e : qM → Option (Int32 × qM)} {P : Int32 → qM → Prop} (hj : j < 8) (e2 : u.1 75 0 j = nI w) (e3 : u.1 76 0 j = nI h) (h48 : w * h ≤ 48) (K0 : ∀ u', (∀ k i s, ¬ (k = 92 ∧ i = 0 ∧ 48 * j ≤ s ∧ s < 48 * j + w * h) → ¬ (k = 93 ∧ i = 0 ∧ 144 * j ≤ s ∧ s < 144 * j + 144 ∧ (s - 144 * j) % 48 < w * h) → u'.1 k i s = u.1 k i s) ∧ u'.2 = u.2 ∧ (∀ c, c < w * h → u'.1 92 0 (48 * j + c) = u.1 103 0 c ∧ u'.1 93 0 (144 * j + c) = u.1 104 0 c ∧ u'.1 93 0 (144 * j + 48 + c) = u.1 104 0 (48 + c) ∧ u'.1 93 0 (144 * j + 96 + c) = u.1 104 0 (96 + c)) → Ev (e u') P) : Ev (L_X11_stepOnce_149 (nI j) q_fu 0 u e) P := by
  refine lpc (fun f x t => L_X11_stepOnce_149 (nI j) f x t e) (fun i t => (∀ k i' s, ¬ (k = 92 ∧ i' = 0 ∧ 48 * j ≤ s ∧ s < 48 * j + i) → ¬ (k = 93 ∧ i' = 0 ∧ 144 * j ≤ s ∧ s < 144 * j + 144 ∧ (s - 144 * j) % 48 < i) → t.1 k i' s = u.1 k i' s) ∧ t.2 = u.2 ∧ (∀ c, c < i → t.1 92 0 (48 * j + c) = u.1 103 0 c ∧ t.1 93 0 (144 * j + c) = u.1 104 0 c ∧ t.1 93 0 (144 * j + 48 + c) = u.1 104 0 (48 + c) ∧ t.1 93 0 (144 * j + 96 + c) = u.1 104 0 (96 + c))) (w * h) (by omega) u ⟨fun _ _ _ _ _ => rfl, rfl, fun s hs => absurd hs (Nat.not_lt_zero _)⟩ ?_ ?_
  · rintro f i t hi ⟨g1, g2, g3⟩ K
    show Ev (L_X11_stepOnce_149 (nI j) (f + 1) (nI i) t e) P
    have c2 : t.1 75 0 j = nI w := (g1 75 0 j (by omega) (by omega)).trans e2
    have c3 : t.1 76 0 j = nI h := (g1 76 0 j (by omega) (by omega)).trans e3
    have c4 : t.1 103 0 i = u.1 103 0 i := g1 103 0 i (by omega) (by omega)
    have c5 : t.1 104 0 i = u.1 104 0 i := g1 104 0 i (by omega) (by omega)
    have c6 : t.1 104 0 (48 + i) = u.1 104 0 (48 + i) := g1 104 0 _ (by omega) (by omega)
    have c7 : t.1 104 0 (96 + i) = u.1 104 0 (96 + i) := g1 104 0 _ (by omega) (by omega)
    simp (disch := first | omega | decide) only [Nat.reduceAdd, Nat.reduceMul, ↓ev_ck, ↓ev_if, ↓ev_lt, ↓ev_jn, ↓ev_so, ↓reduceIte, ↓ev_within, ↓ev_in, ↓ev_isBoard, ↓ev_isGauge, ↓ev_isNumber, ↓ev_isSix, ↓ev_isEight, ↓ev_foundN, ↓ev_meetsN, ↓ev_found_1, ↓ev_meets_1, ↓ev_found_2, ↓ev_meets_2, ↓ev_found_3, ↓ev_meets_3, ↓ev_found_4, ↓ev_meets_4, ↓ev_found_5, ↓ev_meets_5, true_and, and_true, and_self, eq_self, not_true_eq_false, not_false_eq_true, ite_true, ite_false, true_or, or_true, false_or, or_false, false_and, and_false, ← zi_ni_0, ← zi_ni_1, ← zi_ni_2, ← zi_ni_3, ← zi_ni_4, ← zi_ni_5, ← zi_ni_6, ← zi_ni_7, ← zi_ni_8, ← zi_ni_9, ← zi_ni_10, ← zi_ni_12, ← zi_ni_24, ← zi_ni_25, ← zi_ni_40, ← zi_ni_45, ← zi_ni_47, ← zi_ni_48, ← zi_ni_95, ← zi_ni_96, ← zi_ni_97, ← zi_ni_100, ← zi_ni_144, ← zi_ni_288, nI_ltI, nI_leI, nI_eqI, nlt_T, nlt_F, nle_T, nle_F, neq_T, neq_F, nI_add, pk_mul, nI_clamp, q_inT, ng_lt, ng_tl, ng_le, ng_el, ng_eq, ng_qe, q_b0, q_b1, nar_0, nar_1, b01, b01', q_bn0, q_bn1, nar_n0, nar_n1, si_k, si_i, si_s, si_e, si_2, sl_1, sl_22, sl_k, sl_i, sl_s, sl_e, sp_1, sp_21, sp_22, sc_k, sc_i, sc_e, sc_2, mF_k, mM_k, mF_2, mM_2, mF_0, mM_11, ↓eu_L_X11_stepOnce_149, ↓bd_mcells, c2, c3, ↓fu_s178, ↓eu_L_X11_stepOnce_178, c4, c5, c6, c7, Nat.add_zero, Nat.zero_add]
    refine K _ ⟨fun k i' s q1 q2 => ?_, g2, fun c hc => ?_⟩
    · rw [si_n (by omega), si_n (by omega), si_n (by omega), si_n (by omega)]
      exact g1 k i' s (by omega) (by omega)
    · by_cases q : c = i
      · subst q
        refine ⟨?_, ?_, ?_, ?_⟩
        · rw [si_k (by decide), si_k (by decide), si_k (by decide), si_e]
        · rw [si_s (by omega), si_s (by omega)]
          exact if_pos ⟨rfl, rfl, by omega⟩
        · rw [si_s (by omega)]
          exact if_pos ⟨rfl, rfl, by omega⟩
        · exact if_pos ⟨rfl, rfl, by omega⟩
      · obtain ⟨y0, y1, y2, y3⟩ := g3 c (by omega)
        refine ⟨?_, ?_, ?_, ?_⟩
        · rw [si_n (by omega), si_n (by omega), si_n (by omega), si_n (by omega)]; exact y0
        · rw [si_n (by omega), si_n (by omega), si_n (by omega), si_n (by omega)]; exact y1
        · rw [si_n (by omega), si_n (by omega), si_n (by omega), si_n (by omega)]; exact y2
        · rw [si_n (by omega), si_n (by omega), si_n (by omega), si_n (by omega)]; exact y3
  · rintro f t g
    show Ev (L_X11_stepOnce_149 (nI j) (f + 1) (nI (w * h)) t e) P
    have c2 : t.1 75 0 j = nI w := (g.1 75 0 j (by omega) (by omega)).trans e2
    have c3 : t.1 76 0 j = nI h := (g.1 76 0 j (by omega) (by omega)).trans e3
    simp (disch := first | omega | decide) only [Nat.reduceAdd, Nat.reduceMul, ↓ev_ck, ↓ev_if, ↓ev_lt, ↓ev_jn, ↓ev_so, ↓reduceIte, ↓ev_within, ↓ev_in, ↓ev_isBoard, ↓ev_isGauge, ↓ev_isNumber, ↓ev_isSix, ↓ev_isEight, ↓ev_foundN, ↓ev_meetsN, ↓ev_found_1, ↓ev_meets_1, ↓ev_found_2, ↓ev_meets_2, ↓ev_found_3, ↓ev_meets_3, ↓ev_found_4, ↓ev_meets_4, ↓ev_found_5, ↓ev_meets_5, true_and, and_true, and_self, eq_self, not_true_eq_false, not_false_eq_true, ite_true, ite_false, true_or, or_true, false_or, or_false, false_and, and_false, ← zi_ni_0, ← zi_ni_1, ← zi_ni_2, ← zi_ni_3, ← zi_ni_4, ← zi_ni_5, ← zi_ni_6, ← zi_ni_7, ← zi_ni_8, ← zi_ni_9, ← zi_ni_10, ← zi_ni_12, ← zi_ni_24, ← zi_ni_25, ← zi_ni_40, ← zi_ni_45, ← zi_ni_47, ← zi_ni_48, ← zi_ni_95, ← zi_ni_96, ← zi_ni_97, ← zi_ni_100, ← zi_ni_144, ← zi_ni_288, nI_ltI, nI_leI, nI_eqI, nlt_T, nlt_F, nle_T, nle_F, neq_T, neq_F, nI_add, pk_mul, nI_clamp, q_inT, ng_lt, ng_tl, ng_le, ng_el, ng_eq, ng_qe, q_b0, q_b1, nar_0, nar_1, b01, b01', q_bn0, q_bn1, nar_n0, nar_n1, si_k, si_i, si_s, si_e, si_2, sl_1, sl_22, sl_k, sl_i, sl_s, sl_e, sp_1, sp_21, sp_22, sc_k, sc_i, sc_e, sc_2, mF_k, mM_k, mF_2, mM_2, mF_0, mM_11, ↓eu_L_X11_stepOnce_149, ↓bd_mcells, c2, c3]
    exact K0 _ g
theorem x100 : (100000 : Int32).toInt = 100000 := by decide +kernel
theorem led_alt {x b : Int32} : (if nI 0 ≤ x - b then (if x - b ≤ 100000 then x - b else 100000) else nI 0) = led x b := by
  unfold led
  generalize x - b = d
  have h0 : (nI 0).toInt = 0 := nI_toInt (by decide)
  by_cases h1 : d < 100000
  · rw [if_pos h1]
    have h1' := h1
    rw [x_lt, x100] at h1'
    have h3 : d ≤ 100000 := Int32.le_of_lt h1
    rw [if_pos h3]
    by_cases h2 : nI 0 < d
    · rw [if_pos h2, if_pos (Int32.le_of_lt h2)]
    · rw [if_neg h2]
      by_cases h4 : nI 0 ≤ d
      · rw [if_pos h4]
        rw [x_lt, h0] at h2
        rw [x_le, h0] at h4
        rw [x_eq, h0]
        omega
      · rw [if_neg h4]
  · rw [if_neg h1]
    have h2 : nI 0 < (100000 : Int32) := by decide +kernel
    rw [if_pos h2]
    have h1' := h1
    rw [x_lt, x100] at h1'
    have h4 : nI 0 ≤ d := by rw [x_le, h0]; omega
    rw [if_pos h4]
    by_cases h5 : d ≤ 100000
    · rw [if_pos h5]
      rw [x_le, x100] at h5
      rw [x_eq, x100]
      omega
    · rw [if_neg h5]
theorem rim_t {x : Int32} {v : qB} {y t : Nat} (q1 : t ≠ 0) (q2 : t ≠ 2) : rimF x v y t = v t := by
  induction y with
  | zero => rfl
  | succ y ih =>
    show bset (bset (rimF x v y) 0 5 _) 2 _ _ t = _
    rw [bs_t q2, bs_t q1, ih]
theorem rim_0 {x : Int32} {v : qB} {y s : Nat} (q : s ≠ 5) : rimF x v y 0 s = v 0 s := by
  induction y with
  | zero => rfl
  | succ y ih =>
    show bset (bset (rimF x v y) 0 5 _) 2 _ _ 0 s = _
    rw [bs_t (by decide), bs_s q, ih]
theorem lp_mrim {j w h : Nat} {x : Int32} {u : qM} {e : qM → Option (Unit × qM)} {P : Unit → qM → Prop} (hj : j < 8) (hd : DW (mB u j) w h) (K0 : ∀ u', (∀ k i s, ¬ (k = 83 ∧ i = 0 ∧ s = j) → ¬ (k = 92 ∧ i = 0 ∧ 48 * j ≤ s ∧ s < 48 * j + 48) → u'.1 k i s = u.1 k i s) → u'.2 = u.2 → mB u' j = rimF x (mB u j) h → Ev (e u') P) : Ev (L_X11_leadRim_8 (nI j) x q_fu 0 u e) P := by
  obtain ⟨d1, d2, d3, d4, d5, d6, d7, d8, d9, d10⟩ := hd
  have hw0 : 0 < w := by omega
  refine Ev.eq (show L_X11_leadRim_8 (nI j) x q_fu 0 u e = (fun f y t => L_X11_leadRim_8 (nI j) x f (y * nI w) t e) q_fu (nI 0) u from by
    show L_X11_leadRim_8 (nI j) x q_fu 0 u e = L_X11_leadRim_8 (nI j) x q_fu (nI 0 * nI w) u e
    rw [pk_mul, Nat.zero_mul]
    rfl) ?_
  refine lpc (fun f y t => L_X11_leadRim_8 (nI j) x f (y * nI w) t e) (fun y t => (∀ k i s, ¬ (k = 83 ∧ i = 0 ∧ s = j) → ¬ (k = 92 ∧ i = 0 ∧ 48 * j ≤ s ∧ s < 48 * j + 48) → t.1 k i s = u.1 k i s) ∧ t.2 = u.2 ∧ mB t j = rimF x (mB u j) y) h (by omega) u ⟨fun _ _ _ _ _ => rfl, rfl, rfl⟩ ?_ ?_
  · rintro f y t hy ⟨g1, g2, g3⟩ K
    have c2 : t.1 75 0 j = nI w := (g1 75 0 j (by omega) (by omega)).trans d1
    have c3 : t.1 76 0 j = nI h := (g1 76 0 j (by omega) (by omega)).trans d2
    have hyw : y * w < w * h := by
      have h1 : (y + 1) * w ≤ h * w := Nat.mul_le_mul_right w hy
      rw [Nat.succ_mul, Nat.mul_comm h w] at h1
      omega
    have c4 : t.1 91 0 (48 * j + y * w) = mB u j 1 (y * w) := by rw [g1 91 0 _ (by omega) (by omega), mR_1 (by omega)]
    have c5 : t.1 92 0 (48 * j + y * w) = rimF x (mB u j) y 2 (y * w) := by rw [← g3, mR_2 (by omega)]
    have c6 : t.1 83 0 j = rimF x (mB u j) y 0 5 := by rw [← g3]; rfl
    have fin : ∀ z, z = led x (mB u j 1 (y * w)) → Ev (L_X11_leadRim_8 (nI j) x f (nI (y * w + w)) (q_si (q_si t 83 0 j (rimF x (mB u j) y 0 5 + (z - rimF x (mB u j) y 2 (y * w)))) 92 0 (48 * j + y * w) z) e) P := by
      intro z hz
      have k1 := K (q_si (q_si t 83 0 j (rimF x (mB u j) y 0 5 + (z - rimF x (mB u j) y 2 (y * w)))) 92 0 (48 * j + y * w) z) ⟨fun k i s h1 h2 => ?_, g2, ?_⟩
      · rw [pk_mul, Nat.succ_mul] at k1
        exact k1
      · rw [si_n (by omega), si_n h1]
        exact g1 k i s h1 h2
      · rw [mW_2 (by omega), mW_0_5, g3, hz]
        show _ = bset (bset (rimF x (mB u j) y) 0 5 (rimF x (mB u j) y 0 5 + (led x (mB u j 1 (y * nW (mB u j))) - rimF x (mB u j) y 2 (y * nW (mB u j))))) 2 (y * nW (mB u j)) (led x (mB u j 1 (y * nW (mB u j))))
        rw [d7]
    have ha := @led_alt x (mB u j 1 (y * w))
    rw [pk_mul]
    by_cases h1 : nI 0 ≤ x - mB u j 1 (y * w)
    · by_cases h2 : x - mB u j 1 (y * w) ≤ 100000
      · have k2 := fin (x - mB u j 1 (y * w)) (by rw [← ha, if_pos h1, if_pos h2])
        simp (disch := first | omega | decide) only [Nat.reduceAdd, Nat.reduceMul, ↓ev_ck, ↓ev_if, ↓ev_lt, ↓ev_jn, ↓ev_so, ↓reduceIte, ↓ev_within, ↓ev_in, ↓ev_isBoard, ↓ev_isGauge, ↓ev_isNumber, ↓ev_isSix, ↓ev_isEight, ↓ev_foundN, ↓ev_meetsN, ↓ev_found_1, ↓ev_meets_1, ↓ev_found_2, ↓ev_meets_2, ↓ev_found_3, ↓ev_meets_3, ↓ev_found_4, ↓ev_meets_4, ↓ev_found_5, ↓ev_meets_5, true_and, and_true, and_self, eq_self, not_true_eq_false, not_false_eq_true, ite_true, ite_false, true_or, or_true, false_or, or_false, false_and, and_false, ← zi_ni_0, ← zi_ni_1, ← zi_ni_2, ← zi_ni_3, ← zi_ni_4, ← zi_ni_5, ← zi_ni_6, ← zi_ni_7, ← zi_ni_8, ← zi_ni_9, ← zi_ni_10, ← zi_ni_12, ← zi_ni_24, ← zi_ni_25, ← zi_ni_40, ← zi_ni_45, ← zi_ni_47, ← zi_ni_48, ← zi_ni_95, ← zi_ni_96, ← zi_ni_97, ← zi_ni_100, ← zi_ni_144, ← zi_ni_288, nI_ltI, nI_leI, nI_eqI, nlt_T, nlt_F, nle_T, nle_F, neq_T, neq_F, nI_add, pk_mul, nI_clamp, q_inT, ng_lt, ng_tl, ng_le, ng_el, ng_eq, ng_qe, q_b0, q_b1, nar_0, nar_1, b01, b01', q_bn0, q_bn1, nar_n0, nar_n1, si_k, si_i, si_s, si_e, si_2, sl_1, sl_22, sl_k, sl_i, sl_s, sl_e, sp_1, sp_21, sp_22, sc_k, sc_i, sc_e, sc_2, mF_k, mM_k, mF_2, mM_2, mF_0, mM_11, ↓eu_L_X11_leadRim_8, ↓bd_mcells, c2, c3, c4, c5, c6, h1, h2]
        exact k2
      · have k2 := fin 100000 (by rw [← ha, if_pos h1, if_neg h2])
        simp (disch := first | omega | decide) only [Nat.reduceAdd, Nat.reduceMul, ↓ev_ck, ↓ev_if, ↓ev_lt, ↓ev_jn, ↓ev_so, ↓reduceIte, ↓ev_within, ↓ev_in, ↓ev_isBoard, ↓ev_isGauge, ↓ev_isNumber, ↓ev_isSix, ↓ev_isEight, ↓ev_foundN, ↓ev_meetsN, ↓ev_found_1, ↓ev_meets_1, ↓ev_found_2, ↓ev_meets_2, ↓ev_found_3, ↓ev_meets_3, ↓ev_found_4, ↓ev_meets_4, ↓ev_found_5, ↓ev_meets_5, true_and, and_true, and_self, eq_self, not_true_eq_false, not_false_eq_true, ite_true, ite_false, true_or, or_true, false_or, or_false, false_and, and_false, ← zi_ni_0, ← zi_ni_1, ← zi_ni_2, ← zi_ni_3, ← zi_ni_4, ← zi_ni_5, ← zi_ni_6, ← zi_ni_7, ← zi_ni_8, ← zi_ni_9, ← zi_ni_10, ← zi_ni_12, ← zi_ni_24, ← zi_ni_25, ← zi_ni_40, ← zi_ni_45, ← zi_ni_47, ← zi_ni_48, ← zi_ni_95, ← zi_ni_96, ← zi_ni_97, ← zi_ni_100, ← zi_ni_144, ← zi_ni_288, nI_ltI, nI_leI, nI_eqI, nlt_T, nlt_F, nle_T, nle_F, neq_T, neq_F, nI_add, pk_mul, nI_clamp, q_inT, ng_lt, ng_tl, ng_le, ng_el, ng_eq, ng_qe, q_b0, q_b1, nar_0, nar_1, b01, b01', q_bn0, q_bn1, nar_n0, nar_n1, si_k, si_i, si_s, si_e, si_2, sl_1, sl_22, sl_k, sl_i, sl_s, sl_e, sp_1, sp_21, sp_22, sc_k, sc_i, sc_e, sc_2, mF_k, mM_k, mF_2, mM_2, mF_0, mM_11, ↓eu_L_X11_leadRim_8, ↓bd_mcells, c2, c3, c4, c5, c6, h1, h2]
        exact k2
    · have k2 := fin (nI 0) (by rw [← ha, if_neg h1])
      simp (disch := first | omega | decide) only [Nat.reduceAdd, Nat.reduceMul, ↓ev_ck, ↓ev_if, ↓ev_lt, ↓ev_jn, ↓ev_so, ↓reduceIte, ↓ev_within, ↓ev_in, ↓ev_isBoard, ↓ev_isGauge, ↓ev_isNumber, ↓ev_isSix, ↓ev_isEight, ↓ev_foundN, ↓ev_meetsN, ↓ev_found_1, ↓ev_meets_1, ↓ev_found_2, ↓ev_meets_2, ↓ev_found_3, ↓ev_meets_3, ↓ev_found_4, ↓ev_meets_4, ↓ev_found_5, ↓ev_meets_5, true_and, and_true, and_self, eq_self, not_true_eq_false, not_false_eq_true, ite_true, ite_false, true_or, or_true, false_or, or_false, false_and, and_false, ← zi_ni_0, ← zi_ni_1, ← zi_ni_2, ← zi_ni_3, ← zi_ni_4, ← zi_ni_5, ← zi_ni_6, ← zi_ni_7, ← zi_ni_8, ← zi_ni_9, ← zi_ni_10, ← zi_ni_12, ← zi_ni_24, ← zi_ni_25, ← zi_ni_40, ← zi_ni_45, ← zi_ni_47, ← zi_ni_48, ← zi_ni_95, ← zi_ni_96, ← zi_ni_97, ← zi_ni_100, ← zi_ni_144, ← zi_ni_288, nI_ltI, nI_leI, nI_eqI, nlt_T, nlt_F, nle_T, nle_F, neq_T, neq_F, nI_add, pk_mul, nI_clamp, q_inT, ng_lt, ng_tl, ng_le, ng_el, ng_eq, ng_qe, q_b0, q_b1, nar_0, nar_1, b01, b01', q_bn0, q_bn1, nar_n0, nar_n1, si_k, si_i, si_s, si_e, si_2, sl_1, sl_22, sl_k, sl_i, sl_s, sl_e, sp_1, sp_21, sp_22, sc_k, sc_i, sc_e, sc_2, mF_k, mM_k, mF_2, mM_2, mF_0, mM_11, ↓eu_L_X11_leadRim_8, ↓bd_mcells, c2, c3, c4, c5, c6, h1]
      exact k2
  · rintro f t ⟨g1, g2, g3⟩
    rw [pk_mul, Nat.mul_comm h w]
    have c2 : t.1 75 0 j = nI w := (g1 75 0 j (by omega) (by omega)).trans d1
    have c3 : t.1 76 0 j = nI h := (g1 76 0 j (by omega) (by omega)).trans d2
    simp (disch := first | omega | decide) only [Nat.reduceAdd, Nat.reduceMul, ↓ev_ck, ↓ev_if, ↓ev_lt, ↓ev_jn, ↓ev_so, ↓reduceIte, ↓ev_within, ↓ev_in, ↓ev_isBoard, ↓ev_isGauge, ↓ev_isNumber, ↓ev_isSix, ↓ev_isEight, ↓ev_foundN, ↓ev_meetsN, ↓ev_found_1, ↓ev_meets_1, ↓ev_found_2, ↓ev_meets_2, ↓ev_found_3, ↓ev_meets_3, ↓ev_found_4, ↓ev_meets_4, ↓ev_found_5, ↓ev_meets_5, true_and, and_true, and_self, eq_self, not_true_eq_false, not_false_eq_true, ite_true, ite_false, true_or, or_true, false_or, or_false, false_and, and_false, ← zi_ni_0, ← zi_ni_1, ← zi_ni_2, ← zi_ni_3, ← zi_ni_4, ← zi_ni_5, ← zi_ni_6, ← zi_ni_7, ← zi_ni_8, ← zi_ni_9, ← zi_ni_10, ← zi_ni_12, ← zi_ni_24, ← zi_ni_25, ← zi_ni_40, ← zi_ni_45, ← zi_ni_47, ← zi_ni_48, ← zi_ni_95, ← zi_ni_96, ← zi_ni_97, ← zi_ni_100, ← zi_ni_144, ← zi_ni_288, nI_ltI, nI_leI, nI_eqI, nlt_T, nlt_F, nle_T, nle_F, neq_T, neq_F, nI_add, pk_mul, nI_clamp, q_inT, ng_lt, ng_tl, ng_le, ng_el, ng_eq, ng_qe, q_b0, q_b1, nar_0, nar_1, b01, b01', q_bn0, q_bn1, nar_n0, nar_n1, si_k, si_i, si_s, si_e, si_2, sl_1, sl_22, sl_k, sl_i, sl_s, sl_e, sp_1, sp_21, sp_22, sc_k, sc_i, sc_e, sc_2, mF_k, mM_k, mF_2, mM_2, mF_0, mM_11, ↓eu_L_X11_leadRim_8, ↓bd_mcells, c2, c3]
    exact K0 _ g1 g2 g3

