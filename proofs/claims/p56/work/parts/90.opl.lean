theorem lfl_sd {v : qB} {s : Nat} (h : ¬ lfl v s = nI 0) : sd (nW v) (nN v) s = true := pfl_sd (lfl_pfl h)
theorem lp_move {v : qB} {o w h : Nat} {u : qM} {e : qM → Option (Unit × qM)} {P : Unit → qM → Prop} (hd : DW v w h) (hn : SN v u o) (hf : ∀ s, s < 2 * (w * h) → u.1 47 0 s = lfl v s) (hz : ∀ c, c < w * h → u.1 49 0 c = v 2 c) (K0 : ∀ u', (∀ k, k ≠ 49 → u'.1 k = u.1 k) ∧ u'.2 = u.2 ∧ (∀ c, c < w * h → u'.1 49 0 c = watF v (2 * (w * h)) c) → Ev (e u') P) : Ev (L_X8_moveWater_19 o q_fu 0 u e) P := by
  have hd' := hd
  obtain ⟨d1, d2, d3, d4, d5, d6, d7, d8, d9, d10⟩ := hd'
  refine lpc (fun f x t => L_X8_moveWater_19 o f x t e) (fun i t => (∀ k, k ≠ 49 → t.1 k = u.1 k) ∧ t.2 = u.2 ∧ (∀ c, c < w * h → t.1 49 0 c = watF v i c)) (2 * (w * h)) (by omega) u ⟨fun _ _ => rfl, rfl, hz⟩ ?_ ?_
  · rintro f i t hi ⟨g1, g2, g3⟩ K
    show Ev (L_X8_moveWater_19 o (f + 1) (nI i) t e) P
    have hn' : SN v t o := hn.k (fun k q1 q2 q3 q4 => g1 k q3)
    have c2 : t.1 2 o 12 = nI w := hn'.2.1.trans d1
    have c3 : t.1 2 o 13 = nI h := hn'.2.2.1.trans d2
    have c7 : t.1 47 0 i = lfl v i := by rw [g1 47 (by decide)]; exact hf i hi
    have ho : ∀ c, watF v (i + 1) c = if lfl v i = nI 0 then watF v i c else if c = i / 2 then watF v i c - lfl v i else if c = far (nW v) i then watF v i c + lfl v i else watF v i c := fun _ => rfl
    by_cases hq : lfl v i = nI 0
    · simp (disch := first | omega | decide) only [Nat.reduceAdd, Nat.reduceMul, ↓ev_bd, ↓ev_ck, ↓ev_if, ↓ev_lt, ↓ev_jn, ↓ev_so, ↓reduceIte, ↓ev_within, ↓ev_isBoard, ↓ev_isNumber, ↓ev_foundN, ↓ev_found_1, ↓ev_found_2, ↓ev_found_3, ↓ev_found_4, ↓ev_found_5, true_and, and_true, and_self, eq_self, not_true_eq_false, not_false_eq_true, ite_true, ite_false, true_or, or_true, false_or, or_false, false_and, and_false, ← zi_ni_0, ← zi_ni_1, ← zi_ni_2, ← zi_ni_3, ← zi_ni_4, ← zi_ni_5, ← zi_ni_6, ← zi_ni_7, ← zi_ni_8, ← zi_ni_9, ← zi_ni_10, ← zi_ni_12, ← zi_ni_24, ← zi_ni_25, ← zi_ni_40, ← zi_ni_45, ← zi_ni_47, ← zi_ni_48, ← zi_ni_95, ← zi_ni_96, ← zi_ni_97, ← zi_ni_100, ← zi_ni_144, ← zi_ni_288, nI_ltI, nI_leI, nI_eqI, nlt_T, nlt_F, nle_T, nle_F, neq_T, neq_F, nI_add, pk_mul, nI_clamp, q_inT, ng_lt, ng_tl, ng_le, ng_el, ng_eq, ng_qe, q_b0, q_b1, nar_0, nar_1, b01, b01', q_bn0, q_bn1, nar_n0, nar_n1, si_k, si_i, si_s, si_e, si_2, sl_1, sl_22, sl_k, sl_i, sl_s, sl_e, sp_1, sp_21, sp_22, sc_k, sc_i, sc_e, sc_2, mF_k, mF_2, mF_0, ↓eu_L_X8_moveWater_19, ↓eu_X0_cells, c2, c3, c7, hq, pk_div]
      refine K _ ⟨g1, g2, fun c hc => ?_⟩
      rw [ho, if_pos hq]
      exact g3 c hc
    · have hsd := lfl_sd hq
      rw [d7, d9] at hsd
      obtain ⟨l2, l3⟩ := sd_far (by omega) hsd
      have l1 : i / 2 < w * h := by omega
      simp (disch := first | omega | decide) only [Nat.reduceAdd, Nat.reduceMul, ↓ev_bd, ↓ev_ck, ↓ev_if, ↓ev_lt, ↓ev_jn, ↓ev_so, ↓reduceIte, ↓ev_within, ↓ev_isBoard, ↓ev_isNumber, ↓ev_foundN, ↓ev_found_1, ↓ev_found_2, ↓ev_found_3, ↓ev_found_4, ↓ev_found_5, true_and, and_true, and_self, eq_self, not_true_eq_false, not_false_eq_true, ite_true, ite_false, true_or, or_true, false_or, or_false, false_and, and_false, ← zi_ni_0, ← zi_ni_1, ← zi_ni_2, ← zi_ni_3, ← zi_ni_4, ← zi_ni_5, ← zi_ni_6, ← zi_ni_7, ← zi_ni_8, ← zi_ni_9, ← zi_ni_10, ← zi_ni_12, ← zi_ni_24, ← zi_ni_25, ← zi_ni_40, ← zi_ni_45, ← zi_ni_47, ← zi_ni_48, ← zi_ni_95, ← zi_ni_96, ← zi_ni_97, ← zi_ni_100, ← zi_ni_144, ← zi_ni_288, nI_ltI, nI_leI, nI_eqI, nlt_T, nlt_F, nle_T, nle_F, neq_T, neq_F, nI_add, pk_mul, nI_clamp, q_inT, ng_lt, ng_tl, ng_le, ng_el, ng_eq, ng_qe, q_b0, q_b1, nar_0, nar_1, b01, b01', q_bn0, q_bn1, nar_n0, nar_n1, si_k, si_i, si_s, si_e, si_2, sl_1, sl_22, sl_k, sl_i, sl_s, sl_e, sp_1, sp_21, sp_22, sc_k, sc_i, sc_e, sc_2, mF_k, mF_2, mF_0, ↓eu_L_X8_moveWater_19, ↓eu_X0_cells, c2, c3, c7, hq, pk_div]
      refine ev_farCell (P := _) hd (by omega) (hn'.fr (fun k q => by simp (disch := first | omega | decide) only [si_k, si_i, si_s, si_e, si_2, sl_1, sl_22, sl_k, sl_i, sl_s, sl_e, sp_1, sp_21, sp_22, sc_k, sc_i, sc_e, sc_2, mF_k, mF_2, mF_0])) ?_
      simp (disch := first | omega | decide) only [Nat.reduceAdd, Nat.reduceMul, ↓ev_bd, ↓ev_ck, ↓ev_if, ↓ev_lt, ↓ev_jn, ↓ev_so, ↓reduceIte, ↓ev_within, ↓ev_isBoard, ↓ev_isNumber, ↓ev_foundN, ↓ev_found_1, ↓ev_found_2, ↓ev_found_3, ↓ev_found_4, ↓ev_found_5, true_and, and_true, and_self, eq_self, not_true_eq_false, not_false_eq_true, ite_true, ite_false, true_or, or_true, false_or, or_false, false_and, and_false, ← zi_ni_0, ← zi_ni_1, ← zi_ni_2, ← zi_ni_3, ← zi_ni_4, ← zi_ni_5, ← zi_ni_6, ← zi_ni_7, ← zi_ni_8, ← zi_ni_9, ← zi_ni_10, ← zi_ni_12, ← zi_ni_24, ← zi_ni_25, ← zi_ni_40, ← zi_ni_45, ← zi_ni_47, ← zi_ni_48, ← zi_ni_95, ← zi_ni_96, ← zi_ni_97, ← zi_ni_100, ← zi_ni_144, ← zi_ni_288, nI_ltI, nI_leI, nI_eqI, nlt_T, nlt_F, nle_T, nle_F, neq_T, neq_F, nI_add, pk_mul, nI_clamp, q_inT, ng_lt, ng_tl, ng_le, ng_el, ng_eq, ng_qe, q_b0, q_b1, nar_0, nar_1, b01, b01', q_bn0, q_bn1, nar_n0, nar_n1, si_k, si_i, si_s, si_e, si_2, sl_1, sl_22, sl_k, sl_i, sl_s, sl_e, sp_1, sp_21, sp_22, sc_k, sc_i, sc_e, sc_2, mF_k, mF_2, mF_0, ↓eu_L_X8_moveWater_19, ↓eu_X0_cells, c2, c3, c7, hq, pk_div]
      refine K _ ⟨fun k q => by rw [si_k q, si_k q]; exact g1 k q, g2, fun c hc => ?_⟩
      rw [ho, if_neg hq, si_c, si_c, d7]
      by_cases q : c = far w i
      · have q0 : ¬ c = i / 2 := by omega
        rw [if_pos q, if_neg q0, if_pos q, g3 _ l2, q]
      · rw [if_neg q]
        by_cases q2 : c = i / 2
        · rw [if_pos q2, if_pos q2, g3 _ l1, q2]
        · rw [if_neg q2, if_neg q2, if_neg q]
          exact g3 c hc
  · rintro f t g
    show Ev (L_X8_moveWater_19 o (f + 1) (nI (2 * (w * h))) t e) P
    have hn' : SN v t o := hn.k (fun k q1 q2 q3 q4 => g.1 k q3)
    have c2 : t.1 2 o 12 = nI w := hn'.2.1.trans d1
    have c3 : t.1 2 o 13 = nI h := hn'.2.2.1.trans d2
    simp (disch := first | omega | decide) only [Nat.reduceAdd, Nat.reduceMul, ↓ev_bd, ↓ev_ck, ↓ev_if, ↓ev_lt, ↓ev_jn, ↓ev_so, ↓reduceIte, ↓ev_within, ↓ev_isBoard, ↓ev_isNumber, ↓ev_foundN, ↓ev_found_1, ↓ev_found_2, ↓ev_found_3, ↓ev_found_4, ↓ev_found_5, true_and, and_true, and_self, eq_self, not_true_eq_false, not_false_eq_true, ite_true, ite_false, true_or, or_true, false_or, or_false, false_and, and_false, ← zi_ni_0, ← zi_ni_1, ← zi_ni_2, ← zi_ni_3, ← zi_ni_4, ← zi_ni_5, ← zi_ni_6, ← zi_ni_7, ← zi_ni_8, ← zi_ni_9, ← zi_ni_10, ← zi_ni_12, ← zi_ni_24, ← zi_ni_25, ← zi_ni_40, ← zi_ni_45, ← zi_ni_47, ← zi_ni_48, ← zi_ni_95, ← zi_ni_96, ← zi_ni_97, ← zi_ni_100, ← zi_ni_144, ← zi_ni_288, nI_ltI, nI_leI, nI_eqI, nlt_T, nlt_F, nle_T, nle_F, neq_T, neq_F, nI_add, pk_mul, nI_clamp, q_inT, ng_lt, ng_tl, ng_le, ng_el, ng_eq, ng_qe, q_b0, q_b1, nar_0, nar_1, b01, b01', q_bn0, q_bn1, nar_n0, nar_n1, si_k, si_i, si_s, si_e, si_2, sl_1, sl_22, sl_k, sl_i, sl_s, sl_e, sp_1, sp_21, sp_22, sc_k, sc_i, sc_e, sc_2, mF_k, mF_2, mF_0, ↓eu_L_X8_moveWater_19, ↓eu_X0_cells, c2, c3]
    exact K0 _ g
/-- rivers in the class's cells -/
def SR (v : qB) (u : qM) (o rc : Nat) : Prop := rc ≤ 4 ∧ u.1 4 o 2 = nI rc ∧ rcN v = rc ∧ ∀ k, k < rc → u.1 43 o k = v 7 k ∧ u.1 44 o k = v 8 k ∧ ∃ c, c < nN v ∧ v 7 k = nI c
theorem SR.k {v : qB} {u u' : qM} {o rc : Nat} (h : SR v u o rc) (e : ∀ k, k ≠ 47 → k ≠ 48 → k ≠ 49 → k ≠ 50 → u'.1 k = u.1 k) : SR v u' o rc := by
  unfold SR
  rw [e 4 (by decide) (by decide) (by decide) (by decide), e 43 (by decide) (by decide) (by decide) (by decide), e 44 (by decide) (by decide) (by decide) (by decide)]
  exact h
theorem lp_riv {v : qB} {o w h rc : Nat} {u : qM} {e : Int32 → qM → Option (Int32 × qM)} {P : Int32 → qM → Prop} (hd : DW v w h) (hr : SR v u o rc) (hz : ∀ c, c < w * h → u.1 49 0 c = watF v (2 * (w * h)) c) (K0 : ∀ u', (∀ k, k ≠ 49 → u'.1 k = u.1 k) ∧ u'.2 = u.2 ∧ (∀ c, c < w * h → u'.1 49 0 c = rivF v rc c) → Ev (e (rainF v rc) u') P) : Ev (L_X8_addRivers_4 o q_fu 0 0 u e) P := by
  obtain ⟨d1, d2, d3, d4, d5, d6, d7, d8, d9, d10⟩ := hd
  obtain ⟨r1, r2, r3, r4⟩ := hr
  refine lpa (fun f b x t => L_X8_addRivers_4 o f b x t e) (fun i b t => b = rainF v i ∧ (∀ k, k ≠ 49 → t.1 k = u.1 k) ∧ t.2 = u.2 ∧ (∀ c, c < w * h → t.1 49 0 c = rivF v i c)) rc (by omega) 0 u ⟨rfl, fun _ _ => rfl, rfl, fun c hc => by rw [hz c hc, ← d9]; rfl⟩ ?_ ?_
  · rintro f i b t hi ⟨rfl, g1, g2, g3⟩ K
    show Ev (L_X8_addRivers_4 o (f + 1) _ (nI i) t e) P
    obtain ⟨q1, q2, c, hc, q3⟩ := r4 i hi
    rw [d9] at hc
    have c2 : t.1 4 o 2 = nI rc := by rw [g1 4 (by decide)]; exact r2
    have c4 : t.1 43 o i = nI c := by rw [g1 43 (by decide)]; exact q1.trans q3
    have c5 : t.1 44 o i = v 8 i := by rw [g1 44 (by decide)]; exact q2
    simp (disch := first | omega | decide) only [Nat.reduceAdd, Nat.reduceMul, ↓ev_bd, ↓ev_ck, ↓ev_if, ↓ev_lt, ↓ev_jn, ↓ev_so, ↓reduceIte, ↓ev_within, ↓ev_isBoard, ↓ev_isNumber, ↓ev_foundN, ↓ev_found_1, ↓ev_found_2, ↓ev_found_3, ↓ev_found_4, ↓ev_found_5, true_and, and_true, and_self, eq_self, not_true_eq_false, not_false_eq_true, ite_true, ite_false, true_or, or_true, false_or, or_false, false_and, and_false, ← zi_ni_0, ← zi_ni_1, ← zi_ni_2, ← zi_ni_3, ← zi_ni_4, ← zi_ni_5, ← zi_ni_6, ← zi_ni_7, ← zi_ni_8, ← zi_ni_9, ← zi_ni_10, ← zi_ni_12, ← zi_ni_24, ← zi_ni_25, ← zi_ni_40, ← zi_ni_45, ← zi_ni_47, ← zi_ni_48, ← zi_ni_95, ← zi_ni_96, ← zi_ni_97, ← zi_ni_100, ← zi_ni_144, ← zi_ni_288, nI_ltI, nI_leI, nI_eqI, nlt_T, nlt_F, nle_T, nle_F, neq_T, neq_F, nI_add, pk_mul, nI_clamp, q_inT, ng_lt, ng_tl, ng_le, ng_el, ng_eq, ng_qe, q_b0, q_b1, nar_0, nar_1, b01, b01', q_bn0, q_bn1, nar_n0, nar_n1, si_k, si_i, si_s, si_e, si_2, sl_1, sl_22, sl_k, sl_i, sl_s, sl_e, sp_1, sp_21, sp_22, sc_k, sc_i, sc_e, sc_2, mF_k, mF_2, mF_0, ↓eu_L_X8_addRivers_4, c2, c4, c5]
    refine K _ _ ⟨rfl, fun k q => by rw [si_k q]; exact g1 k q, g2, fun c' hc' => ?_⟩
    rw [si_c]
    show _ = if c' = (v 7 i).toNatClampNeg then rivF v i c' + v 8 i else rivF v i c'
    rw [q3, nI_clamp (by omega), g3 c hc, g3 c' hc']
    by_cases q : c' = c
    · rw [if_pos q, if_pos q, q]
    · rw [if_neg q, if_neg q]
  · rintro f b t ⟨rfl, g⟩
    show Ev (L_X8_addRivers_4 o (f + 1) _ (nI rc) t e) P
    have c2 : t.1 4 o 2 = nI rc := by rw [g.1 4 (by decide)]; exact r2
    simp (disch := first | omega | decide) only [Nat.reduceAdd, Nat.reduceMul, ↓ev_bd, ↓ev_ck, ↓ev_if, ↓ev_lt, ↓ev_jn, ↓ev_so, ↓reduceIte, ↓ev_within, ↓ev_isBoard, ↓ev_isNumber, ↓ev_foundN, ↓ev_found_1, ↓ev_found_2, ↓ev_found_3, ↓ev_found_4, ↓ev_found_5, true_and, and_true, and_self, eq_self, not_true_eq_false, not_false_eq_true, ite_true, ite_false, true_or, or_true, false_or, or_false, false_and, and_false, ← zi_ni_0, ← zi_ni_1, ← zi_ni_2, ← zi_ni_3, ← zi_ni_4, ← zi_ni_5, ← zi_ni_6, ← zi_ni_7, ← zi_ni_8, ← zi_ni_9, ← zi_ni_10, ← zi_ni_12, ← zi_ni_24, ← zi_ni_25, ← zi_ni_40, ← zi_ni_45, ← zi_ni_47, ← zi_ni_48, ← zi_ni_95, ← zi_ni_96, ← zi_ni_97, ← zi_ni_100, ← zi_ni_144, ← zi_ni_288, nI_ltI, nI_leI, nI_eqI, nlt_T, nlt_F, nle_T, nle_F, neq_T, neq_F, nI_add, pk_mul, nI_clamp, q_inT, ng_lt, ng_tl, ng_le, ng_el, ng_eq, ng_qe, q_b0, q_b1, nar_0, nar_1, b01, b01', q_bn0, q_bn1, nar_n0, nar_n1, si_k, si_i, si_s, si_e, si_2, sl_1, sl_22, sl_k, sl_i, sl_s, sl_e, sp_1, sp_21, sp_22, sc_k, sc_i, sc_e, sc_2, mF_k, mF_2, mF_0, ↓eu_L_X8_addRivers_4, c2]
    exact K0 _ g
theorem lp_too {v : qB} {o w h rc : Nat} {u : qM} {e1 e2 : qM → Option (Int32 × qM)} {P : Int32 → qM → Prop} (hd : DW v w h) (hn : SN v u o) (hr : rcN v = rc) (hz : ∀ c, c < w * h → u.1 49 0 c = rivF v rc c) (K0 : tmF v = false → Ev (e1 u) P) (K1 : tmF v = true → Ev (e2 u) P) : Ev (L_X8_tooMuch_2 o q_fu 0 u e1 e2) P := by
  obtain ⟨d1, d2, d3, d4, d5, d6, d7, d8, d9, d10⟩ := hd
  have c2 : u.1 2 o 12 = nI w := hn.2.1.trans d1
  have c3 : u.1 2 o 13 = nI h := hn.2.2.1.trans d2
  refine lpc (fun f x t => L_X8_tooMuch_2 o f x t e1 e2) (fun i t => t = u ∧ ∀ c, c < i → rivF v rc c ≤ 100000) (w * h) (by omega) u ⟨rfl, fun s hs => absurd hs (Nat.not_lt_zero _)⟩ ?_ ?_
  · rintro f i t hi ⟨rfl, g⟩ K
    show Ev (L_X8_tooMuch_2 o (f + 1) (nI i) t e1 e2) P
    have c5 := hz i hi
    by_cases hq : rivF v rc i ≤ 100000
    · simp (disch := first | omega | decide) only [Nat.reduceAdd, Nat.reduceMul, ↓ev_bd, ↓ev_ck, ↓ev_if, ↓ev_lt, ↓ev_jn, ↓ev_so, ↓reduceIte, ↓ev_within, ↓ev_isBoard, ↓ev_isNumber, ↓ev_foundN, ↓ev_found_1, ↓ev_found_2, ↓ev_found_3, ↓ev_found_4, ↓ev_found_5, true_and, and_true, and_self, eq_self, not_true_eq_false, not_false_eq_true, ite_true, ite_false, true_or, or_true, false_or, or_false, false_and, and_false, ← zi_ni_0, ← zi_ni_1, ← zi_ni_2, ← zi_ni_3, ← zi_ni_4, ← zi_ni_5, ← zi_ni_6, ← zi_ni_7, ← zi_ni_8, ← zi_ni_9, ← zi_ni_10, ← zi_ni_12, ← zi_ni_24, ← zi_ni_25, ← zi_ni_40, ← zi_ni_45, ← zi_ni_47, ← zi_ni_48, ← zi_ni_95, ← zi_ni_96, ← zi_ni_97, ← zi_ni_100, ← zi_ni_144, ← zi_ni_288, nI_ltI, nI_leI, nI_eqI, nlt_T, nlt_F, nle_T, nle_F, neq_T, neq_F, nI_add, pk_mul, nI_clamp, q_inT, ng_lt, ng_tl, ng_le, ng_el, ng_eq, ng_qe, q_b0, q_b1, nar_0, nar_1, b01, b01', q_bn0, q_bn1, nar_n0, nar_n1, si_k, si_i, si_s, si_e, si_2, sl_1, sl_22, sl_k, sl_i, sl_s, sl_e, sp_1, sp_21, sp_22, sc_k, sc_i, sc_e, sc_2, mF_k, mF_2, mF_0, ↓eu_L_X8_tooMuch_2, ↓eu_X0_cells, c2, c3, c5, hq]
      refine K _ ⟨rfl, fun c hc => ?_⟩
      by_cases q : c = i
      · rw [q]; exact hq
      · exact g c (by omega)
    · simp (disch := first | omega | decide) only [Nat.reduceAdd, Nat.reduceMul, ↓ev_bd, ↓ev_ck, ↓ev_if, ↓ev_lt, ↓ev_jn, ↓ev_so, ↓reduceIte, ↓ev_within, ↓ev_isBoard, ↓ev_isNumber, ↓ev_foundN, ↓ev_found_1, ↓ev_found_2, ↓ev_found_3, ↓ev_found_4, ↓ev_found_5, true_and, and_true, and_self, eq_self, not_true_eq_false, not_false_eq_true, ite_true, ite_false, true_or, or_true, false_or, or_false, false_and, and_false, ← zi_ni_0, ← zi_ni_1, ← zi_ni_2, ← zi_ni_3, ← zi_ni_4, ← zi_ni_5, ← zi_ni_6, ← zi_ni_7, ← zi_ni_8, ← zi_ni_9, ← zi_ni_10, ← zi_ni_12, ← zi_ni_24, ← zi_ni_25, ← zi_ni_40, ← zi_ni_45, ← zi_ni_47, ← zi_ni_48, ← zi_ni_95, ← zi_ni_96, ← zi_ni_97, ← zi_ni_100, ← zi_ni_144, ← zi_ni_288, nI_ltI, nI_leI, nI_eqI, nlt_T, nlt_F, nle_T, nle_F, neq_T, neq_F, nI_add, pk_mul, nI_clamp, q_inT, ng_lt, ng_tl, ng_le, ng_el, ng_eq, ng_qe, q_b0, q_b1, nar_0, nar_1, b01, b01', q_bn0, q_bn1, nar_n0, nar_n1, si_k, si_i, si_s, si_e, si_2, sl_1, sl_22, sl_k, sl_i, sl_s, sl_e, sp_1, sp_21, sp_22, sc_k, sc_i, sc_e, sc_2, mF_k, mF_2, mF_0, ↓eu_L_X8_tooMuch_2, ↓eu_X0_cells, c2, c3, c5, hq]
      exact K1 (tmF_t (by rw [d9]; exact hi) (by rw [hr]; exact hq))
  · rintro f t ⟨rfl, g⟩
    show Ev (L_X8_tooMuch_2 o (f + 1) (nI (w * h)) t e1 e2) P
    simp (disch := first | omega | decide) only [Nat.reduceAdd, Nat.reduceMul, ↓ev_bd, ↓ev_ck, ↓ev_if, ↓ev_lt, ↓ev_jn, ↓ev_so, ↓reduceIte, ↓ev_within, ↓ev_isBoard, ↓ev_isNumber, ↓ev_foundN, ↓ev_found_1, ↓ev_found_2, ↓ev_found_3, ↓ev_found_4, ↓ev_found_5, true_and, and_true, and_self, eq_self, not_true_eq_false, not_false_eq_true, ite_true, ite_false, true_or, or_true, false_or, or_false, false_and, and_false, ← zi_ni_0, ← zi_ni_1, ← zi_ni_2, ← zi_ni_3, ← zi_ni_4, ← zi_ni_5, ← zi_ni_6, ← zi_ni_7, ← zi_ni_8, ← zi_ni_9, ← zi_ni_10, ← zi_ni_12, ← zi_ni_24, ← zi_ni_25, ← zi_ni_40, ← zi_ni_45, ← zi_ni_47, ← zi_ni_48, ← zi_ni_95, ← zi_ni_96, ← zi_ni_97, ← zi_ni_100, ← zi_ni_144, ← zi_ni_288, nI_ltI, nI_leI, nI_eqI, nlt_T, nlt_F, nle_T, nle_F, neq_T, neq_F, nI_add, pk_mul, nI_clamp, q_inT, ng_lt, ng_tl, ng_le, ng_el, ng_eq, ng_qe, q_b0, q_b1, nar_0, nar_1, b01, b01', q_bn0, q_bn1, nar_n0, nar_n1, si_k, si_i, si_s, si_e, si_2, sl_1, sl_22, sl_k, sl_i, sl_s, sl_e, sp_1, sp_21, sp_22, sc_k, sc_i, sc_e, sc_2, mF_k, mF_2, mF_0, ↓eu_L_X8_tooMuch_2, ↓eu_X0_cells, c2, c3]
    exact K0 (tmF_f (fun c hc => by rw [d9] at hc; rw [hr]; exact g c hc))
theorem lp_carry {v : qB} {o w h k : Nat} {u : qM} {e : qM → Option (Unit × qM)} {P : Unit → qM → Prop} (hk : k < 3) (hd : DW v w h) (hw2 : ∀ c, 0 ≤ (v 2 c).toInt) (hn : SN v u o) (hp : ∀ s, ¬ lfl v s = nI 0 → ¬ v 2 (srcF v (lfl v s) s) = nI 0) (h39 : ∀ c, c < w * h → u.1 39 o (k * 48 + c) = v 3 (k * 48 + c)) (hf : ∀ s, s < 2 * (w * h) → u.1 47 0 s = lfl v s) (hz : ∀ c, c < w * h → u.1 50 0 c = v 3 (k * 48 + c)) (K0 : ∀ u', (∀ a, a ≠ 50 → u'.1 a = u.1 a) ∧ u'.2 = u.2 ∧ (∀ c, c < w * h → u'.1 50 0 c = stuF v k (2 * (w * h)) c) → Ev (e u') P) : Ev (L_X8_carryStuff_19 o (nI (k * 48)) q_fu 0 u e) P := by
  have hd' := hd
  obtain ⟨d1, d2, d3, d4, d5, d6, d7, d8, d9, d10⟩ := hd'
  refine lpc (fun f x t => L_X8_carryStuff_19 o (nI (k * 48)) f x t e) (fun i t => (∀ a, a ≠ 50 → t.1 a = u.1 a) ∧ t.2 = u.2 ∧ (∀ c, c < w * h → t.1 50 0 c = stuF v k i c)) (2 * (w * h)) (by omega) u ⟨fun _ _ => rfl, rfl, hz⟩ ?_ ?_
  · rintro f i t hi ⟨g1, g2, g3⟩ K
    show Ev (L_X8_carryStuff_19 o (nI (k * 48)) (f + 1) (nI i) t e) P
    have hn' : SN v t o := hn.k (fun k q1 q2 q3 q4 => g1 k q4)
    have c2 : t.1 2 o 12 = nI w := hn'.2.1.trans d1
    have c3 : t.1 2 o 13 = nI h := hn'.2.2.1.trans d2
    have c7 : t.1 47 0 i = lfl v i := by rw [g1 47 (by decide)]; exact hf i hi
    have ho : ∀ c, stuF v k (i + 1) c = if lfl v i = nI 0 then stuF v k i c else if c = srcF v (lfl v i) i then stuF v k i c - shr (v 3 (k * 48 + c)) (ab (lfl v i)) (v 2 c) else if c = dstF v (lfl v i) i then stuF v k i c + shr (v 3 (k * 48 + srcF v (lfl v i) i)) (ab (lfl v i)) (v 2 (srcF v (lfl v i) i)) else stuF v k i c := fun _ => rfl
    by_cases hq : lfl v i = nI 0
    · simp (disch := first | omega | decide) only [Nat.reduceAdd, Nat.reduceMul, ↓ev_bd, ↓ev_ck, ↓ev_if, ↓ev_lt, ↓ev_jn, ↓ev_so, ↓reduceIte, ↓ev_within, ↓ev_isBoard, ↓ev_isNumber, ↓ev_foundN, ↓ev_found_1, ↓ev_found_2, ↓ev_found_3, ↓ev_found_4, ↓ev_found_5, true_and, and_true, and_self, eq_self, not_true_eq_false, not_false_eq_true, ite_true, ite_false, true_or, or_true, false_or, or_false, false_and, and_false, ← zi_ni_0, ← zi_ni_1, ← zi_ni_2, ← zi_ni_3, ← zi_ni_4, ← zi_ni_5, ← zi_ni_6, ← zi_ni_7, ← zi_ni_8, ← zi_ni_9, ← zi_ni_10, ← zi_ni_12, ← zi_ni_24, ← zi_ni_25, ← zi_ni_40, ← zi_ni_45, ← zi_ni_47, ← zi_ni_48, ← zi_ni_95, ← zi_ni_96, ← zi_ni_97, ← zi_ni_100, ← zi_ni_144, ← zi_ni_288, nI_ltI, nI_leI, nI_eqI, nlt_T, nlt_F, nle_T, nle_F, neq_T, neq_F, nI_add, pk_mul, nI_clamp, q_inT, ng_lt, ng_tl, ng_le, ng_el, ng_eq, ng_qe, q_b0, q_b1, nar_0, nar_1, b01, b01', q_bn0, q_bn1, nar_n0, nar_n1, si_k, si_i, si_s, si_e, si_2, sl_1, sl_22, sl_k, sl_i, sl_s, sl_e, sp_1, sp_21, sp_22, sc_k, sc_i, sc_e, sc_2, mF_k, mF_2, mF_0, ↓eu_L_X8_carryStuff_19, ↓eu_X0_cells, c2, c3, c7, hq]
      refine K _ ⟨g1, g2, fun c hc => ?_⟩
      rw [ho, if_pos hq]
      exact g3 c hc
    · obtain ⟨l1, l2, l3⟩ := srcF_lt (f := lfl v i) hd (lfl_sd hq)
      have c8 : t.1 39 o (k * 48 + srcF v (lfl v i) i) = v 3 (k * 48 + srcF v (lfl v i) i) := by rw [g1 39 (by decide)]; exact h39 _ l1
      have c9 : t.1 38 o (srcF v (lfl v i) i) = v 2 (srcF v (lfl v i) i) := hn'.2.2.2.2.2.2.2.2.1 _ (by omega)
      have hpos : 0 < (v 2 (srcF v (lfl v i) i)).toInt := by
        have z1 := hw2 (srcF v (lfl v i) i)
        have z2 := hp i hq
        rw [x_eq, nI_toInt (by decide)] at z2
        omega
      have body : ∀ j, j = dstF v (lfl v i) i → Ev (f_X8_share (v 3 (k * 48 + srcF v (lfl v i) i)) (if nI 0 ≤ lfl v i then lfl v i else nI 0 - lfl v i) (v 2 (srcF v (lfl v i) i)) t) (fun x8 u8 => Ev (L_X8_carryStuff_19 o (nI (k * 48)) f (nI (i + 1)) (q_si (q_si u8 50 0 (srcF v (lfl v i) i) (u8.1 50 0 (srcF v (lfl v i) i) - x8)) 50 0 j (u8.1 50 0 j + x8)) e) P) := by
        intro j hj
        refine ev_share hpos ?_
        refine K _ ⟨fun a q => by rw [si_k q, si_k q]; exact g1 a q, g2, fun c hc => ?_⟩
        rw [ho, if_neg hq, si_c, si_c, hj]
        by_cases q : c = dstF v (lfl v i) i
        · have q0 : ¬ c = srcF v (lfl v i) i := by rw [q]; exact fun z => l3 z.symm
          rw [if_pos q, if_neg q0, if_pos q, q, g3 _ l2]
          rfl
        · rw [if_neg q]
          by_cases q2 : c = srcF v (lfl v i) i
          · rw [if_pos q2, if_pos q2, q2, g3 _ l1]
            rfl
          · rw [if_neg q2, if_neg q2, if_neg q]
            exact g3 c hc
      simp (disch := first | omega | decide) only [Nat.reduceAdd, Nat.reduceMul, ↓ev_bd, ↓ev_ck, ↓ev_if, ↓ev_lt, ↓ev_jn, ↓ev_so, ↓reduceIte, ↓ev_within, ↓ev_isBoard, ↓ev_isNumber, ↓ev_foundN, ↓ev_found_1, ↓ev_found_2, ↓ev_found_3, ↓ev_found_4, ↓ev_found_5, true_and, and_true, and_self, eq_self, not_true_eq_false, not_false_eq_true, ite_true, ite_false, true_or, or_true, false_or, or_false, false_and, and_false, ← zi_ni_0, ← zi_ni_1, ← zi_ni_2, ← zi_ni_3, ← zi_ni_4, ← zi_ni_5, ← zi_ni_6, ← zi_ni_7, ← zi_ni_8, ← zi_ni_9, ← zi_ni_10, ← zi_ni_12, ← zi_ni_24, ← zi_ni_25, ← zi_ni_40, ← zi_ni_45, ← zi_ni_47, ← zi_ni_48, ← zi_ni_95, ← zi_ni_96, ← zi_ni_97, ← zi_ni_100, ← zi_ni_144, ← zi_ni_288, nI_ltI, nI_leI, nI_eqI, nlt_T, nlt_F, nle_T, nle_F, neq_T, neq_F, nI_add, pk_mul, nI_clamp, q_inT, ng_lt, ng_tl, ng_le, ng_el, ng_eq, ng_qe, q_b0, q_b1, nar_0, nar_1, b01, b01', q_bn0, q_bn1, nar_n0, nar_n1, si_k, si_i, si_s, si_e, si_2, sl_1, sl_22, sl_k, sl_i, sl_s, sl_e, sp_1, sp_21, sp_22, sc_k, sc_i, sc_e, sc_2, mF_k, mF_2, mF_0, ↓eu_L_X8_carryStuff_19, ↓eu_X0_cells, c2, c3, c7, hq]
      refine ev_source hd (by omega) hn' c7 ?_
      by_cases hs : lfl v i ≤ nI 0
      · have hj : i / 2 = dstF v (lfl v i) i := by unfold dstF; rw [if_pos hs]
        have l1' : srcF v (lfl v i) i < 48 := by omega
        simp (disch := first | omega | decide) only [Nat.reduceAdd, Nat.reduceMul, ↓ev_bd, ↓ev_ck, ↓ev_if, ↓ev_lt, ↓ev_jn, ↓ev_so, ↓reduceIte, ↓ev_within, ↓ev_isBoard, ↓ev_isNumber, ↓ev_foundN, ↓ev_found_1, ↓ev_found_2, ↓ev_found_3, ↓ev_found_4, ↓ev_found_5, true_and, and_true, and_self, eq_self, not_true_eq_false, not_false_eq_true, ite_true, ite_false, true_or, or_true, false_or, or_false, false_and, and_false, ← zi_ni_0, ← zi_ni_1, ← zi_ni_2, ← zi_ni_3, ← zi_ni_4, ← zi_ni_5, ← zi_ni_6, ← zi_ni_7, ← zi_ni_8, ← zi_ni_9, ← zi_ni_10, ← zi_ni_12, ← zi_ni_24, ← zi_ni_25, ← zi_ni_40, ← zi_ni_45, ← zi_ni_47, ← zi_ni_48, ← zi_ni_95, ← zi_ni_96, ← zi_ni_97, ← zi_ni_100, ← zi_ni_144, ← zi_ni_288, nI_ltI, nI_leI, nI_eqI, nlt_T, nlt_F, nle_T, nle_F, neq_T, neq_F, nI_add, pk_mul, nI_clamp, q_inT, ng_lt, ng_tl, ng_le, ng_el, ng_eq, ng_qe, q_b0, q_b1, nar_0, nar_1, b01, b01', q_bn0, q_bn1, nar_n0, nar_n1, si_k, si_i, si_s, si_e, si_2, sl_1, sl_22, sl_k, sl_i, sl_s, sl_e, sp_1, sp_21, sp_22, sc_k, sc_i, sc_e, sc_2, mF_k, mF_2, mF_0, c7, hs, c8, c9, pk_div]
        refine (body _ hj).mono (fun x8 u8 hx => ?_)
        have hne : ¬ i / 2 = srcF v (lfl v i) i := by rw [hj]; exact fun z => l3 z.symm
        try simp (disch := first | omega | decide) only [Nat.reduceAdd, Nat.reduceMul, ↓ev_bd, ↓ev_ck, ↓ev_if, ↓ev_lt, ↓ev_jn, ↓ev_so, ↓reduceIte, ↓ev_within, ↓ev_isBoard, ↓ev_isNumber, ↓ev_foundN, ↓ev_found_1, ↓ev_found_2, ↓ev_found_3, ↓ev_found_4, ↓ev_found_5, true_and, and_true, and_self, eq_self, not_true_eq_false, not_false_eq_true, ite_true, ite_false, true_or, or_true, false_or, or_false, false_and, and_false, ← zi_ni_0, ← zi_ni_1, ← zi_ni_2, ← zi_ni_3, ← zi_ni_4, ← zi_ni_5, ← zi_ni_6, ← zi_ni_7, ← zi_ni_8, ← zi_ni_9, ← zi_ni_10, ← zi_ni_12, ← zi_ni_24, ← zi_ni_25, ← zi_ni_40, ← zi_ni_45, ← zi_ni_47, ← zi_ni_48, ← zi_ni_95, ← zi_ni_96, ← zi_ni_97, ← zi_ni_100, ← zi_ni_144, ← zi_ni_288, nI_ltI, nI_leI, nI_eqI, nlt_T, nlt_F, nle_T, nle_F, neq_T, neq_F, nI_add, pk_mul, nI_clamp, q_inT, ng_lt, ng_tl, ng_le, ng_el, ng_eq, ng_qe, q_b0, q_b1, nar_0, nar_1, b01, b01', q_bn0, q_bn1, nar_n0, nar_n1, si_k, si_i, si_s, si_e, si_2, sl_1, sl_22, sl_k, sl_i, sl_s, sl_e, sp_1, sp_21, sp_22, sc_k, sc_i, sc_e, sc_2, mF_k, mF_2, mF_0, c7, hs, hne]
        simpa (disch := first | omega | decide) only [si_k, si_i, si_s, si_e, si_2, sl_1, sl_22, sl_k, sl_i, sl_s, sl_e, sp_1, sp_21, sp_22, sc_k, sc_i, sc_e, sc_2, mF_k, mF_2, mF_0, hne, if_false] using hx
      · have hj : far w i = dstF v (lfl v i) i := by unfold dstF; rw [if_neg hs, d7]
        have l1' : srcF v (lfl v i) i < 48 := by omega
        have l2' : far w i < 48 := by rw [hj]; omega
        simp (disch := first | omega | decide) only [Nat.reduceAdd, Nat.reduceMul, ↓ev_bd, ↓ev_ck, ↓ev_if, ↓ev_lt, ↓ev_jn, ↓ev_so, ↓reduceIte, ↓ev_within, ↓ev_isBoard, ↓ev_isNumber, ↓ev_foundN, ↓ev_found_1, ↓ev_found_2, ↓ev_found_3, ↓ev_found_4, ↓ev_found_5, true_and, and_true, and_self, eq_self, not_true_eq_false, not_false_eq_true, ite_true, ite_false, true_or, or_true, false_or, or_false, false_and, and_false, ← zi_ni_0, ← zi_ni_1, ← zi_ni_2, ← zi_ni_3, ← zi_ni_4, ← zi_ni_5, ← zi_ni_6, ← zi_ni_7, ← zi_ni_8, ← zi_ni_9, ← zi_ni_10, ← zi_ni_12, ← zi_ni_24, ← zi_ni_25, ← zi_ni_40, ← zi_ni_45, ← zi_ni_47, ← zi_ni_48, ← zi_ni_95, ← zi_ni_96, ← zi_ni_97, ← zi_ni_100, ← zi_ni_144, ← zi_ni_288, nI_ltI, nI_leI, nI_eqI, nlt_T, nlt_F, nle_T, nle_F, neq_T, neq_F, nI_add, pk_mul, nI_clamp, q_inT, ng_lt, ng_tl, ng_le, ng_el, ng_eq, ng_qe, q_b0, q_b1, nar_0, nar_1, b01, b01', q_bn0, q_bn1, nar_n0, nar_n1, si_k, si_i, si_s, si_e, si_2, sl_1, sl_22, sl_k, sl_i, sl_s, sl_e, sp_1, sp_21, sp_22, sc_k, sc_i, sc_e, sc_2, mF_k, mF_2, mF_0, c7, hs, c8, c9, pk_div]
        refine ev_farCell hd (by omega) hn' ?_
        simp (disch := first | omega | decide) only [Nat.reduceAdd, Nat.reduceMul, ↓ev_bd, ↓ev_ck, ↓ev_if, ↓ev_lt, ↓ev_jn, ↓ev_so, ↓reduceIte, ↓ev_within, ↓ev_isBoard, ↓ev_isNumber, ↓ev_foundN, ↓ev_found_1, ↓ev_found_2, ↓ev_found_3, ↓ev_found_4, ↓ev_found_5, true_and, and_true, and_self, eq_self, not_true_eq_false, not_false_eq_true, ite_true, ite_false, true_or, or_true, false_or, or_false, false_and, and_false, ← zi_ni_0, ← zi_ni_1, ← zi_ni_2, ← zi_ni_3, ← zi_ni_4, ← zi_ni_5, ← zi_ni_6, ← zi_ni_7, ← zi_ni_8, ← zi_ni_9, ← zi_ni_10, ← zi_ni_12, ← zi_ni_24, ← zi_ni_25, ← zi_ni_40, ← zi_ni_45, ← zi_ni_47, ← zi_ni_48, ← zi_ni_95, ← zi_ni_96, ← zi_ni_97, ← zi_ni_100, ← zi_ni_144, ← zi_ni_288, nI_ltI, nI_leI, nI_eqI, nlt_T, nlt_F, nle_T, nle_F, neq_T, neq_F, nI_add, pk_mul, nI_clamp, q_inT, ng_lt, ng_tl, ng_le, ng_el, ng_eq, ng_qe, q_b0, q_b1, nar_0, nar_1, b01, b01', q_bn0, q_bn1, nar_n0, nar_n1, si_k, si_i, si_s, si_e, si_2, sl_1, sl_22, sl_k, sl_i, sl_s, sl_e, sp_1, sp_21, sp_22, sc_k, sc_i, sc_e, sc_2, mF_k, mF_2, mF_0, c7, hs, c8, c9, pk_div]
        refine (body _ hj).mono (fun x8 u8 hx => ?_)
        have hne : ¬ far w i = srcF v (lfl v i) i := by rw [hj]; exact fun z => l3 z.symm
        try simp (disch := first | omega | decide) only [Nat.reduceAdd, Nat.reduceMul, ↓ev_bd, ↓ev_ck, ↓ev_if, ↓ev_lt, ↓ev_jn, ↓ev_so, ↓reduceIte, ↓ev_within, ↓ev_isBoard, ↓ev_isNumber, ↓ev_foundN, ↓ev_found_1, ↓ev_found_2, ↓ev_found_3, ↓ev_found_4, ↓ev_found_5, true_and, and_true, and_self, eq_self, not_true_eq_false, not_false_eq_true, ite_true, ite_false, true_or, or_true, false_or, or_false, false_and, and_false, ← zi_ni_0, ← zi_ni_1, ← zi_ni_2, ← zi_ni_3, ← zi_ni_4, ← zi_ni_5, ← zi_ni_6, ← zi_ni_7, ← zi_ni_8, ← zi_ni_9, ← zi_ni_10, ← zi_ni_12, ← zi_ni_24, ← zi_ni_25, ← zi_ni_40, ← zi_ni_45, ← zi_ni_47, ← zi_ni_48, ← zi_ni_95, ← zi_ni_96, ← zi_ni_97, ← zi_ni_100, ← zi_ni_144, ← zi_ni_288, nI_ltI, nI_leI, nI_eqI, nlt_T, nlt_F, nle_T, nle_F, neq_T, neq_F, nI_add, pk_mul, nI_clamp, q_inT, ng_lt, ng_tl, ng_le, ng_el, ng_eq, ng_qe, q_b0, q_b1, nar_0, nar_1, b01, b01', q_bn0, q_bn1, nar_n0, nar_n1, si_k, si_i, si_s, si_e, si_2, sl_1, sl_22, sl_k, sl_i, sl_s, sl_e, sp_1, sp_21, sp_22, sc_k, sc_i, sc_e, sc_2, mF_k, mF_2, mF_0, c7, hs, hne]
        simpa (disch := first | omega | decide) only [si_k, si_i, si_s, si_e, si_2, sl_1, sl_22, sl_k, sl_i, sl_s, sl_e, sp_1, sp_21, sp_22, sc_k, sc_i, sc_e, sc_2, mF_k, mF_2, mF_0, hne, if_false] using hx
  · rintro f t g
    show Ev (L_X8_carryStuff_19 o (nI (k * 48)) (f + 1) (nI (2 * (w * h))) t e) P
    have hn' : SN v t o := hn.k (fun k q1 q2 q3 q4 => g.1 k q4)
    have c2 : t.1 2 o 12 = nI w := hn'.2.1.trans d1
    have c3 : t.1 2 o 13 = nI h := hn'.2.2.1.trans d2
    simp (disch := first | omega | decide) only [Nat.reduceAdd, Nat.reduceMul, ↓ev_bd, ↓ev_ck, ↓ev_if, ↓ev_lt, ↓ev_jn, ↓ev_so, ↓reduceIte, ↓ev_within, ↓ev_isBoard, ↓ev_isNumber, ↓ev_foundN, ↓ev_found_1, ↓ev_found_2, ↓ev_found_3, ↓ev_found_4, ↓ev_found_5, true_and, and_true, and_self, eq_self, not_true_eq_false, not_false_eq_true, ite_true, ite_false, true_or, or_true, false_or, or_false, false_and, and_false, ← zi_ni_0, ← zi_ni_1, ← zi_ni_2, ← zi_ni_3, ← zi_ni_4, ← zi_ni_5, ← zi_ni_6, ← zi_ni_7, ← zi_ni_8, ← zi_ni_9, ← zi_ni_10, ← zi_ni_12, ← zi_ni_24, ← zi_ni_25, ← zi_ni_40, ← zi_ni_45, ← zi_ni_47, ← zi_ni_48, ← zi_ni_95, ← zi_ni_96, ← zi_ni_97, ← zi_ni_100, ← zi_ni_144, ← zi_ni_288, nI_ltI, nI_leI, nI_eqI, nlt_T, nlt_F, nle_T, nle_F, neq_T, neq_F, nI_add, pk_mul, nI_clamp, q_inT, ng_lt, ng_tl, ng_le, ng_el, ng_eq, ng_qe, q_b0, q_b1, nar_0, nar_1, b01, b01', q_bn0, q_bn1, nar_n0, nar_n1, si_k, si_i, si_s, si_e, si_2, sl_1, sl_22, sl_k, sl_i, sl_s, sl_e, sp_1, sp_21, sp_22, sc_k, sc_i, sc_e, sc_2, mF_k, mF_2, mF_0, ↓eu_L_X8_carryStuff_19, ↓eu_X0_cells, c2, c3]
    exact K0 _ g


