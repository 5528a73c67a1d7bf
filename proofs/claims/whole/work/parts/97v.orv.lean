/-! fault; a text is what its places are. -/
theorem tsk_c {f g : Nat → Int32} {L : Nat} (h : ∀ i, i < L → f i = g i) : ∀ d a, a + d ≤ L → tsk f d a = tsk g d a
  | 0, _, _ => rfl
  | d + 1, a, hd => by
    unfold tsk
    rw [h a (by omega), tsk_c h d (a + 1) (by omega)]
theorem tdg_c {f g : Nat → Int32} {L : Nat} (h : ∀ i, i < L → f i = g i) : ∀ d a, a + d ≤ L → tdg f d a = tdg g d a
  | 0, _, _ => rfl
  | d + 1, a, hd => by
    unfold tdg
    rw [h a (by omega), tdg_c h d (a + 1) (by omega)]
theorem tvl_c {f g : Nat → Int32} {L a : Nat} (h : ∀ i, i < L → f i = g i) : ∀ k, a + k ≤ L → tvl f a k = tvl g a k
  | 0, _ => rfl
  | k + 1, hd => by
    unfold tvl
    rw [h (a + k) (by omega), tvl_c h k (by omega)]
theorem tC_c {f g : Nat → Int32} {L a : Nat} (h : ∀ i, i < L → f i = g i) : tC f L a = tC g L a := by
  unfold tC
  by_cases q : a + 1 < L
  · rw [h (a + 1) q]
  · rw [if_neg (fun z => q z.1), if_neg (fun z => q z.1)]
theorem tX_c {f g : Nat → Int32} {L a : Nat} (h : ∀ i, i < L → f i = g i) (ha : a < L) : tX f L a = tX g L a := by
  have hC := tC_le (f := f) (L := L) (a := a) ha
  have e := tC_c (a := a) h
  have e2 : tdg f (L - tC f L a) (tC f L a) = tdg g (L - tC f L a) (tC f L a) := tdg_c h _ _ (by omega)
  have hle := tdg_le (f := f) (L - tC f L a) (tC f L a)
  have e3 : tvl f (tC f L a) (tdg f (L - tC f L a) (tC f L a)) = tvl g (tC f L a) (tdg f (L - tC f L a) (tC f L a)) := tvl_c h _ (by omega)
  unfold tX
  rw [e3, ← e, ← e2]
  by_cases q : a + 1 < L
  · rw [h (a + 1) q]
  · rw [if_neg (fun z => q z.1), if_neg (fun z => q z.1)]
theorem tIt_c {f g : Nat → Int32} {L a : Nat} {st : Int32} (h : ∀ i, i < L → f i = g i) (ha : a < L) : tIt f L a st = tIt g L a st := by
  have hC := tC_le (f := f) (L := L) (a := a) ha
  have e := tC_c (a := a) h
  have e2 : tdg f (L - tC f L a) (tC f L a) = tdg g (L - tC f L a) (tC f L a) := tdg_c h _ _ (by omega)
  have e3 := tX_c h ha
  have e4 : tS f L a st = tS g L a st := by
    unfold tS
    rw [h a ha, e3]
  unfold tIt
  rw [e4, e3, ← e, e2, h a ha]
theorem tAl_c {f g : Nat → Int32} {L : Nat} (h : ∀ i, i < L → f i = g i) : ∀ n a st, a ≤ L → tAl f L n a st = tAl g L n a st
  | 0, _, _, _ => rfl
  | n + 1, a, st, ha => by
    have hb := tsk_le (f := f) (L - a) a
    have e1 : tsk f (L - a) a = tsk g (L - a) a := tsk_c h _ _ (by omega)
    by_cases q : L ≤ tsk f (L - a) a
    · rw [tAl_e q, tAl_e (by rw [← e1]; exact q)]
    · have e2 : tIt f L (tsk f (L - a) a) st = tIt g L (tsk g (L - a) a) st := by
        rw [← e1]
        exact tIt_c h (by omega)
      have q2 : ¬ L ≤ tsk g (L - a) a := by rw [← e1]; exact q
      cases hz : tIt f L (tsk f (L - a) a) st with
      | inl p => rw [tAl_l q hz, tAl_l q2 (e2 ▸ hz)]
      | inr r =>
        obtain ⟨x, c, st'⟩ := r
        obtain ⟨-, w2, -, -⟩ := tIt_r (by omega) hz
        rw [tAl_r q hz, tAl_r q2 (e2 ▸ hz), tAl_c h n c st' w2, ← e1, h (tsk f (L - a) a) (by omega)]
theorem Rel.txt {n t : Nat} {μ : qM} (h : Rel n μ) (ht : t < 6) : (μ.1 33 1 t = -nI 1 ∧ μ.1 69 0 t = -nI 9) ∨ ∃ L, L ≤ 40 ∧ μ.1 33 1 t = nI L ∧ μ.1 69 0 t = nI L ∧ SRC 70 0 (40 * t) L (μ.1 31 t) μ := by
  rcases h.2.2.1 t ht with z | ⟨L, hL, e1, e2, e3⟩
  · exact .inl z
  · exact .inr ⟨L, hL, e1, e2, hL, by rw [al_70]; omega, by rw [al_70]; decide, by decide, by decide, by decide, e3⟩
theorem SRC.fo {k1 i1 B L : Nat} {f : Nat → Int32} {u u' : qM} (h : SRC k1 i1 B L f u) (hk : k1 ≠ 7) (g : FO u u') : SRC k1 i1 B L f u' := by
  obtain ⟨a1, a2, a3, a4, a5, a6, a7⟩ := h
  exact ⟨a1, a2, a3, a4, a5, a6, fun i hi => (g.1 k1 i1 _ (by omega)).trans (a7 i hi)⟩
theorem op_fault (a : Int32) : Op (f_X10_fault a) (f_X11_fault a) := by
  intro n μ hn h
  rcases y_ix6 a with ⟨t, ht, rfl⟩ | ha
  · have hs : q_in (nI t) (q_slen 1) = true := by rw [slen_6 (by decide)]; exact q_inT ht (by decide)
    rcases h.txt ht with ⟨e1, e2⟩ | ⟨L, hL, e1, e2, hS⟩
    · simp (disch := first | omega | decide) only [Nat.reduceAdd, Nat.reduceMul, ↓ev_bd, ↓ev_ck, ↓ev_if, ↓ev_lt, ↓ev_jn, ↓ev_so, ↓reduceIte, ↓ev_within, ↓ev_in, ↓ev_isBoard, ↓ev_isGauge, ↓ev_isNumber, ↓ev_isSix, ↓ev_isEight, ↓ev_foundN, ↓ev_meetsN, ↓ev_found_1, ↓ev_meets_1, ↓ev_found_2, ↓ev_meets_2, ↓ev_found_3, ↓ev_meets_3, ↓ev_found_4, ↓ev_meets_4, ↓ev_found_5, ↓ev_meets_5, true_and, and_true, and_self, eq_self, not_true_eq_false, not_false_eq_true, ite_true, ite_false, true_or, or_true, false_or, or_false, false_and, and_false, ← zi_ni_0, ← zi_ni_1, ← zi_ni_2, ← zi_ni_3, ← zi_ni_4, ← zi_ni_5, ← zi_ni_6, ← zi_ni_7, ← zi_ni_8, ← zi_ni_9, ← zi_ni_10, ← zi_ni_12, ← zi_ni_24, ← zi_ni_25, ← zi_ni_40, ← zi_ni_45, ← zi_ni_47, ← zi_ni_48, ← zi_ni_95, ← zi_ni_96, ← zi_ni_97, ← zi_ni_100, ← zi_ni_144, ← zi_ni_288, nI_ltI, nI_leI, nI_eqI, nlt_T, nlt_F, nle_T, nle_F, neq_T, neq_F, nI_add, pk_mul, nI_clamp, q_inT, ng_lt, ng_tl, ng_le, ng_el, ng_eq, ng_qe, q_b0, q_b1, nar_0, nar_1, b01, b01', q_bn0, q_bn1, nar_n0, nar_n1, si_k, si_i, si_s, si_e, si_2, sl_1, sl_22, sl_k, sl_i, sl_s, sl_e, sp_1, sp_21, sp_22, sc_k, sc_i, sc_e, sc_2, mF_k, mM_k, mF_2, mM_2, mF_0, mM_11, ↓eu_X10_fault, ↓eu_X11_fault, ↓eu_X7_isThere, ↓eu_X11_lookedText, hs, e1, e2]
      exact h.met
    · refine Ev.hide (fun P' K => ?_)
      simp (disch := first | omega | decide) only [Nat.reduceAdd, Nat.reduceMul, ↓ev_bd, ↓ev_ck, ↓ev_if, ↓ev_lt, ↓ev_jn, ↓ev_so, ↓reduceIte, ↓ev_within, ↓ev_in, ↓ev_isBoard, ↓ev_isGauge, ↓ev_isNumber, ↓ev_isSix, ↓ev_isEight, ↓ev_foundN, ↓ev_meetsN, ↓ev_found_1, ↓ev_meets_1, ↓ev_found_2, ↓ev_meets_2, ↓ev_found_3, ↓ev_meets_3, ↓ev_found_4, ↓ev_meets_4, ↓ev_found_5, ↓ev_meets_5, true_and, and_true, and_self, eq_self, not_true_eq_false, not_false_eq_true, ite_true, ite_false, true_or, or_true, false_or, or_false, false_and, and_false, ← zi_ni_0, ← zi_ni_1, ← zi_ni_2, ← zi_ni_3, ← zi_ni_4, ← zi_ni_5, ← zi_ni_6, ← zi_ni_7, ← zi_ni_8, ← zi_ni_9, ← zi_ni_10, ← zi_ni_12, ← zi_ni_24, ← zi_ni_25, ← zi_ni_40, ← zi_ni_45, ← zi_ni_47, ← zi_ni_48, ← zi_ni_95, ← zi_ni_96, ← zi_ni_97, ← zi_ni_100, ← zi_ni_144, ← zi_ni_288, nI_ltI, nI_leI, nI_eqI, nlt_T, nlt_F, nle_T, nle_F, neq_T, neq_F, nI_add, pk_mul, nI_clamp, q_inT, ng_lt, ng_tl, ng_le, ng_el, ng_eq, ng_qe, q_b0, q_b1, nar_0, nar_1, b01, b01', q_bn0, q_bn1, nar_n0, nar_n1, si_k, si_i, si_s, si_e, si_2, sl_1, sl_22, sl_k, sl_i, sl_s, sl_e, sp_1, sp_21, sp_22, sc_k, sc_i, sc_e, sc_2, mF_k, mM_k, mF_2, mM_2, mF_0, mM_11, ↓eu_X10_fault, ↓eu_X11_fault, ↓eu_X7_isThere, ↓eu_X11_lookedText, hs, e1]
      refine ev_faultOf ht hL e1 (fun u1 g1 => ?_)
      try simp (disch := first | omega | decide) only [Nat.reduceAdd, Nat.reduceMul, ↓ev_bd, ↓ev_ck, ↓ev_if, ↓ev_lt, ↓ev_jn, ↓ev_so, ↓reduceIte, ↓ev_within, ↓ev_in, ↓ev_isBoard, ↓ev_isGauge, ↓ev_isNumber, ↓ev_isSix, ↓ev_isEight, ↓ev_foundN, ↓ev_meetsN, ↓ev_found_1, ↓ev_meets_1, ↓ev_found_2, ↓ev_meets_2, ↓ev_found_3, ↓ev_meets_3, ↓ev_found_4, ↓ev_meets_4, ↓ev_found_5, ↓ev_meets_5, true_and, and_true, and_self, eq_self, not_true_eq_false, not_false_eq_true, ite_true, ite_false, true_or, or_true, false_or, or_false, false_and, and_false, ← zi_ni_0, ← zi_ni_1, ← zi_ni_2, ← zi_ni_3, ← zi_ni_4, ← zi_ni_5, ← zi_ni_6, ← zi_ni_7, ← zi_ni_8, ← zi_ni_9, ← zi_ni_10, ← zi_ni_12, ← zi_ni_24, ← zi_ni_25, ← zi_ni_40, ← zi_ni_45, ← zi_ni_47, ← zi_ni_48, ← zi_ni_95, ← zi_ni_96, ← zi_ni_97, ← zi_ni_100, ← zi_ni_144, ← zi_ni_288, nI_ltI, nI_leI, nI_eqI, nlt_T, nlt_F, nle_T, nle_F, neq_T, neq_F, nI_add, pk_mul, nI_clamp, q_inT, ng_lt, ng_tl, ng_le, ng_el, ng_eq, ng_qe, q_b0, q_b1, nar_0, nar_1, b01, b01', q_bn0, q_bn1, nar_n0, nar_n1, si_k, si_i, si_s, si_e, si_2, sl_1, sl_22, sl_k, sl_i, sl_s, sl_e, sp_1, sp_21, sp_22, sc_k, sc_i, sc_e, sc_2, mF_k, mM_k, mF_2, mM_2, mF_0, mM_11]
      refine K _ _ ?_
      show Ev (f_X11_fault _ u1) _
      have e2' : u1.1 69 0 t = nI L := (g1.1 69 0 t (by omega)).trans e2
      refine Ev.hide (fun P'' K'' => ?_)
      simp (disch := first | omega | decide) only [Nat.reduceAdd, Nat.reduceMul, ↓ev_bd, ↓ev_ck, ↓ev_if, ↓ev_lt, ↓ev_jn, ↓ev_so, ↓reduceIte, ↓ev_within, ↓ev_in, ↓ev_isBoard, ↓ev_isGauge, ↓ev_isNumber, ↓ev_isSix, ↓ev_isEight, ↓ev_foundN, ↓ev_meetsN, ↓ev_found_1, ↓ev_meets_1, ↓ev_found_2, ↓ev_meets_2, ↓ev_found_3, ↓ev_meets_3, ↓ev_found_4, ↓ev_meets_4, ↓ev_found_5, ↓ev_meets_5, true_and, and_true, and_self, eq_self, not_true_eq_false, not_false_eq_true, ite_true, ite_false, true_or, or_true, false_or, or_false, false_and, and_false, ← zi_ni_0, ← zi_ni_1, ← zi_ni_2, ← zi_ni_3, ← zi_ni_4, ← zi_ni_5, ← zi_ni_6, ← zi_ni_7, ← zi_ni_8, ← zi_ni_9, ← zi_ni_10, ← zi_ni_12, ← zi_ni_24, ← zi_ni_25, ← zi_ni_40, ← zi_ni_45, ← zi_ni_47, ← zi_ni_48, ← zi_ni_95, ← zi_ni_96, ← zi_ni_97, ← zi_ni_100, ← zi_ni_144, ← zi_ni_288, nI_ltI, nI_leI, nI_eqI, nlt_T, nlt_F, nle_T, nle_F, neq_T, neq_F, nI_add, pk_mul, nI_clamp, q_inT, ng_lt, ng_tl, ng_le, ng_el, ng_eq, ng_qe, q_b0, q_b1, nar_0, nar_1, b01, b01', q_bn0, q_bn1, nar_n0, nar_n1, si_k, si_i, si_s, si_e, si_2, sl_1, sl_22, sl_k, sl_i, sl_s, sl_e, sp_1, sp_21, sp_22, sc_k, sc_i, sc_e, sc_2, mF_k, mM_k, mF_2, mM_2, mF_0, mM_11, ↓eu_X10_fault, ↓eu_X11_fault, ↓eu_X7_isThere, ↓eu_X11_lookedText, hs, e2']
      refine ev_reads (hS.fo (by decide) g1) (fun u2 y1 y2 => ?_)
      try simp (disch := first | omega | decide) only [Nat.reduceAdd, Nat.reduceMul, ↓ev_bd, ↓ev_ck, ↓ev_if, ↓ev_lt, ↓ev_jn, ↓ev_so, ↓reduceIte, ↓ev_within, ↓ev_in, ↓ev_isBoard, ↓ev_isGauge, ↓ev_isNumber, ↓ev_isSix, ↓ev_isEight, ↓ev_foundN, ↓ev_meetsN, ↓ev_found_1, ↓ev_meets_1, ↓ev_found_2, ↓ev_meets_2, ↓ev_found_3, ↓ev_meets_3, ↓ev_found_4, ↓ev_meets_4, ↓ev_found_5, ↓ev_meets_5, true_and, and_true, and_self, eq_self, not_true_eq_false, not_false_eq_true, ite_true, ite_false, true_or, or_true, false_or, or_false, false_and, and_false, ← zi_ni_0, ← zi_ni_1, ← zi_ni_2, ← zi_ni_3, ← zi_ni_4, ← zi_ni_5, ← zi_ni_6, ← zi_ni_7, ← zi_ni_8, ← zi_ni_9, ← zi_ni_10, ← zi_ni_12, ← zi_ni_24, ← zi_ni_25, ← zi_ni_40, ← zi_ni_45, ← zi_ni_47, ← zi_ni_48, ← zi_ni_95, ← zi_ni_96, ← zi_ni_97, ← zi_ni_100, ← zi_ni_144, ← zi_ni_288, nI_ltI, nI_leI, nI_eqI, nlt_T, nlt_F, nle_T, nle_F, neq_T, neq_F, nI_add, pk_mul, nI_clamp, q_inT, ng_lt, ng_tl, ng_le, ng_el, ng_eq, ng_qe, q_b0, q_b1, nar_0, nar_1, b01, b01', q_bn0, q_bn1, nar_n0, nar_n1, si_k, si_i, si_s, si_e, si_2, sl_1, sl_22, sl_k, sl_i, sl_s, sl_e, sp_1, sp_21, sp_22, sc_k, sc_i, sc_e, sc_2, mF_k, mM_k, mF_2, mM_2, mF_0, mM_11]
      exact K'' _ _ ⟨rfl, Rel_keep (g1.kp.tr y1.kp) h.succ⟩
  · simp (disch := first | omega | decide) only [Nat.reduceAdd, Nat.reduceMul, ↓ev_bd, ↓ev_ck, ↓ev_if, ↓ev_lt, ↓ev_jn, ↓ev_so, ↓reduceIte, ↓ev_within, ↓ev_in, ↓ev_isBoard, ↓ev_isGauge, ↓ev_isNumber, ↓ev_isSix, ↓ev_isEight, ↓ev_foundN, ↓ev_meetsN, ↓ev_found_1, ↓ev_meets_1, ↓ev_found_2, ↓ev_meets_2, ↓ev_found_3, ↓ev_meets_3, ↓ev_found_4, ↓ev_meets_4, ↓ev_found_5, ↓ev_meets_5, true_and, and_true, and_self, eq_self, not_true_eq_false, not_false_eq_true, ite_true, ite_false, true_or, or_true, false_or, or_false, false_and, and_false, ← zi_ni_0, ← zi_ni_1, ← zi_ni_2, ← zi_ni_3, ← zi_ni_4, ← zi_ni_5, ← zi_ni_6, ← zi_ni_7, ← zi_ni_8, ← zi_ni_9, ← zi_ni_10, ← zi_ni_12, ← zi_ni_24, ← zi_ni_25, ← zi_ni_40, ← zi_ni_45, ← zi_ni_47, ← zi_ni_48, ← zi_ni_95, ← zi_ni_96, ← zi_ni_97, ← zi_ni_100, ← zi_ni_144, ← zi_ni_288, nI_ltI, nI_leI, nI_eqI, nlt_T, nlt_F, nle_T, nle_F, neq_T, neq_F, nI_add, pk_mul, nI_clamp, q_inT, ng_lt, ng_tl, ng_le, ng_el, ng_eq, ng_qe, q_b0, q_b1, nar_0, nar_1, b01, b01', q_bn0, q_bn1, nar_n0, nar_n1, si_k, si_i, si_s, si_e, si_2, sl_1, sl_22, sl_k, sl_i, sl_s, sl_e, sp_1, sp_21, sp_22, sc_k, sc_i, sc_e, sc_2, mF_k, mM_k, mF_2, mM_2, mF_0, mM_11, ↓eu_X10_fault, ↓eu_X11_fault, ↓eu_X11_lookedText, ha]
    exact h.succ
