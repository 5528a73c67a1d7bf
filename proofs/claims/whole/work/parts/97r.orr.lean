/-! Texts: the class reads one item, the whole. -/
theorem add_n0 {x : Int32} : x + nI 0 = x := Int32.add_zero x
theorem ev_nxV {k i L b : Nat} {f : Nat → Int32} {l st x : Int32} {u : qM} {P : Int32 → qM → Prop} (h3 : u.1 7 0 3 = l) (h5 : u.1 7 0 5 = st) (h6 : u.1 7 0 6 = -nI 9) (hl : tHas l = true) (K1 : (x < tLo l ∨ tHi l < x) → ∀ u', F7 u u' → u'.1 7 0 6 = nI b → P 0 u') (K2 : ¬ (x < tLo l ∨ tHi l < x) → 24 < (if l = 83 then st + x else st) → ∀ u', F7 u u' → u'.1 7 0 6 = nI b → P 0 u') (K3 : ¬ (x < tLo l ∨ tHi l < x) → ¬ 24 < (if l = 83 then st + x else st) → ∀ u', F7 u u' → u'.1 7 0 2 = u.1 7 0 2 → u'.1 7 0 3 = l → u'.1 7 0 4 = x → u'.1 7 0 5 = (if l = 83 then st + x else st) → u'.1 7 0 6 = -nI 9 → P 1 u') : Ev (nxV (nI b) x u) P := by
  have r3 : (q_si u 7 0 4 x).1 7 0 3 = l := (si_s (by decide)).trans h3
  have hle : ∀ P, Ev (f_X6_least (q_si u 7 0 4 x)) P ↔ P (tLo l) (q_si u 7 0 4 x) := fun P => ev_least r3 hl
  have hgr : ∀ P, Ev (f_X6_greatest (q_si u 7 0 4 x)) P ↔ P (tHi l) (q_si u 7 0 4 x) := fun P => ev_greatest r3 hl
  by_cases c1 : x < tLo l
  · have K := K1 (.inl c1) (q_si (q_si u 7 0 4 x) 7 0 6 (nI b)) ((F7.rf.si (by decide)).si (by decide)) si_e
    simp (disch := first | omega | decide) only [Nat.reduceAdd, Nat.reduceMul, ↓ev_bd, ↓ev_ck, ↓ev_if, ↓ev_lt, ↓ev_jn, ↓ev_so, ↓reduceIte, ↓ev_within, ↓ev_in, ↓ev_isBoard, ↓ev_isGauge, ↓ev_isNumber, ↓ev_isSix, ↓ev_isEight, ↓ev_foundN, ↓ev_meetsN, ↓ev_found_1, ↓ev_meets_1, ↓ev_found_2, ↓ev_meets_2, ↓ev_found_3, ↓ev_meets_3, ↓ev_found_4, ↓ev_meets_4, ↓ev_found_5, ↓ev_meets_5, true_and, and_true, and_self, eq_self, not_true_eq_false, not_false_eq_true, ite_true, ite_false, true_or, or_true, false_or, or_false, false_and, and_false, ← zi_ni_0, ← zi_ni_1, ← zi_ni_2, ← zi_ni_3, ← zi_ni_4, ← zi_ni_5, ← zi_ni_6, ← zi_ni_7, ← zi_ni_8, ← zi_ni_9, ← zi_ni_10, ← zi_ni_12, ← zi_ni_24, ← zi_ni_25, ← zi_ni_40, ← zi_ni_45, ← zi_ni_47, ← zi_ni_48, ← zi_ni_95, ← zi_ni_96, ← zi_ni_97, ← zi_ni_100, ← zi_ni_144, ← zi_ni_288, nI_ltI, nI_leI, nI_eqI, nlt_T, nlt_F, nle_T, nle_F, neq_T, neq_F, nI_add, pk_mul, nI_clamp, q_inT, ng_lt, ng_tl, ng_le, ng_el, ng_eq, ng_qe, q_b0, q_b1, nar_0, nar_1, b01, b01', q_bn0, q_bn1, nar_n0, nar_n1, si_k, si_i, si_s, si_e, si_2, sl_1, sl_22, sl_k, sl_i, sl_s, sl_e, sp_1, sp_21, sp_22, sc_k, sc_i, sc_e, sc_2, mF_k, mM_k, mF_2, mM_2, mF_0, mM_11, ↓eu_nxV, ↓eu_X6_failed, ↓hle, c1]
    exact K
  · by_cases c2 : x ≤ tHi l
    · have hn : ¬ (x < tLo l ∨ tHi l < x) := fun z => by
        rcases z with z | z
        · exact c1 z
        · exact x_nlt.mpr c2 z
      by_cases c3 : l = 83
      · subst c3
        rw [if_pos rfl] at K2 K3
        by_cases c4 : st + x ≤ nI 24
        · have K := K3 hn (x_nlt.mpr c4) (q_si (q_si u 7 0 4 x) 7 0 5 (st + x)) ((F7.rf.si (by decide)).si (by decide)) (by rw [si_s (by decide), si_s (by decide)]) (by rw [si_s (by decide)]; exact r3) (by rw [si_s (by decide), si_e]) si_e (by rw [si_s (by decide), si_s (by decide)]; exact h6)
          simp (disch := first | omega | decide) only [Nat.reduceAdd, Nat.reduceMul, ↓ev_bd, ↓ev_ck, ↓ev_if, ↓ev_lt, ↓ev_jn, ↓ev_so, ↓reduceIte, ↓ev_within, ↓ev_in, ↓ev_isBoard, ↓ev_isGauge, ↓ev_isNumber, ↓ev_isSix, ↓ev_isEight, ↓ev_foundN, ↓ev_meetsN, ↓ev_found_1, ↓ev_meets_1, ↓ev_found_2, ↓ev_meets_2, ↓ev_found_3, ↓ev_meets_3, ↓ev_found_4, ↓ev_meets_4, ↓ev_found_5, ↓ev_meets_5, true_and, and_true, and_self, eq_self, not_true_eq_false, not_false_eq_true, ite_true, ite_false, true_or, or_true, false_or, or_false, false_and, and_false, ← zi_ni_0, ← zi_ni_1, ← zi_ni_2, ← zi_ni_3, ← zi_ni_4, ← zi_ni_5, ← zi_ni_6, ← zi_ni_7, ← zi_ni_8, ← zi_ni_9, ← zi_ni_10, ← zi_ni_12, ← zi_ni_24, ← zi_ni_25, ← zi_ni_40, ← zi_ni_45, ← zi_ni_47, ← zi_ni_48, ← zi_ni_95, ← zi_ni_96, ← zi_ni_97, ← zi_ni_100, ← zi_ni_144, ← zi_ni_288, nI_ltI, nI_leI, nI_eqI, nlt_T, nlt_F, nle_T, nle_F, neq_T, neq_F, nI_add, pk_mul, nI_clamp, q_inT, ng_lt, ng_tl, ng_le, ng_el, ng_eq, ng_qe, q_b0, q_b1, nar_0, nar_1, b01, b01', q_bn0, q_bn1, nar_n0, nar_n1, si_k, si_i, si_s, si_e, si_2, sl_1, sl_22, sl_k, sl_i, sl_s, sl_e, sp_1, sp_21, sp_22, sc_k, sc_i, sc_e, sc_2, mF_k, mM_k, mF_2, mM_2, mF_0, mM_11, ↓eu_nxV, ↓eu_X6_failed, ↓eu_X6_stepsOfItem, ↓hle, ↓hgr, c1, c2, c4, h3, h5]
          exact K
        · have K := K2 hn (x_nle.mp c4) (q_si (q_si (q_si u 7 0 4 x) 7 0 5 (st + x)) 7 0 6 (nI b)) (((F7.rf.si (by decide)).si (by decide)).si (by decide)) si_e
          simp (disch := first | omega | decide) only [Nat.reduceAdd, Nat.reduceMul, ↓ev_bd, ↓ev_ck, ↓ev_if, ↓ev_lt, ↓ev_jn, ↓ev_so, ↓reduceIte, ↓ev_within, ↓ev_in, ↓ev_isBoard, ↓ev_isGauge, ↓ev_isNumber, ↓ev_isSix, ↓ev_isEight, ↓ev_foundN, ↓ev_meetsN, ↓ev_found_1, ↓ev_meets_1, ↓ev_found_2, ↓ev_meets_2, ↓ev_found_3, ↓ev_meets_3, ↓ev_found_4, ↓ev_meets_4, ↓ev_found_5, ↓ev_meets_5, true_and, and_true, and_self, eq_self, not_true_eq_false, not_false_eq_true, ite_true, ite_false, true_or, or_true, false_or, or_false, false_and, and_false, ← zi_ni_0, ← zi_ni_1, ← zi_ni_2, ← zi_ni_3, ← zi_ni_4, ← zi_ni_5, ← zi_ni_6, ← zi_ni_7, ← zi_ni_8, ← zi_ni_9, ← zi_ni_10, ← zi_ni_12, ← zi_ni_24, ← zi_ni_25, ← zi_ni_40, ← zi_ni_45, ← zi_ni_47, ← zi_ni_48, ← zi_ni_95, ← zi_ni_96, ← zi_ni_97, ← zi_ni_100, ← zi_ni_144, ← zi_ni_288, nI_ltI, nI_leI, nI_eqI, nlt_T, nlt_F, nle_T, nle_F, neq_T, neq_F, nI_add, pk_mul, nI_clamp, q_inT, ng_lt, ng_tl, ng_le, ng_el, ng_eq, ng_qe, q_b0, q_b1, nar_0, nar_1, b01, b01', q_bn0, q_bn1, nar_n0, nar_n1, si_k, si_i, si_s, si_e, si_2, sl_1, sl_22, sl_k, sl_i, sl_s, sl_e, sp_1, sp_21, sp_22, sc_k, sc_i, sc_e, sc_2, mF_k, mM_k, mF_2, mM_2, mF_0, mM_11, ↓eu_nxV, ↓eu_X6_failed, ↓eu_X6_stepsOfItem, ↓hle, ↓hgr, c1, c2, c4, h3, h5]
          exact K
      · rw [if_neg c3] at K2 K3
        by_cases c4 : st ≤ nI 24
        · have K := K3 hn (x_nlt.mpr c4) (q_si (q_si u 7 0 4 x) 7 0 5 st) ((F7.rf.si (by decide)).si (by decide)) (by rw [si_s (by decide), si_s (by decide)]) (by rw [si_s (by decide)]; exact r3) (by rw [si_s (by decide), si_e]) si_e (by rw [si_s (by decide), si_s (by decide)]; exact h6)
          simp (disch := first | omega | decide) only [Nat.reduceAdd, Nat.reduceMul, ↓ev_bd, ↓ev_ck, ↓ev_if, ↓ev_lt, ↓ev_jn, ↓ev_so, ↓reduceIte, ↓ev_within, ↓ev_in, ↓ev_isBoard, ↓ev_isGauge, ↓ev_isNumber, ↓ev_isSix, ↓ev_isEight, ↓ev_foundN, ↓ev_meetsN, ↓ev_found_1, ↓ev_meets_1, ↓ev_found_2, ↓ev_meets_2, ↓ev_found_3, ↓ev_meets_3, ↓ev_found_4, ↓ev_meets_4, ↓ev_found_5, ↓ev_meets_5, true_and, and_true, and_self, eq_self, not_true_eq_false, not_false_eq_true, ite_true, ite_false, true_or, or_true, false_or, or_false, false_and, and_false, ← zi_ni_0, ← zi_ni_1, ← zi_ni_2, ← zi_ni_3, ← zi_ni_4, ← zi_ni_5, ← zi_ni_6, ← zi_ni_7, ← zi_ni_8, ← zi_ni_9, ← zi_ni_10, ← zi_ni_12, ← zi_ni_24, ← zi_ni_25, ← zi_ni_40, ← zi_ni_45, ← zi_ni_47, ← zi_ni_48, ← zi_ni_95, ← zi_ni_96, ← zi_ni_97, ← zi_ni_100, ← zi_ni_144, ← zi_ni_288, nI_ltI, nI_leI, nI_eqI, nlt_T, nlt_F, nle_T, nle_F, neq_T, neq_F, nI_add, pk_mul, nI_clamp, q_inT, ng_lt, ng_tl, ng_le, ng_el, ng_eq, ng_qe, q_b0, q_b1, nar_0, nar_1, b01, b01', q_bn0, q_bn1, nar_n0, nar_n1, si_k, si_i, si_s, si_e, si_2, sl_1, sl_22, sl_k, sl_i, sl_s, sl_e, sp_1, sp_21, sp_22, sc_k, sc_i, sc_e, sc_2, mF_k, mM_k, mF_2, mM_2, mF_0, mM_11, ↓eu_nxV, ↓eu_X6_failed, ↓eu_X6_stepsOfItem, ↓hle, ↓hgr, c1, c2, c3, c4, h3, h5, add_n0]
          exact K
        · have K := K2 hn (x_nle.mp c4) (q_si (q_si (q_si u 7 0 4 x) 7 0 5 st) 7 0 6 (nI b)) (((F7.rf.si (by decide)).si (by decide)).si (by decide)) si_e
          simp (disch := first | omega | decide) only [Nat.reduceAdd, Nat.reduceMul, ↓ev_bd, ↓ev_ck, ↓ev_if, ↓ev_lt, ↓ev_jn, ↓ev_so, ↓reduceIte, ↓ev_within, ↓ev_in, ↓ev_isBoard, ↓ev_isGauge, ↓ev_isNumber, ↓ev_isSix, ↓ev_isEight, ↓ev_foundN, ↓ev_meetsN, ↓ev_found_1, ↓ev_meets_1, ↓ev_found_2, ↓ev_meets_2, ↓ev_found_3, ↓ev_meets_3, ↓ev_found_4, ↓ev_meets_4, ↓ev_found_5, ↓ev_meets_5, true_and, and_true, and_self, eq_self, not_true_eq_false, not_false_eq_true, ite_true, ite_false, true_or, or_true, false_or, or_false, false_and, and_false, ← zi_ni_0, ← zi_ni_1, ← zi_ni_2, ← zi_ni_3, ← zi_ni_4, ← zi_ni_5, ← zi_ni_6, ← zi_ni_7, ← zi_ni_8, ← zi_ni_9, ← zi_ni_10, ← zi_ni_12, ← zi_ni_24, ← zi_ni_25, ← zi_ni_40, ← zi_ni_45, ← zi_ni_47, ← zi_ni_48, ← zi_ni_95, ← zi_ni_96, ← zi_ni_97, ← zi_ni_100, ← zi_ni_144, ← zi_ni_288, nI_ltI, nI_leI, nI_eqI, nlt_T, nlt_F, nle_T, nle_F, neq_T, neq_F, nI_add, pk_mul, nI_clamp, q_inT, ng_lt, ng_tl, ng_le, ng_el, ng_eq, ng_qe, q_b0, q_b1, nar_0, nar_1, b01, b01', q_bn0, q_bn1, nar_n0, nar_n1, si_k, si_i, si_s, si_e, si_2, sl_1, sl_22, sl_k, sl_i, sl_s, sl_e, sp_1, sp_21, sp_22, sc_k, sc_i, sc_e, sc_2, mF_k, mM_k, mF_2, mM_2, mF_0, mM_11, ↓eu_nxV, ↓eu_X6_failed, ↓eu_X6_stepsOfItem, ↓hle, ↓hgr, c1, c2, c3, c4, h3, h5, add_n0]
          exact K
    · have K := K1 (.inr (x_nle.mp c2)) (q_si (q_si u 7 0 4 x) 7 0 6 (nI b)) ((F7.rf.si (by decide)).si (by decide)) si_e
      simp (disch := first | omega | decide) only [Nat.reduceAdd, Nat.reduceMul, ↓ev_bd, ↓ev_ck, ↓ev_if, ↓ev_lt, ↓ev_jn, ↓ev_so, ↓reduceIte, ↓ev_within, ↓ev_in, ↓ev_isBoard, ↓ev_isGauge, ↓ev_isNumber, ↓ev_isSix, ↓ev_isEight, ↓ev_foundN, ↓ev_meetsN, ↓ev_found_1, ↓ev_meets_1, ↓ev_found_2, ↓ev_meets_2, ↓ev_found_3, ↓ev_meets_3, ↓ev_found_4, ↓ev_meets_4, ↓ev_found_5, ↓ev_meets_5, true_and, and_true, and_self, eq_self, not_true_eq_false, not_false_eq_true, ite_true, ite_false, true_or, or_true, false_or, or_false, false_and, and_false, ← zi_ni_0, ← zi_ni_1, ← zi_ni_2, ← zi_ni_3, ← zi_ni_4, ← zi_ni_5, ← zi_ni_6, ← zi_ni_7, ← zi_ni_8, ← zi_ni_9, ← zi_ni_10, ← zi_ni_12, ← zi_ni_24, ← zi_ni_25, ← zi_ni_40, ← zi_ni_45, ← zi_ni_47, ← zi_ni_48, ← zi_ni_95, ← zi_ni_96, ← zi_ni_97, ← zi_ni_100, ← zi_ni_144, ← zi_ni_288, nI_ltI, nI_leI, nI_eqI, nlt_T, nlt_F, nle_T, nle_F, neq_T, neq_F, nI_add, pk_mul, nI_clamp, q_inT, ng_lt, ng_tl, ng_le, ng_el, ng_eq, ng_qe, q_b0, q_b1, nar_0, nar_1, b01, b01', q_bn0, q_bn1, nar_n0, nar_n1, si_k, si_i, si_s, si_e, si_2, sl_1, sl_22, sl_k, sl_i, sl_s, sl_e, sp_1, sp_21, sp_22, sc_k, sc_i, sc_e, sc_2, mF_k, mM_k, mF_2, mM_2, mF_0, mM_11, ↓eu_nxV, ↓eu_X6_failed, ↓hle, ↓hgr, c1, c2]
      exact K
theorem tdg_pos {f : Nat → Int32} {d a : Nat} (h : 0 < d) (q : 48 ≤ f a ∧ f a ≤ 57) : ¬ tdg f d a = 0 := by
  obtain ⟨e, rfl⟩ : ∃ e, d = e + 1 := ⟨d - 1, by omega⟩
  show ¬ (if 48 ≤ f a ∧ f a ≤ 57 then tdg f e (a + 1) + 1 else 0) = 0
  rw [if_pos q]
  omega
theorem ev_nxT {k i L c : Nat} {f : Nat → Int32} {x1 x3 : Int32} {u : qM} {P : Int32 → qM → Prop} (h : SC k i L f u) (ha : u.1 7 0 2 = nI c) (hc : c ≤ L) (hx3 : x3 = nI 0 ∨ x3 = nI 1) (K0 : tdg f (L - c) c = 0 → ∀ u', F7 u u' → u'.1 7 0 6 = nI c → P 0 u') (K5 : 5 ≤ tdg f (L - c) c → ∀ u', F7 u u' → u'.1 7 0 6 = nI (c + 4) → P 0 u') (KV : ¬ tdg f (L - c) c = 0 → ¬ 5 ≤ tdg f (L - c) c → ∀ u', F7 u u' → u'.1 7 0 2 = nI (c + tdg f (L - c) c) → (∀ s, s ≠ 2 → u'.1 7 0 s = u.1 7 0 s) → Ev (nxV x1 (if x3 = nI 0 then tvl f c (tdg f (L - c) c) else -(tvl f c (tdg f (L - c) c))) u') P) : Ev (nxT x1 x3 u) P := by
  have h4 := h.2.2.2.1
  refine eu_nxT.mpr (ev_bd.mpr ?_)
  refine ev_dig h ha (by omega) (fun z1 z2 => ?_) (fun z => ?_)
  · have hm0 := tdg_pos (f := f) (d := L - c) (a := c) (by omega) z2
    have hle := tdg_le (f := f) (L - c) c
    refine Ev.hide (fun P' K' => ?_)
    simp (disch := first | omega | decide) only [Nat.reduceAdd, Nat.reduceMul, ↓ev_bd, ↓ev_ck, ↓ev_if, ↓ev_lt, ↓ev_jn, ↓ev_so, ↓reduceIte, ↓ev_within, ↓ev_in, ↓ev_isBoard, ↓ev_isGauge, ↓ev_isNumber, ↓ev_isSix, ↓ev_isEight, ↓ev_foundN, ↓ev_meetsN, ↓ev_found_1, ↓ev_meets_1, ↓ev_found_2, ↓ev_meets_2, ↓ev_found_3, ↓ev_meets_3, ↓ev_found_4, ↓ev_meets_4, ↓ev_found_5, ↓ev_meets_5, true_and, and_true, and_self, eq_self, not_true_eq_false, not_false_eq_true, ite_true, ite_false, true_or, or_true, false_or, or_false, false_and, and_false, ← zi_ni_0, ← zi_ni_1, ← zi_ni_2, ← zi_ni_3, ← zi_ni_4, ← zi_ni_5, ← zi_ni_6, ← zi_ni_7, ← zi_ni_8, ← zi_ni_9, ← zi_ni_10, ← zi_ni_12, ← zi_ni_24, ← zi_ni_25, ← zi_ni_40, ← zi_ni_45, ← zi_ni_47, ← zi_ni_48, ← zi_ni_95, ← zi_ni_96, ← zi_ni_97, ← zi_ni_100, ← zi_ni_144, ← zi_ni_288, nI_ltI, nI_leI, nI_eqI, nlt_T, nlt_F, nle_T, nle_F, neq_T, neq_F, nI_add, pk_mul, nI_clamp, q_inT, ng_lt, ng_tl, ng_le, ng_el, ng_eq, ng_qe, q_b0, q_b1, nar_0, nar_1, b01, b01', q_bn0, q_bn1, nar_n0, nar_n1, si_k, si_i, si_s, si_e, si_2, sl_1, sl_22, sl_k, sl_i, sl_s, sl_e, sp_1, sp_21, sp_22, sc_k, sc_i, sc_e, sc_2, mF_k, mM_k, mF_2, mM_2, mF_0, mM_11]
    refine lp_digs (k := k) (i := i) (f := f) (c := c) hc (min 4 (tdg f (L - c) c)) 0 q_fu u (Nat.zero_add _) (by rw [show q_fu = 4000 from rfl]; omega) h ha (fun u2 g1 g2 g3 => ?_)
    have h2 := h.f7 g1
    by_cases hm5 : 5 ≤ tdg f (L - c) c
    · have hmin : min 4 (tdg f (L - c) c) = 4 := by omega
      rw [hmin] at g2 ⊢
      obtain ⟨w1, w2⟩ := tdg_lt (f := f) (L - c) c 4 (by omega)
      have K := K5 hm5 (q_si u2 7 0 6 (nI (c + 4))) (g1.tr (F7.rf.si (by decide))) si_e
      generalize tvl f c 4 = v at *
      refine eu_nxU.mpr (ev_bd.mpr ?_)
      refine ev_dig h2 g2 (by omega) (fun _ _ => ?_) (fun z => absurd ⟨by omega, w2⟩ z)
      simp (disch := first | omega | decide) only [Nat.reduceAdd, Nat.reduceMul, ↓ev_bd, ↓ev_ck, ↓ev_if, ↓ev_lt, ↓ev_jn, ↓ev_so, ↓reduceIte, ↓ev_within, ↓ev_in, ↓ev_isBoard, ↓ev_isGauge, ↓ev_isNumber, ↓ev_isSix, ↓ev_isEight, ↓ev_foundN, ↓ev_meetsN, ↓ev_found_1, ↓ev_meets_1, ↓ev_found_2, ↓ev_meets_2, ↓ev_found_3, ↓ev_meets_3, ↓ev_found_4, ↓ev_meets_4, ↓ev_found_5, ↓ev_meets_5, true_and, and_true, and_self, eq_self, not_true_eq_false, not_false_eq_true, ite_true, ite_false, true_or, or_true, false_or, or_false, false_and, and_false, ← zi_ni_0, ← zi_ni_1, ← zi_ni_2, ← zi_ni_3, ← zi_ni_4, ← zi_ni_5, ← zi_ni_6, ← zi_ni_7, ← zi_ni_8, ← zi_ni_9, ← zi_ni_10, ← zi_ni_12, ← zi_ni_24, ← zi_ni_25, ← zi_ni_40, ← zi_ni_45, ← zi_ni_47, ← zi_ni_48, ← zi_ni_95, ← zi_ni_96, ← zi_ni_97, ← zi_ni_100, ← zi_ni_144, ← zi_ni_288, nI_ltI, nI_leI, nI_eqI, nlt_T, nlt_F, nle_T, nle_F, neq_T, neq_F, nI_add, pk_mul, nI_clamp, q_inT, ng_lt, ng_tl, ng_le, ng_el, ng_eq, ng_qe, q_b0, q_b1, nar_0, nar_1, b01, b01', q_bn0, q_bn1, nar_n0, nar_n1, si_k, si_i, si_s, si_e, si_2, sl_1, sl_22, sl_k, sl_i, sl_s, sl_e, sp_1, sp_21, sp_22, sc_k, sc_i, sc_e, sc_2, mF_k, mM_k, mF_2, mM_2, mF_0, mM_11, ↓eu_X6_failed, g2]
      exact K' _ _ K
    · have hmin : min 4 (tdg f (L - c) c) = tdg f (L - c) c := by omega
      rw [hmin] at g2 ⊢
      have K := KV hm0 hm5 u2 g1 g2 g3
      refine eu_nxU.mpr (ev_bd.mpr ?_)
      refine ev_dig h2 g2 (by omega) (fun w1 w2 => absurd w2 (tdg_end (f := f) (L - c) c (by omega))) (fun z => ?_)
      generalize tvl f c (tdg f (L - c) c) = v at *
      rcases hx3 with hx3 | hx3
      · subst hx3
        rw [if_pos rfl] at K
        simp (disch := first | omega | decide) only [Nat.reduceAdd, Nat.reduceMul, ↓ev_bd, ↓ev_ck, ↓ev_if, ↓ev_lt, ↓ev_jn, ↓ev_so, ↓reduceIte, ↓ev_within, ↓ev_in, ↓ev_isBoard, ↓ev_isGauge, ↓ev_isNumber, ↓ev_isSix, ↓ev_isEight, ↓ev_foundN, ↓ev_meetsN, ↓ev_found_1, ↓ev_meets_1, ↓ev_found_2, ↓ev_meets_2, ↓ev_found_3, ↓ev_meets_3, ↓ev_found_4, ↓ev_meets_4, ↓ev_found_5, ↓ev_meets_5, true_and, and_true, and_self, eq_self, not_true_eq_false, not_false_eq_true, ite_true, ite_false, true_or, or_true, false_or, or_false, false_and, and_false, ← zi_ni_0, ← zi_ni_1, ← zi_ni_2, ← zi_ni_3, ← zi_ni_4, ← zi_ni_5, ← zi_ni_6, ← zi_ni_7, ← zi_ni_8, ← zi_ni_9, ← zi_ni_10, ← zi_ni_12, ← zi_ni_24, ← zi_ni_25, ← zi_ni_40, ← zi_ni_45, ← zi_ni_47, ← zi_ni_48, ← zi_ni_95, ← zi_ni_96, ← zi_ni_97, ← zi_ni_100, ← zi_ni_144, ← zi_ni_288, nI_ltI, nI_leI, nI_eqI, nlt_T, nlt_F, nle_T, nle_F, neq_T, neq_F, nI_add, pk_mul, nI_clamp, q_inT, ng_lt, ng_tl, ng_le, ng_el, ng_eq, ng_qe, q_b0, q_b1, nar_0, nar_1, b01, b01', q_bn0, q_bn1, nar_n0, nar_n1, si_k, si_i, si_s, si_e, si_2, sl_1, sl_22, sl_k, sl_i, sl_s, sl_e, sp_1, sp_21, sp_22, sc_k, sc_i, sc_e, sc_2, mF_k, mM_k, mF_2, mM_2, mF_0, mM_11]
        exact K.mono K'
      · subst hx3
        rw [if_neg (by decide +kernel)] at K
        simp (disch := first | omega | decide) only [Nat.reduceAdd, Nat.reduceMul, ↓ev_bd, ↓ev_ck, ↓ev_if, ↓ev_lt, ↓ev_jn, ↓ev_so, ↓reduceIte, ↓ev_within, ↓ev_in, ↓ev_isBoard, ↓ev_isGauge, ↓ev_isNumber, ↓ev_isSix, ↓ev_isEight, ↓ev_foundN, ↓ev_meetsN, ↓ev_found_1, ↓ev_meets_1, ↓ev_found_2, ↓ev_meets_2, ↓ev_found_3, ↓ev_meets_3, ↓ev_found_4, ↓ev_meets_4, ↓ev_found_5, ↓ev_meets_5, true_and, and_true, and_self, eq_self, not_true_eq_false, not_false_eq_true, ite_true, ite_false, true_or, or_true, false_or, or_false, false_and, and_false, ← zi_ni_0, ← zi_ni_1, ← zi_ni_2, ← zi_ni_3, ← zi_ni_4, ← zi_ni_5, ← zi_ni_6, ← zi_ni_7, ← zi_ni_8, ← zi_ni_9, ← zi_ni_10, ← zi_ni_12, ← zi_ni_24, ← zi_ni_25, ← zi_ni_40, ← zi_ni_45, ← zi_ni_47, ← zi_ni_48, ← zi_ni_95, ← zi_ni_96, ← zi_ni_97, ← zi_ni_100, ← zi_ni_144, ← zi_ni_288, nI_ltI, nI_leI, nI_eqI, nlt_T, nlt_F, nle_T, nle_F, neq_T, neq_F, nI_add, pk_mul, nI_clamp, q_inT, ng_lt, ng_tl, ng_le, ng_el, ng_eq, ng_qe, q_b0, q_b1, nar_0, nar_1, b01, b01', q_bn0, q_bn1, nar_n0, nar_n1, si_k, si_i, si_s, si_e, si_2, sl_1, sl_22, sl_k, sl_i, sl_s, sl_e, sp_1, sp_21, sp_22, sc_k, sc_i, sc_e, sc_2, mF_k, mM_k, mF_2, mM_2, mF_0, mM_11]
        exact K.mono K'
  · have hm0 : tdg f (L - c) c = 0 := by
      by_cases q : tdg f (L - c) c = 0
      · exact q
      · obtain ⟨w1, w2⟩ := tdg_lt (f := f) (L - c) c 0 (by omega)
        exact absurd ⟨by omega, w2⟩ z
    have K := K0 hm0 (q_si u 7 0 6 (nI c)) (F7.rf.si (by decide)) si_e
    simp (disch := first | omega | decide) only [Nat.reduceAdd, Nat.reduceMul, ↓ev_bd, ↓ev_ck, ↓ev_if, ↓ev_lt, ↓ev_jn, ↓ev_so, ↓reduceIte, ↓ev_within, ↓ev_in, ↓ev_isBoard, ↓ev_isGauge, ↓ev_isNumber, ↓ev_isSix, ↓ev_isEight, ↓ev_foundN, ↓ev_meetsN, ↓ev_found_1, ↓ev_meets_1, ↓ev_found_2, ↓ev_meets_2, ↓ev_found_3, ↓ev_meets_3, ↓ev_found_4, ↓ev_meets_4, ↓ev_found_5, ↓ev_meets_5, true_and, and_true, and_self, eq_self, not_true_eq_false, not_false_eq_true, ite_true, ite_false, true_or, or_true, false_or, or_false, false_and, and_false, ← zi_ni_0, ← zi_ni_1, ← zi_ni_2, ← zi_ni_3, ← zi_ni_4, ← zi_ni_5, ← zi_ni_6, ← zi_ni_7, ← zi_ni_8, ← zi_ni_9, ← zi_ni_10, ← zi_ni_12, ← zi_ni_24, ← zi_ni_25, ← zi_ni_40, ← zi_ni_45, ← zi_ni_47, ← zi_ni_48, ← zi_ni_95, ← zi_ni_96, ← zi_ni_97, ← zi_ni_100, ← zi_ni_144, ← zi_ni_288, nI_ltI, nI_leI, nI_eqI, nlt_T, nlt_F, nle_T, nle_F, neq_T, neq_F, nI_add, pk_mul, nI_clamp, q_inT, ng_lt, ng_tl, ng_le, ng_el, ng_eq, ng_qe, q_b0, q_b1, nar_0, nar_1, b01, b01', q_bn0, q_bn1, nar_n0, nar_n1, si_k, si_i, si_s, si_e, si_2, sl_1, sl_22, sl_k, sl_i, sl_s, sl_e, sp_1, sp_21, sp_22, sc_k, sc_i, sc_e, sc_2, mF_k, mM_k, mF_2, mM_2, mF_0, mM_11, ↓eu_X6_failed, ha]
    exact K
theorem ev_next {k i L a : Nat} {f : Nat → Int32} {st : Int32} {u : qM} {P : Int32 → qM → Prop} (h : SC k i L f u) (ha : u.1 7 0 2 = nI a) (haL : a ≤ L) (h5 : u.1 7 0 5 = st) (h6 : u.1 7 0 6 = -nI 9) (K0 : L ≤ tsk f (L - a) a → ∀ u', F7 u u' → u'.1 7 0 6 = -nI 9 → P 0 u') (K1 : ∀ p, ¬ L ≤ tsk f (L - a) a → tIt f L (tsk f (L - a) a) st = .inl p → ∀ u', F7 u u' → u'.1 7 0 6 = nI p → P 0 u') (K2 : ∀ x c st', ¬ L ≤ tsk f (L - a) a → tIt f L (tsk f (L - a) a) st = .inr (x, c, st') → ∀ u', F7 u u' → u'.1 7 0 2 = nI c → u'.1 7 0 3 = f (tsk f (L - a) a) → u'.1 7 0 4 = x → u'.1 7 0 5 = st' → u'.1 7 0 6 = -nI 9 → P 1 u') : Ev (f_X6_next u) P := by
  have h4 := h.2.2.2.1
  have hb := tsk_le (f := f) (L - a) a
  refine Ev.hide (fun P' K' => ?_)
  refine eu_next.mpr ?_
  refine lp_skip (k := k) (i := i) (L := L) (f := f) (L - a) q_fu a u (by omega) (by rw [show q_fu = 4000 from rfl]; omega) h ha (fun t g1 g2 g3 => ?_)
  generalize hbb : tsk f (L - a) a = b at *
  have ht := h.f7 g1
  obtain ⟨s1, s2, s3', s4, s5, s6, s7⟩ := ht
  have t6 : t.1 7 0 6 = -nI 9 := (g3 6 (by decide)).trans h6
  have t5 : t.1 7 0 5 = st := (g3 5 (by decide)).trans h5
  have fb : t.1 k i b = f b := congrFun s6 b
  by_cases hLb : L ≤ b
  · have K := K0 hLb t g1 t6
    simp (disch := first | omega | decide) only [Nat.reduceAdd, Nat.reduceMul, ↓ev_bd, ↓ev_ck, ↓ev_if, ↓ev_lt, ↓ev_jn, ↓ev_so, ↓reduceIte, ↓ev_within, ↓ev_in, ↓ev_isBoard, ↓ev_isGauge, ↓ev_isNumber, ↓ev_isSix, ↓ev_isEight, ↓ev_foundN, ↓ev_meetsN, ↓ev_found_1, ↓ev_meets_1, ↓ev_found_2, ↓ev_meets_2, ↓ev_found_3, ↓ev_meets_3, ↓ev_found_4, ↓ev_meets_4, ↓ev_found_5, ↓ev_meets_5, true_and, and_true, and_self, eq_self, not_true_eq_false, not_false_eq_true, ite_true, ite_false, true_or, or_true, false_or, or_false, false_and, and_false, ← zi_ni_0, ← zi_ni_1, ← zi_ni_2, ← zi_ni_3, ← zi_ni_4, ← zi_ni_5, ← zi_ni_6, ← zi_ni_7, ← zi_ni_8, ← zi_ni_9, ← zi_ni_10, ← zi_ni_12, ← zi_ni_24, ← zi_ni_25, ← zi_ni_40, ← zi_ni_45, ← zi_ni_47, ← zi_ni_48, ← zi_ni_95, ← zi_ni_96, ← zi_ni_97, ← zi_ni_100, ← zi_ni_144, ← zi_ni_288, nI_ltI, nI_leI, nI_eqI, nlt_T, nlt_F, nle_T, nle_F, neq_T, neq_F, nI_add, pk_mul, nI_clamp, q_inT, ng_lt, ng_tl, ng_le, ng_el, ng_eq, ng_qe, q_b0, q_b1, nar_0, nar_1, b01, b01', q_bn0, q_bn1, nar_n0, nar_n1, si_k, si_i, si_s, si_e, si_2, sl_1, sl_22, sl_k, sl_i, sl_s, sl_e, sp_1, sp_21, sp_22, sc_k, sc_i, sc_e, sc_2, mF_k, mM_k, mF_2, mM_2, mF_0, mM_11, g2, s7]
    exact K' _ _ K
  · have hfb2 : ∀ x, (q_si t 7 0 3 x).1 7 0 3 = x := fun x => si_e
    by_cases hl : tHas (f b) = true
    · have hgr : ∀ P, Ev (f_X6_greatest (q_si t 7 0 3 (f b))) P ↔ P (tHi (f b)) (q_si t 7 0 3 (f b)) := fun P => ev_greatest si_e hl
      have n9 := tHi_9 hl
      have hC := tC_le (f := f) (L := L) (a := b) (by omega)
      -- what follows the letter
      have fin : ∀ (t' : qM) (x3 : Int32), F7 u t' → t'.1 7 0 2 = nI (tC f L b) → t'.1 7 0 3 = f b → t'.1 7 0 5 = st → t'.1 7 0 6 = -nI 9 → ((¬ (b + 1 < L ∧ f (b + 1) = 45) ∧ x3 = nI 0) ∨ ((b + 1 < L ∧ f (b + 1) = 45) ∧ x3 = nI 1)) → Ev (nxT (nI b) x3 t') P' := by
        intro t' x3 y1 y2 y3 y4 y5 y6
        have hx : (if x3 = nI 0 then tvl f (tC f L b) (tdg f (L - tC f L b) (tC f L b)) else -(tvl f (tC f L b) (tdg f (L - tC f L b) (tC f L b)))) = tX f L b := by
          unfold tX
          rcases y6 with ⟨z, rfl⟩ | ⟨z, rfl⟩
          · rw [if_pos rfl, if_neg z]
          · rw [if_neg (by decide +kernel), if_pos z]
        refine ev_nxT (h.f7 y1) y2 hC.1 (by rcases y6 with z | z; exact .inl z.2; exact .inr z.2) (fun m0 u' v1 v2 => K' _ _ (K1 _ hLb ?_ u' (y1.tr v1) v2)) (fun m5 u' v1 v2 => K' _ _ (K1 _ hLb ?_ u' (y1.tr v1) v2)) (fun m0 m5 u' v1 v2 v3 => ?_)
        · unfold tIt
          rw [if_neg (by rw [hl]; decide), if_pos m0]
        · unfold tIt
          rw [if_neg (by rw [hl]; decide), if_neg (by omega), if_pos m5]
        · rw [hx]
          have hS : (if f b = 83 then st + tX f L b else st) = tS f L b st := rfl
          refine ev_nxV (k := k) (i := i) (L := L) (f := f) ((v3 3 (by decide)).trans y3) ((v3 5 (by decide)).trans y4) ((v3 6 (by decide)).trans y5) hl (fun r u'' w1 w2 => K' _ _ (K1 _ hLb ?_ u'' (y1.tr (v1.tr w1)) w2)) (fun r r2 u'' w1 w2 => K' _ _ (K1 _ hLb ?_ u'' (y1.tr (v1.tr w1)) w2)) (fun r r2 u'' w1 w2 w3 w4 w5 w6 => K' _ _ (K2 _ _ _ hLb ?_ u'' (y1.tr (v1.tr w1)) (w2.trans v2) w3 w4 w5 w6))
          · unfold tIt
            rw [if_neg (by rw [hl]; decide), if_neg m0, if_neg m5, if_pos r]
          · rw [hS] at r2
            unfold tIt
            rw [if_neg (by rw [hl]; decide), if_neg m0, if_neg m5, if_neg r, if_pos r2]
          · rw [hS] at r2 ⊢
            unfold tIt
            rw [if_neg (by rw [hl]; decide), if_neg m0, if_neg m5, if_neg r, if_neg r2]
      have fb1 : t.1 k i (b + 1) = f (b + 1) := congrFun s6 (b + 1)
      have bas : ∀ s, s ≠ 2 → s ≠ 3 → ∀ x y, (q_si (q_si t 7 0 3 x) 7 0 2 y).1 7 0 s = u.1 7 0 s := fun s q1 q2 x y => by rw [si_s q1, si_s q2]; exact g3 s q1
      by_cases m1 : b + 1 < L
      · by_cases m2 : f (b + 1) = nI 45
        · have hmn : b + 1 < L ∧ f (b + 1) = 45 := ⟨m1, m2⟩
          have K := fin (q_si (q_si (q_si t 7 0 3 (f b)) 7 0 2 (nI (b + 1))) 7 0 2 (nI (b + 1 + 1))) (nI 1) (g1.tr (((F7.rf.si (by decide)).si (by decide)).si (by decide))) (by rw [si_e]; unfold tC; rw [if_pos hmn]) (by rw [si_s (by decide), si_s (by decide), si_e]) (by rw [si_s (by decide), bas 5 (by decide) (by decide)]; exact h5) (by rw [si_s (by decide), bas 6 (by decide) (by decide)]; exact h6) (.inr ⟨hmn, rfl⟩)
          simp (disch := first | omega | decide) only [Nat.reduceAdd, Nat.reduceMul, ↓ev_bd, ↓ev_ck, ↓ev_if, ↓ev_lt, ↓ev_jn, ↓ev_so, ↓reduceIte, ↓ev_within, ↓ev_in, ↓ev_isBoard, ↓ev_isGauge, ↓ev_isNumber, ↓ev_isSix, ↓ev_isEight, ↓ev_foundN, ↓ev_meetsN, ↓ev_found_1, ↓ev_meets_1, ↓ev_found_2, ↓ev_meets_2, ↓ev_found_3, ↓ev_meets_3, ↓ev_found_4, ↓ev_meets_4, ↓ev_found_5, ↓ev_meets_5, true_and, and_true, and_self, eq_self, not_true_eq_false, not_false_eq_true, ite_true, ite_false, true_or, or_true, false_or, or_false, false_and, and_false, ← zi_ni_0, ← zi_ni_1, ← zi_ni_2, ← zi_ni_3, ← zi_ni_4, ← zi_ni_5, ← zi_ni_6, ← zi_ni_7, ← zi_ni_8, ← zi_ni_9, ← zi_ni_10, ← zi_ni_12, ← zi_ni_24, ← zi_ni_25, ← zi_ni_40, ← zi_ni_45, ← zi_ni_47, ← zi_ni_48, ← zi_ni_95, ← zi_ni_96, ← zi_ni_97, ← zi_ni_100, ← zi_ni_144, ← zi_ni_288, nI_ltI, nI_leI, nI_eqI, nlt_T, nlt_F, nle_T, nle_F, neq_T, neq_F, nI_add, pk_mul, nI_clamp, q_inT, ng_lt, ng_tl, ng_le, ng_el, ng_eq, ng_qe, q_b0, q_b1, nar_0, nar_1, b01, b01', q_bn0, q_bn1, nar_n0, nar_n1, si_k, si_i, si_s, si_e, si_2, sl_1, sl_22, sl_k, sl_i, sl_s, sl_e, sp_1, sp_21, sp_22, sc_k, sc_i, sc_e, sc_2, mF_k, mM_k, mF_2, mM_2, mF_0, mM_11, g2, s7, s1, s2, s3', t6, fb, fb1, ↓hgr, n9, m2]
          exact K
        · have hmn : ¬ (b + 1 < L ∧ f (b + 1) = 45) := fun z => m2 z.2
          have K := fin (q_si (q_si t 7 0 3 (f b)) 7 0 2 (nI (b + 1))) (nI 0) (g1.tr ((F7.rf.si (by decide)).si (by decide))) (by rw [si_e]; unfold tC; rw [if_neg hmn]) (by rw [si_s (by decide), si_e]) (by rw [bas 5 (by decide) (by decide)]; exact h5) (by rw [bas 6 (by decide) (by decide)]; exact h6) (.inl ⟨hmn, rfl⟩)
          simp (disch := first | omega | decide) only [Nat.reduceAdd, Nat.reduceMul, ↓ev_bd, ↓ev_ck, ↓ev_if, ↓ev_lt, ↓ev_jn, ↓ev_so, ↓reduceIte, ↓ev_within, ↓ev_in, ↓ev_isBoard, ↓ev_isGauge, ↓ev_isNumber, ↓ev_isSix, ↓ev_isEight, ↓ev_foundN, ↓ev_meetsN, ↓ev_found_1, ↓ev_meets_1, ↓ev_found_2, ↓ev_meets_2, ↓ev_found_3, ↓ev_meets_3, ↓ev_found_4, ↓ev_meets_4, ↓ev_found_5, ↓ev_meets_5, true_and, and_true, and_self, eq_self, not_true_eq_false, not_false_eq_true, ite_true, ite_false, true_or, or_true, false_or, or_false, false_and, and_false, ← zi_ni_0, ← zi_ni_1, ← zi_ni_2, ← zi_ni_3, ← zi_ni_4, ← zi_ni_5, ← zi_ni_6, ← zi_ni_7, ← zi_ni_8, ← zi_ni_9, ← zi_ni_10, ← zi_ni_12, ← zi_ni_24, ← zi_ni_25, ← zi_ni_40, ← zi_ni_45, ← zi_ni_47, ← zi_ni_48, ← zi_ni_95, ← zi_ni_96, ← zi_ni_97, ← zi_ni_100, ← zi_ni_144, ← zi_ni_288, nI_ltI, nI_leI, nI_eqI, nlt_T, nlt_F, nle_T, nle_F, neq_T, neq_F, nI_add, pk_mul, nI_clamp, q_inT, ng_lt, ng_tl, ng_le, ng_el, ng_eq, ng_qe, q_b0, q_b1, nar_0, nar_1, b01, b01', q_bn0, q_bn1, nar_n0, nar_n1, si_k, si_i, si_s, si_e, si_2, sl_1, sl_22, sl_k, sl_i, sl_s, sl_e, sp_1, sp_21, sp_22, sc_k, sc_i, sc_e, sc_2, mF_k, mM_k, mF_2, mM_2, mF_0, mM_11, g2, s7, s1, s2, s3', t6, fb, fb1, ↓hgr, n9, m2]
          exact K
      · have hmn : ¬ (b + 1 < L ∧ f (b + 1) = 45) := fun z => m1 z.1
        have K := fin (q_si (q_si t 7 0 3 (f b)) 7 0 2 (nI (b + 1))) (nI 0) (g1.tr ((F7.rf.si (by decide)).si (by decide))) (by rw [si_e]; unfold tC; rw [if_neg hmn]) (by rw [si_s (by decide), si_e]) (by rw [bas 5 (by decide) (by decide)]; exact h5) (by rw [bas 6 (by decide) (by decide)]; exact h6) (.inl ⟨hmn, rfl⟩)
        simp (disch := first | omega | decide) only [Nat.reduceAdd, Nat.reduceMul, ↓ev_bd, ↓ev_ck, ↓ev_if, ↓ev_lt, ↓ev_jn, ↓ev_so, ↓reduceIte, ↓ev_within, ↓ev_in, ↓ev_isBoard, ↓ev_isGauge, ↓ev_isNumber, ↓ev_isSix, ↓ev_isEight, ↓ev_foundN, ↓ev_meetsN, ↓ev_found_1, ↓ev_meets_1, ↓ev_found_2, ↓ev_meets_2, ↓ev_found_3, ↓ev_meets_3, ↓ev_found_4, ↓ev_meets_4, ↓ev_found_5, ↓ev_meets_5, true_and, and_true, and_self, eq_self, not_true_eq_false, not_false_eq_true, ite_true, ite_false, true_or, or_true, false_or, or_false, false_and, and_false, ← zi_ni_0, ← zi_ni_1, ← zi_ni_2, ← zi_ni_3, ← zi_ni_4, ← zi_ni_5, ← zi_ni_6, ← zi_ni_7, ← zi_ni_8, ← zi_ni_9, ← zi_ni_10, ← zi_ni_12, ← zi_ni_24, ← zi_ni_25, ← zi_ni_40, ← zi_ni_45, ← zi_ni_47, ← zi_ni_48, ← zi_ni_95, ← zi_ni_96, ← zi_ni_97, ← zi_ni_100, ← zi_ni_144, ← zi_ni_288, nI_ltI, nI_leI, nI_eqI, nlt_T, nlt_F, nle_T, nle_F, neq_T, neq_F, nI_add, pk_mul, nI_clamp, q_inT, ng_lt, ng_tl, ng_le, ng_el, ng_eq, ng_qe, q_b0, q_b1, nar_0, nar_1, b01, b01', q_bn0, q_bn1, nar_n0, nar_n1, si_k, si_i, si_s, si_e, si_2, sl_1, sl_22, sl_k, sl_i, sl_s, sl_e, sp_1, sp_21, sp_22, sc_k, sc_i, sc_e, sc_2, mF_k, mM_k, mF_2, mM_2, mF_0, mM_11, g2, s7, s1, s2, s3', t6, fb, ↓hgr, n9]
        exact K
    · have hl : tHas (f b) = false := by
        cases hq : tHas (f b)
        · rfl
        · exact absurd hq hl
      have hgr : ∀ P, Ev (f_X6_greatest (q_si t 7 0 3 (f b))) P ↔ P (-nI 9) (q_si t 7 0 3 (f b)) := fun P => ev_greatestF si_e hl
      have K := K1 b hLb (by unfold tIt; rw [if_pos hl]) (q_si (q_si t 7 0 3 (f b)) 7 0 6 (nI b)) (g1.tr ((F7.rf.si (by decide)).si (by decide))) si_e
      simp (disch := first | omega | decide) only [Nat.reduceAdd, Nat.reduceMul, ↓ev_bd, ↓ev_ck, ↓ev_if, ↓ev_lt, ↓ev_jn, ↓ev_so, ↓reduceIte, ↓ev_within, ↓ev_in, ↓ev_isBoard, ↓ev_isGauge, ↓ev_isNumber, ↓ev_isSix, ↓ev_isEight, ↓ev_foundN, ↓ev_meetsN, ↓ev_found_1, ↓ev_meets_1, ↓ev_found_2, ↓ev_meets_2, ↓ev_found_3, ↓ev_meets_3, ↓ev_found_4, ↓ev_meets_4, ↓ev_found_5, ↓ev_meets_5, true_and, and_true, and_self, eq_self, not_true_eq_false, not_false_eq_true, ite_true, ite_false, true_or, or_true, false_or, or_false, false_and, and_false, ← zi_ni_0, ← zi_ni_1, ← zi_ni_2, ← zi_ni_3, ← zi_ni_4, ← zi_ni_5, ← zi_ni_6, ← zi_ni_7, ← zi_ni_8, ← zi_ni_9, ← zi_ni_10, ← zi_ni_12, ← zi_ni_24, ← zi_ni_25, ← zi_ni_40, ← zi_ni_45, ← zi_ni_47, ← zi_ni_48, ← zi_ni_95, ← zi_ni_96, ← zi_ni_97, ← zi_ni_100, ← zi_ni_144, ← zi_ni_288, nI_ltI, nI_leI, nI_eqI, nlt_T, nlt_F, nle_T, nle_F, neq_T, neq_F, nI_add, pk_mul, nI_clamp, q_inT, ng_lt, ng_tl, ng_le, ng_el, ng_eq, ng_qe, q_b0, q_b1, nar_0, nar_1, b01, b01', q_bn0, q_bn1, nar_n0, nar_n1, si_k, si_i, si_s, si_e, si_2, sl_1, sl_22, sl_k, sl_i, sl_s, sl_e, sp_1, sp_21, sp_22, sc_k, sc_i, sc_e, sc_2, mF_k, mM_k, mF_2, mM_2, mF_0, mM_11, g2, s7, s1, s2, s3', t6, fb, ↓hgr, ↓eu_X6_failed]
      exact K' _ _ K
