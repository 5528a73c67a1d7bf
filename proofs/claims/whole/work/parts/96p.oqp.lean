/-! down: the reference, what a cell lacks. -/
/-- the four numbers of the reference's try -/
def WC (m : qM) (v : Nat → Int32) : Prop := ∀ q, q < 4 → m.1 118 0 q = v q
def FRW (m m' : qM) : Prop := (∀ a, a ≠ 118 → m'.1 a = m.1 a) ∧ m'.2 = m.2
theorem WC.si {m : qM} {v : Nat → Int32} {q : Nat} {x : Int32} (h : WC m v) : WC (q_si m 118 0 q x) (fset v q x) := by
  intro t ht
  unfold fset
  by_cases e : t = q
  · rw [if_pos e, e, si_e]
  · rw [if_neg e, si_s e]
    exact h t ht
theorem FRW.si {m m' : qM} {q : Nat} {x : Int32} (h : FRW m m') : FRW m (q_si m' 118 0 q x) := ⟨fun a q => (si_k q).trans (h.1 a q), h.2⟩
def mk (a x : Int32) : Int32 := if nI 1 ≤ a then (if x ≤ a then x else a) else nI 0
theorem mk_tk {a x : Int32} (hx : 0 ≤ x.toInt) : mk a x = tk a x := by
  have e1 : (nI 1).toInt = 1 := by decide +kernel
  unfold mk tk
  by_cases h : nI 1 ≤ a
  · have h' := h
    rw [x_le, e1] at h'
    rw [if_pos h]
    by_cases h2 : a < x
    · have h2' := h2
      rw [x_lt] at h2'
      rw [if_pos h2, if_neg (by rw [x_le]; omega), if_pos (by rw [x_lt, nI0]; omega)]
    · have h2' := h2
      rw [x_lt] at h2'
      rw [if_neg h2, if_pos (by rw [x_le]; omega)]
      by_cases h3 : nI 0 < x
      · rw [if_pos h3]
      · rw [if_neg h3]
        rw [x_lt, nI0] at h3
        exact Int32.toInt_inj.mp (by rw [nI0]; omega)
  · have h' := h
    rw [x_le, e1] at h'
    rw [if_neg h]
    by_cases h2 : a < x
    · rw [if_pos h2, if_neg (by rw [x_lt, nI0]; omega)]
    · have h2' := h2
      rw [x_lt] at h2'
      rw [if_neg h2, if_neg (by rw [x_lt, nI0]; omega)]
theorem m177 {q i f : Nat} {x x1 x3 x4 x7 x12 : Int32} {m0 m : qM} {v : Nat → Int32} {e : Int32 → qM → Option (Int32 × qM)} {P : Int32 → qM → Prop} (hq : q < 4) (hi : i < 4) (h1 : FRW m0 m) (h2 : WC m v) (K : ∀ m', FRW m0 m' → WC m' (fset v ((q + i) % 4) (v ((q + i) % 4) - mk (v ((q + i) % 4)) x)) → Ev (L_X11_down_177 x1 x3 x4 x7 x12 (nI q) f (x - mk (v ((q + i) % 4)) x) (nI (i + 1)) m' e) P) : Ev (L_X11_down_177 x1 x3 x4 x7 x12 (nI q) (f + 1) x (nI i) m e) P := by
  have hp : (q + i) % 4 < 4 := Nat.mod_lt _ (by decide)
  have e3 : m.1 118 0 ((q + i) % 4) = v ((q + i) % 4) := h2 _ hp
  have K1 := K _ (h1.si (q := (q + i) % 4) (x := v ((q + i) % 4) - mk (v ((q + i) % 4)) x)) h2.si
  unfold mk at K1
  by_cases c1 : nI 1 ≤ v ((q + i) % 4)
  · rw [if_pos c1] at K1
    by_cases c2 : x ≤ v ((q + i) % 4)
    · rw [if_pos c2] at K1
      simp (disch := first | omega | decide) only [Nat.reduceAdd, Nat.reduceMul, ↓ev_bd, ↓ev_ck, ↓ev_if, ↓ev_lt, ↓ev_jn, ↓ev_so, ↓reduceIte, ↓ev_within, ↓ev_in, ↓ev_isBoard, ↓ev_isGauge, ↓ev_isNumber, ↓ev_isSix, ↓ev_isEight, ↓ev_foundN, ↓ev_meetsN, ↓ev_found_1, ↓ev_meets_1, ↓ev_found_2, ↓ev_meets_2, ↓ev_found_3, ↓ev_meets_3, ↓ev_found_4, ↓ev_meets_4, ↓ev_found_5, ↓ev_meets_5, true_and, and_true, and_self, eq_self, not_true_eq_false, not_false_eq_true, ite_true, ite_false, true_or, or_true, false_or, or_false, false_and, and_false, ← zi_ni_0, ← zi_ni_1, ← zi_ni_2, ← zi_ni_3, ← zi_ni_4, ← zi_ni_5, ← zi_ni_6, ← zi_ni_7, ← zi_ni_8, ← zi_ni_9, ← zi_ni_10, ← zi_ni_12, ← zi_ni_24, ← zi_ni_25, ← zi_ni_40, ← zi_ni_45, ← zi_ni_47, ← zi_ni_48, ← zi_ni_95, ← zi_ni_96, ← zi_ni_97, ← zi_ni_100, ← zi_ni_144, ← zi_ni_288, nI_ltI, nI_leI, nI_eqI, nlt_T, nlt_F, nle_T, nle_F, neq_T, neq_F, nI_add, pk_mul, nI_clamp, q_inT, ng_lt, ng_tl, ng_le, ng_el, ng_eq, ng_qe, q_b0, q_b1, nar_0, nar_1, b01, b01', q_bn0, q_bn1, nar_n0, nar_n1, si_k, si_i, si_s, si_e, si_2, sl_1, sl_22, sl_k, sl_i, sl_s, sl_e, sp_1, sp_21, sp_22, sc_k, sc_i, sc_e, sc_2, mF_k, mM_k, mF_2, mM_2, mF_0, mM_11, ↓eu_L_X11_down_177, e3, c1, c2, pk_div, pk_rem', n_rem]
      exact K1
    · rw [if_neg c2] at K1
      simp (disch := first | omega | decide) only [Nat.reduceAdd, Nat.reduceMul, ↓ev_bd, ↓ev_ck, ↓ev_if, ↓ev_lt, ↓ev_jn, ↓ev_so, ↓reduceIte, ↓ev_within, ↓ev_in, ↓ev_isBoard, ↓ev_isGauge, ↓ev_isNumber, ↓ev_isSix, ↓ev_isEight, ↓ev_foundN, ↓ev_meetsN, ↓ev_found_1, ↓ev_meets_1, ↓ev_found_2, ↓ev_meets_2, ↓ev_found_3, ↓ev_meets_3, ↓ev_found_4, ↓ev_meets_4, ↓ev_found_5, ↓ev_meets_5, true_and, and_true, and_self, eq_self, not_true_eq_false, not_false_eq_true, ite_true, ite_false, true_or, or_true, false_or, or_false, false_and, and_false, ← zi_ni_0, ← zi_ni_1, ← zi_ni_2, ← zi_ni_3, ← zi_ni_4, ← zi_ni_5, ← zi_ni_6, ← zi_ni_7, ← zi_ni_8, ← zi_ni_9, ← zi_ni_10, ← zi_ni_12, ← zi_ni_24, ← zi_ni_25, ← zi_ni_40, ← zi_ni_45, ← zi_ni_47, ← zi_ni_48, ← zi_ni_95, ← zi_ni_96, ← zi_ni_97, ← zi_ni_100, ← zi_ni_144, ← zi_ni_288, nI_ltI, nI_leI, nI_eqI, nlt_T, nlt_F, nle_T, nle_F, neq_T, neq_F, nI_add, pk_mul, nI_clamp, q_inT, ng_lt, ng_tl, ng_le, ng_el, ng_eq, ng_qe, q_b0, q_b1, nar_0, nar_1, b01, b01', q_bn0, q_bn1, nar_n0, nar_n1, si_k, si_i, si_s, si_e, si_2, sl_1, sl_22, sl_k, sl_i, sl_s, sl_e, sp_1, sp_21, sp_22, sc_k, sc_i, sc_e, sc_2, mF_k, mM_k, mF_2, mM_2, mF_0, mM_11, ↓eu_L_X11_down_177, e3, c1, c2, pk_div, pk_rem', n_rem]
      exact K1
  · rw [if_neg c1] at K1
    simp (disch := first | omega | decide) only [Nat.reduceAdd, Nat.reduceMul, ↓ev_bd, ↓ev_ck, ↓ev_if, ↓ev_lt, ↓ev_jn, ↓ev_so, ↓reduceIte, ↓ev_within, ↓ev_in, ↓ev_isBoard, ↓ev_isGauge, ↓ev_isNumber, ↓ev_isSix, ↓ev_isEight, ↓ev_foundN, ↓ev_meetsN, ↓ev_found_1, ↓ev_meets_1, ↓ev_found_2, ↓ev_meets_2, ↓ev_found_3, ↓ev_meets_3, ↓ev_found_4, ↓ev_meets_4, ↓ev_found_5, ↓ev_meets_5, true_and, and_true, and_self, eq_self, not_true_eq_false, not_false_eq_true, ite_true, ite_false, true_or, or_true, false_or, or_false, false_and, and_false, ← zi_ni_0, ← zi_ni_1, ← zi_ni_2, ← zi_ni_3, ← zi_ni_4, ← zi_ni_5, ← zi_ni_6, ← zi_ni_7, ← zi_ni_8, ← zi_ni_9, ← zi_ni_10, ← zi_ni_12, ← zi_ni_24, ← zi_ni_25, ← zi_ni_40, ← zi_ni_45, ← zi_ni_47, ← zi_ni_48, ← zi_ni_95, ← zi_ni_96, ← zi_ni_97, ← zi_ni_100, ← zi_ni_144, ← zi_ni_288, nI_ltI, nI_leI, nI_eqI, nlt_T, nlt_F, nle_T, nle_F, neq_T, neq_F, nI_add, pk_mul, nI_clamp, q_inT, ng_lt, ng_tl, ng_le, ng_el, ng_eq, ng_qe, q_b0, q_b1, nar_0, nar_1, b01, b01', q_bn0, q_bn1, nar_n0, nar_n1, si_k, si_i, si_s, si_e, si_2, sl_1, sl_22, sl_k, sl_i, sl_s, sl_e, sp_1, sp_21, sp_22, sc_k, sc_i, sc_e, sc_2, mF_k, mM_k, mF_2, mM_2, mF_0, mM_11, ↓eu_L_X11_down_177, e3, c1, pk_div, pk_rem', n_rem]
    exact K1
