/-! fit: all pulls, and the best, of the reference. -/
theorem lpM {T : qB → Option Int32} {rd : Nat → Int32} {f : Nat → Option Int32} {b q r L n : Nat} {v0 : qB} {μ : qM} {e1 : qM → Option (Unit × qM)} (hb : b < 6) (hq : q < 48) (hr : r < 6) (hL : L ≤ 48) (hn : n + L ≤ 1500000) (hv : mB μ b = v0) (hw : WF n v0) (hs : SZ (μ.1 66 0)) (hN : N6 μ) (hrd : ∀ i, i < L → -100000 ≤ (rd i).toInt ∧ (rd i).toInt ≤ 100000) (hT : ∀ n v, n ≤ 2000000 → WF n v → tdM μ v = T v) (e66 : μ.1 66 0 r = nI L) (e67 : ∀ s, s < L → μ.1 67 0 (48 * r + s) = rd s) (hf : ∀ p, f p = msf T rd q L 0 (nI 0) (bset v0 0 8 (nI p))) : ∀ k p F (u : qM) (P : Unit → qM → Prop), p + k = 8 → k < F → Km μ u → (∀ p', 1 ≤ p' → p' ≤ p → u.2.1 119 0 p' = encL (f p')) → (∀ u', Km μ u' → (∀ p', 1 ≤ p' → p' ≤ 8 → u'.2.1 119 0 p' = encL (f p')) → Ev (e1 u') P) → Ev (L_X11_tryPulls_3 (nI b) (nI q) (nI r) F (nI (p + 1)) u e1) P := by
  intro k
  induction k with
  | zero =>
    intro p F u P hp hF hc h119 K
    obtain ⟨F, rfl⟩ : ∃ F', F = F' + 1 := ⟨F - 1, by omega⟩
    obtain rfl : p = 8 := by omega
    have K := K u hc h119
    refine eu_L_X11_tryPulls_3.mpr ?_
    rw [if_pos (by decide +kernel)]
    exact K
  | succ k ih =>
    intro p F u P hp hF hc h119 K
    obtain ⟨F, rfl⟩ : ∃ F', F = F' + 1 := ⟨F - 1, by omega⟩
    have hcb : mB u b = v0 := (hc.2.1 b (by omega) (by omega)).trans hv
    obtain ⟨st, hst, hsn⟩ : ∃ st, v0 0 3 = nI st ∧ st ≤ n := by
      obtain ⟨⟨k, wd, hg, st, p, d, rc, pc, a0, a1, a2, a3, a4, a5, a6, a7, a8, a9, -⟩, -⟩ := hw
      exact ⟨st, a8, a9⟩
    refine eu_L_X11_tryPulls_3.mpr ?_
    simp (disch := first | omega | decide) only [Nat.reduceAdd, Nat.reduceMul, ↓ev_ck, ↓ev_if, ↓ev_lt, ↓ev_jn, ↓ev_so, ↓reduceIte, ↓ev_within, ↓ev_in, ↓ev_isBoard, ↓ev_isGauge, ↓ev_isNumber, ↓ev_isSix, ↓ev_isEight, ↓ev_foundN, ↓ev_meetsN, ↓ev_found_1, ↓ev_meets_1, ↓ev_found_2, ↓ev_meets_2, ↓ev_found_3, ↓ev_meets_3, ↓ev_found_4, ↓ev_meets_4, ↓ev_found_5, ↓ev_meets_5, true_and, and_true, and_self, eq_self, not_true_eq_false, not_false_eq_true, ite_true, ite_false, true_or, or_true, false_or, or_false, false_and, and_false, ← zi_ni_0, ← zi_ni_1, ← zi_ni_2, ← zi_ni_3, ← zi_ni_4, ← zi_ni_5, ← zi_ni_6, ← zi_ni_7, ← zi_ni_8, ← zi_ni_9, ← zi_ni_10, ← zi_ni_12, ← zi_ni_24, ← zi_ni_25, ← zi_ni_40, ← zi_ni_45, ← zi_ni_47, ← zi_ni_48, ← zi_ni_95, ← zi_ni_96, ← zi_ni_97, ← zi_ni_100, ← zi_ni_144, ← zi_ni_288, nI_ltI, nI_leI, nI_eqI, nlt_T, nlt_F, nle_T, nle_F, neq_T, neq_F, nI_add, pk_mul, nI_clamp, q_inT, ng_lt, ng_tl, ng_le, ng_el, ng_eq, ng_qe, q_b0, q_b1, nar_0, nar_1, b01, b01', q_bn0, q_bn1, nar_n0, nar_n1, si_k, si_i, si_s, si_e, si_2, sl_1, sl_22, sl_k, sl_i, sl_s, sl_e, sp_1, sp_21, sp_22, sc_k, sc_i, sc_e, sc_2, mF_k, mM_k, mF_2, mM_2, mF_0, mM_11]
    refine ev_bd.mpr (ev_bring (a := b) (b := 6) (by omega) (by decide) (by omega) (fun s => by rw [hcb]; exact hw.2.1.2.2.2.1 s) (fun u1 t1 t2 t3 t4 => ?_))
    have c1 : Km u u1 := ⟨fun a i s q1 q2 q3 => t1 a i s (fun z => by rw [q1] at z; cases z.1) (fun z => q2 (by obtain ⟨rfl, rfl, z1, z2⟩ := z; unfold scr; omega)) (fun z => q2 (by obtain ⟨rfl, rfl, z1, z2⟩ := z; unfold scr; omega)), fun c _ h => t4 c h, fun a _ => by rw [t2]⟩
    have cc := hc.tr (c1.tr (Km.b77 (x := nI (p + 1))))
    have hb6 : mB (q_si u1 77 0 6 (nI (p + 1))) 6 = bset v0 0 8 (nI (p + 1)) := by rw [mW_0_8, t3, hcb]
    have f66 : (q_si u1 77 0 6 (nI (p + 1))).1 66 0 = μ.1 66 0 := funext (fun s => cc.eq (by decide))
    have f81 : (q_si u1 77 0 6 (nI (p + 1))).1 81 0 b = nI st := (show _ = mB (q_si u1 77 0 6 (nI (p + 1))) b 0 3 from rfl).trans (by rw [cc.2.1 b (by omega) (by omega), hv]; exact hst)
    simp (disch := first | omega | decide) only [Nat.reduceAdd, Nat.reduceMul, ↓ev_bd, ↓ev_ck, ↓ev_if, ↓ev_lt, ↓ev_jn, ↓ev_so, ↓reduceIte, ↓ev_within, ↓ev_in, ↓ev_isBoard, ↓ev_isGauge, ↓ev_isNumber, ↓ev_isSix, ↓ev_isEight, ↓ev_foundN, ↓ev_meetsN, ↓ev_found_1, ↓ev_meets_1, ↓ev_found_2, ↓ev_meets_2, ↓ev_found_3, ↓ev_meets_3, ↓ev_found_4, ↓ev_meets_4, ↓ev_found_5, ↓ev_meets_5, true_and, and_true, and_self, eq_self, not_true_eq_false, not_false_eq_true, ite_true, ite_false, true_or, or_true, false_or, or_false, false_and, and_false, ← zi_ni_0, ← zi_ni_1, ← zi_ni_2, ← zi_ni_3, ← zi_ni_4, ← zi_ni_5, ← zi_ni_6, ← zi_ni_7, ← zi_ni_8, ← zi_ni_9, ← zi_ni_10, ← zi_ni_12, ← zi_ni_24, ← zi_ni_25, ← zi_ni_40, ← zi_ni_45, ← zi_ni_47, ← zi_ni_48, ← zi_ni_95, ← zi_ni_96, ← zi_ni_97, ← zi_ni_100, ← zi_ni_144, ← zi_ni_288, nI_ltI, nI_leI, nI_eqI, nlt_T, nlt_F, nle_T, nle_F, neq_T, neq_F, nI_add, pk_mul, nI_clamp, q_inT, ng_lt, ng_tl, ng_le, ng_el, ng_eq, ng_qe, q_b0, q_b1, nar_0, nar_1, b01, b01', q_bn0, q_bn1, nar_n0, nar_n1, si_k, si_i, si_s, si_e, si_2, sl_1, sl_22, sl_k, sl_i, sl_s, sl_e, sp_1, sp_21, sp_22, sc_k, sc_i, sc_e, sc_2, mF_k, mM_k, mF_2, mM_2, mF_0, mM_11]
    have w0 : (0 : Int64) = Int32.toInt64 (nI 0) := tl_0.symm
    rw [w0]
    refine trM (T := T) (rd := rd) (sb := st) hq hr hb hL (by omega) hrd L 0 n (nI 0) _ q_fu P (by omega) (Nat.lt_of_le_of_lt hL (by decide)) (by omega) (by rw [hb6]; exact WF_pull hw (by omega) (by omega)) (by rw [hb6, bs_s (by decide)]; exact hst) f81 (by rw [f66]; exact hs) (hN.km cc) (fun n v q1 q2 => by rw [cc.td]; exact hT n v q1 q2) (by rw [f66]; exact e66) (fun s h => (cc.eq (by decide)).trans (e67 s h)) ⟨by decide +kernel, by decide +kernel⟩ (fun u3 km3 km2 => ?_)
    rw [hb6, ← hf (p + 1)]
    have cc3 := cc.tr km3
    have h119' : ∀ p', 1 ≤ p' → p' ≤ p → u3.2.1 119 0 p' = encL (f p') := fun p' y1 y2 => by
      rw [km2]
      show u1.2.1 119 0 p' = _
      rw [t2]
      exact h119 p' y1 y2
    have IH := ih (p + 1) F (q_sl u3 119 0 (p + 1) (encL (f (p + 1)))) P (by omega) (by omega) (cc3.tr Km.sl) (fun p' y1 y2 => by
      by_cases z : p' = p + 1
      · rw [z, sl_e]
      · rw [sl_s z]
        exact h119' p' y1 (by omega)) K
    simp (disch := first | omega | decide) only [Nat.reduceAdd, Nat.reduceMul, ↓ev_bd, ↓ev_ck, ↓ev_if, ↓ev_lt, ↓ev_jn, ↓ev_so, ↓reduceIte, ↓ev_within, ↓ev_in, ↓ev_isBoard, ↓ev_isGauge, ↓ev_isNumber, ↓ev_isSix, ↓ev_isEight, ↓ev_foundN, ↓ev_meetsN, ↓ev_found_1, ↓ev_meets_1, ↓ev_found_2, ↓ev_meets_2, ↓ev_found_3, ↓ev_meets_3, ↓ev_found_4, ↓ev_meets_4, ↓ev_found_5, ↓ev_meets_5, true_and, and_true, and_self, eq_self, not_true_eq_false, not_false_eq_true, ite_true, ite_false, true_or, or_true, false_or, or_false, false_and, and_false, ← zi_ni_0, ← zi_ni_1, ← zi_ni_2, ← zi_ni_3, ← zi_ni_4, ← zi_ni_5, ← zi_ni_6, ← zi_ni_7, ← zi_ni_8, ← zi_ni_9, ← zi_ni_10, ← zi_ni_12, ← zi_ni_24, ← zi_ni_25, ← zi_ni_40, ← zi_ni_45, ← zi_ni_47, ← zi_ni_48, ← zi_ni_95, ← zi_ni_96, ← zi_ni_97, ← zi_ni_100, ← zi_ni_144, ← zi_ni_288, nI_ltI, nI_leI, nI_eqI, nlt_T, nlt_F, nle_T, nle_F, neq_T, neq_F, nI_add, pk_mul, nI_clamp, q_inT, ng_lt, ng_tl, ng_le, ng_el, ng_eq, ng_qe, q_b0, q_b1, nar_0, nar_1, b01, b01', q_bn0, q_bn1, nar_n0, nar_n1, si_k, si_i, si_s, si_e, si_2, sl_1, sl_22, sl_k, sl_i, sl_s, sl_e, sp_1, sp_21, sp_22, sc_k, sc_i, sc_e, sc_2, mF_k, mM_k, mF_2, mM_2, mF_0, mM_11]
    exact IH
theorem cmp_ge {a c : Int32} : (nI 0 ≤ lg_cmp (Int32.toInt64 a) (Int32.toInt64 c)) = (c ≤ a) := by
  have h := cmp_neg (x := Int32.toInt64 a) (y := Int32.toInt64 c)
  rw [l_lt] at h
  refine propext ⟨fun q => x_nlt.mp (fun z => ?_), fun q => x_nlt.mp (fun z => ?_)⟩
  · rw [← h] at z
    exact x_nlt.mpr q z
  · rw [h] at z
    exact x_nlt.mpr q z
theorem lpB {f : Nat → Option Int32} {u : qM} {e1 : Int32 → qM → Option (Int32 × qM)} {P : Int32 → qM → Prop} (hf0 : ∀ p a, 1 ≤ p → p ≤ 8 → f p = some a → 0 ≤ a.toInt) (h119 : ∀ p', 1 ≤ p' → p' ≤ 8 → u.2.1 119 0 p' = encL (f p')) (K : Ev (e1 (bz (bsf f 8)) u) P) : ∀ k p F, p + k = 8 → k < F → Ev (L_X11_bestPull_5 F (bz (bsf f p)) (nI (p + 1)) u e1) P := by
  intro k
  induction k with
  | zero =>
    intro p F hp hF
    obtain ⟨F, rfl⟩ : ∃ F', F = F' + 1 := ⟨F - 1, by omega⟩
    obtain rfl : p = 8 := by omega
    refine eu_L_X11_bestPull_5.mpr ?_
    rw [if_pos (by decide +kernel)]
    exact K
  | succ k ih =>
    intro p F hp hF
    obtain ⟨F, rfl⟩ : ∃ F', F = F' + 1 := ⟨F - 1, by omega⟩
    have IH := ih (p + 1) F (by omega) (by omega)
    obtain ⟨bl, bs⟩ := bsf_le (f := f) p
    have ep := h119 (p + 1) (by omega) (by omega)
    refine eu_L_X11_bestPull_5.mpr ?_
    cases h : f (p + 1) with
    | none =>
      rw [bsf_n h] at IH
      rw [h] at ep
      have ep : u.2.1 119 0 (p + 1) = -1 := ep
      simp (disch := first | omega | decide) only [Nat.reduceAdd, Nat.reduceMul, ↓ev_bd, ↓ev_ck, ↓ev_if, ↓ev_lt, ↓ev_jn, ↓ev_so, ↓reduceIte, ↓ev_within, ↓ev_in, ↓ev_isBoard, ↓ev_isGauge, ↓ev_isNumber, ↓ev_isSix, ↓ev_isEight, ↓ev_foundN, ↓ev_meetsN, ↓ev_found_1, ↓ev_meets_1, ↓ev_found_2, ↓ev_meets_2, ↓ev_found_3, ↓ev_meets_3, ↓ev_found_4, ↓ev_meets_4, ↓ev_found_5, ↓ev_meets_5, true_and, and_true, and_self, eq_self, not_true_eq_false, not_false_eq_true, ite_true, ite_false, true_or, or_true, false_or, or_false, false_and, and_false, ← zi_ni_0, ← zi_ni_1, ← zi_ni_2, ← zi_ni_3, ← zi_ni_4, ← zi_ni_5, ← zi_ni_6, ← zi_ni_7, ← zi_ni_8, ← zi_ni_9, ← zi_ni_10, ← zi_ni_12, ← zi_ni_24, ← zi_ni_25, ← zi_ni_40, ← zi_ni_45, ← zi_ni_47, ← zi_ni_48, ← zi_ni_95, ← zi_ni_96, ← zi_ni_97, ← zi_ni_100, ← zi_ni_144, ← zi_ni_288, nI_ltI, nI_leI, nI_eqI, nlt_T, nlt_F, nle_T, nle_F, neq_T, neq_F, nI_add, pk_mul, nI_clamp, q_inT, ng_lt, ng_tl, ng_le, ng_el, ng_eq, ng_qe, q_b0, q_b1, nar_0, nar_1, b01, b01', q_bn0, q_bn1, nar_n0, nar_n1, si_k, si_i, si_s, si_e, si_2, sl_1, sl_22, sl_k, sl_i, sl_s, sl_e, sp_1, sp_21, sp_22, sc_k, sc_i, sc_e, sc_2, mF_k, mM_k, mF_2, mM_2, mF_0, mM_11, ep, cmp_m1]
      exact IH
    | some a =>
      have ha := hf0 (p + 1) a (by omega) (by omega) h
      have hca := cmp_a ha
      rw [h] at ep
      have ep : u.2.1 119 0 (p + 1) = Int32.toInt64 a := ep
      rw [bsf_s h] at IH
      by_cases z : bsf f p = 0
      · rw [if_pos z, bz_s (by omega)] at IH
        rw [z, bz_0]
        simp (disch := first | omega | decide) only [Nat.reduceAdd, Nat.reduceMul, ↓ev_bd, ↓ev_ck, ↓ev_if, ↓ev_lt, ↓ev_jn, ↓ev_so, ↓reduceIte, ↓ev_within, ↓ev_in, ↓ev_isBoard, ↓ev_isGauge, ↓ev_isNumber, ↓ev_isSix, ↓ev_isEight, ↓ev_foundN, ↓ev_meetsN, ↓ev_found_1, ↓ev_meets_1, ↓ev_found_2, ↓ev_meets_2, ↓ev_found_3, ↓ev_meets_3, ↓ev_found_4, ↓ev_meets_4, ↓ev_found_5, ↓ev_meets_5, true_and, and_true, and_self, eq_self, not_true_eq_false, not_false_eq_true, ite_true, ite_false, true_or, or_true, false_or, or_false, false_and, and_false, ← zi_ni_0, ← zi_ni_1, ← zi_ni_2, ← zi_ni_3, ← zi_ni_4, ← zi_ni_5, ← zi_ni_6, ← zi_ni_7, ← zi_ni_8, ← zi_ni_9, ← zi_ni_10, ← zi_ni_12, ← zi_ni_24, ← zi_ni_25, ← zi_ni_40, ← zi_ni_45, ← zi_ni_47, ← zi_ni_48, ← zi_ni_95, ← zi_ni_96, ← zi_ni_97, ← zi_ni_100, ← zi_ni_144, ← zi_ni_288, nI_ltI, nI_leI, nI_eqI, nlt_T, nlt_F, nle_T, nle_F, neq_T, neq_F, nI_add, pk_mul, nI_clamp, q_inT, ng_lt, ng_tl, ng_le, ng_el, ng_eq, ng_qe, q_b0, q_b1, nar_0, nar_1, b01, b01', q_bn0, q_bn1, nar_n0, nar_n1, si_k, si_i, si_s, si_e, si_2, sl_1, sl_22, sl_k, sl_i, sl_s, sl_e, sp_1, sp_21, sp_22, sc_k, sc_i, sc_e, sc_2, mF_k, mM_k, mF_2, mM_2, mF_0, mM_11, ep, hca]
        exact IH
      · obtain ⟨a0, h0⟩ := bs z
        have e0 : u.2.1 119 0 (bsf f p) = Int32.toInt64 a0 := by rw [h119 _ (by omega) (by omega), h0]; rfl
        rw [if_neg z, h0] at IH
        rw [bz_s z]
        have hge := cmp_ge (a := a) (c := a0)
        by_cases z2 : a0 ≤ a
        · rw [if_pos (show encC (some a0) ≤ a from z2), bz_s z] at IH
          simp (disch := first | omega | decide) only [Nat.reduceAdd, Nat.reduceMul, ↓ev_bd, ↓ev_ck, ↓ev_if, ↓ev_lt, ↓ev_jn, ↓ev_so, ↓reduceIte, ↓ev_within, ↓ev_in, ↓ev_isBoard, ↓ev_isGauge, ↓ev_isNumber, ↓ev_isSix, ↓ev_isEight, ↓ev_foundN, ↓ev_meetsN, ↓ev_found_1, ↓ev_meets_1, ↓ev_found_2, ↓ev_meets_2, ↓ev_found_3, ↓ev_meets_3, ↓ev_found_4, ↓ev_meets_4, ↓ev_found_5, ↓ev_meets_5, true_and, and_true, and_self, eq_self, not_true_eq_false, not_false_eq_true, ite_true, ite_false, true_or, or_true, false_or, or_false, false_and, and_false, ← zi_ni_0, ← zi_ni_1, ← zi_ni_2, ← zi_ni_3, ← zi_ni_4, ← zi_ni_5, ← zi_ni_6, ← zi_ni_7, ← zi_ni_8, ← zi_ni_9, ← zi_ni_10, ← zi_ni_12, ← zi_ni_24, ← zi_ni_25, ← zi_ni_40, ← zi_ni_45, ← zi_ni_47, ← zi_ni_48, ← zi_ni_95, ← zi_ni_96, ← zi_ni_97, ← zi_ni_100, ← zi_ni_144, ← zi_ni_288, nI_ltI, nI_leI, nI_eqI, nlt_T, nlt_F, nle_T, nle_F, neq_T, neq_F, nI_add, pk_mul, nI_clamp, q_inT, ng_lt, ng_tl, ng_le, ng_el, ng_eq, ng_qe, q_b0, q_b1, nar_0, nar_1, b01, b01', q_bn0, q_bn1, nar_n0, nar_n1, si_k, si_i, si_s, si_e, si_2, sl_1, sl_22, sl_k, sl_i, sl_s, sl_e, sp_1, sp_21, sp_22, sc_k, sc_i, sc_e, sc_2, mF_k, mM_k, mF_2, mM_2, mF_0, mM_11, ep, e0, hca, hge, z2]
          exact IH
        · rw [if_neg (show ¬ encC (some a0) ≤ a from z2), bz_s (by omega)] at IH
          simp (disch := first | omega | decide) only [Nat.reduceAdd, Nat.reduceMul, ↓ev_bd, ↓ev_ck, ↓ev_if, ↓ev_lt, ↓ev_jn, ↓ev_so, ↓reduceIte, ↓ev_within, ↓ev_in, ↓ev_isBoard, ↓ev_isGauge, ↓ev_isNumber, ↓ev_isSix, ↓ev_isEight, ↓ev_foundN, ↓ev_meetsN, ↓ev_found_1, ↓ev_meets_1, ↓ev_found_2, ↓ev_meets_2, ↓ev_found_3, ↓ev_meets_3, ↓ev_found_4, ↓ev_meets_4, ↓ev_found_5, ↓ev_meets_5, true_and, and_true, and_self, eq_self, not_true_eq_false, not_false_eq_true, ite_true, ite_false, true_or, or_true, false_or, or_false, false_and, and_false, ← zi_ni_0, ← zi_ni_1, ← zi_ni_2, ← zi_ni_3, ← zi_ni_4, ← zi_ni_5, ← zi_ni_6, ← zi_ni_7, ← zi_ni_8, ← zi_ni_9, ← zi_ni_10, ← zi_ni_12, ← zi_ni_24, ← zi_ni_25, ← zi_ni_40, ← zi_ni_45, ← zi_ni_47, ← zi_ni_48, ← zi_ni_95, ← zi_ni_96, ← zi_ni_97, ← zi_ni_100, ← zi_ni_144, ← zi_ni_288, nI_ltI, nI_leI, nI_eqI, nlt_T, nlt_F, nle_T, nle_F, neq_T, neq_F, nI_add, pk_mul, nI_clamp, q_inT, ng_lt, ng_tl, ng_le, ng_el, ng_eq, ng_qe, q_b0, q_b1, nar_0, nar_1, b01, b01', q_bn0, q_bn1, nar_n0, nar_n1, si_k, si_i, si_s, si_e, si_2, sl_1, sl_22, sl_k, sl_i, sl_s, sl_e, sp_1, sp_21, sp_22, sc_k, sc_i, sc_e, sc_2, mF_k, mM_k, mF_2, mM_2, mF_0, mM_11, ep, e0, hca, hge, z2]
          exact IH
/-- the first and the last pull that come near the best -/
def eds (f : Nat → Option Int32) (t : Int32) : Nat → Int32 × Int32
  | 0 => (nI 0, nI 0)
  | p + 1 => match f (p + 1) with
    | none => eds f t p
    | some a => if a ≤ t then (if (eds f t p).1 = nI 0 then nI (p + 1) else (eds f t p).1, nI (p + 1)) else eds f t p
theorem eds_n {f : Nat → Option Int32} {t : Int32} {p : Nat} (h : f (p + 1) = none) : eds f t (p + 1) = eds f t p := by
  show (match f (p + 1) with
    | none => eds f t p
    | some a => if a ≤ t then (if (eds f t p).1 = nI 0 then nI (p + 1) else (eds f t p).1, nI (p + 1)) else eds f t p) = _
  rw [h]
theorem eds_s {f : Nat → Option Int32} {t a : Int32} {p : Nat} (h : f (p + 1) = some a) : eds f t (p + 1) = if a ≤ t then (if (eds f t p).1 = nI 0 then nI (p + 1) else (eds f t p).1, nI (p + 1)) else eds f t p := by
  show (match f (p + 1) with
    | none => eds f t p
    | some a => if a ≤ t then (if (eds f t p).1 = nI 0 then nI (p + 1) else (eds f t p).1, nI (p + 1)) else eds f t p) = _
  rw [h]
theorem lpE {f : Nat → Option Int32} {m : Nat} {y t a0 : Int32} {u : qM} {e1 : Int32 → Int32 → qM → Option (Int32 × qM)} {P : Int32 → qM → Prop} (hm : m ≤ 8) (h0 : u.1 35 0 m = a0) (ht : a0 + y = t) (hf0 : ∀ p a, 1 ≤ p → p ≤ 8 → f p = some a → 0 ≤ a.toInt) (h35 : ∀ p', 1 ≤ p' → p' ≤ 8 → u.1 35 0 p' = encC (f p')) (K : Ev (e1 (eds f t 8).1 (eds f t 8).2 u) P) : ∀ k p F, p + k = 8 → k < F → Ev (L_X10_ends_72 y (nI m) F (eds f t p).1 (eds f t p).2 (nI (p + 1)) u e1) P := by
  intro k
  induction k with
  | zero =>
    intro p F hp hF
    obtain ⟨F, rfl⟩ : ∃ F', F = F' + 1 := ⟨F - 1, by omega⟩
    obtain rfl : p = 8 := by omega
    refine eu_L_X10_ends_72.mpr ?_
    rw [if_pos (by decide +kernel)]
    exact K
  | succ k ih =>
    intro p F hp hF
    obtain ⟨F, rfl⟩ : ∃ F', F = F' + 1 := ⟨F - 1, by omega⟩
    have IH := ih (p + 1) F (by omega) (by omega)
    have ep := h35 (p + 1) (by omega) (by omega)
    refine eu_L_X10_ends_72.mpr ?_
    cases h : f (p + 1) with
    | none =>
      rw [eds_n h] at IH
      rw [h] at ep
      have ep : u.1 35 0 (p + 1) = -nI 9 := ep
      simp (disch := first | omega | decide) only [Nat.reduceAdd, Nat.reduceMul, ↓ev_bd, ↓ev_ck, ↓ev_if, ↓ev_lt, ↓ev_jn, ↓ev_so, ↓reduceIte, ↓ev_within, ↓ev_in, ↓ev_isBoard, ↓ev_isGauge, ↓ev_isNumber, ↓ev_isSix, ↓ev_isEight, ↓ev_foundN, ↓ev_meetsN, ↓ev_found_1, ↓ev_meets_1, ↓ev_found_2, ↓ev_meets_2, ↓ev_found_3, ↓ev_meets_3, ↓ev_found_4, ↓ev_meets_4, ↓ev_found_5, ↓ev_meets_5, true_and, and_true, and_self, eq_self, not_true_eq_false, not_false_eq_true, ite_true, ite_false, true_or, or_true, false_or, or_false, false_and, and_false, ← zi_ni_0, ← zi_ni_1, ← zi_ni_2, ← zi_ni_3, ← zi_ni_4, ← zi_ni_5, ← zi_ni_6, ← zi_ni_7, ← zi_ni_8, ← zi_ni_9, ← zi_ni_10, ← zi_ni_12, ← zi_ni_24, ← zi_ni_25, ← zi_ni_40, ← zi_ni_45, ← zi_ni_47, ← zi_ni_48, ← zi_ni_95, ← zi_ni_96, ← zi_ni_97, ← zi_ni_100, ← zi_ni_144, ← zi_ni_288, nI_ltI, nI_leI, nI_eqI, nlt_T, nlt_F, nle_T, nle_F, neq_T, neq_F, nI_add, pk_mul, nI_clamp, q_inT, ng_lt, ng_tl, ng_le, ng_el, ng_eq, ng_qe, q_b0, q_b1, nar_0, nar_1, b01, b01', q_bn0, q_bn1, nar_n0, nar_n1, si_k, si_i, si_s, si_e, si_2, sl_1, sl_22, sl_k, sl_i, sl_s, sl_e, sp_1, sp_21, sp_22, sc_k, sc_i, sc_e, sc_2, mF_k, mM_k, mF_2, mM_2, mF_0, mM_11, ep]
      exact IH
    | some a =>
      have a9 := nn9 (hf0 (p + 1) a (by omega) (by omega) h)
      rw [h] at ep
      have ep : u.1 35 0 (p + 1) = a := ep
      rw [eds_s h] at IH
      by_cases z : a ≤ t
      · rw [if_pos z] at IH
        by_cases z2 : (eds f t p).1 = nI 0
        · rw [if_pos z2] at IH
          rw [z2]
          simp (disch := first | omega | decide) only [Nat.reduceAdd, Nat.reduceMul, ↓ev_bd, ↓ev_ck, ↓ev_if, ↓ev_lt, ↓ev_jn, ↓ev_so, ↓reduceIte, ↓ev_within, ↓ev_in, ↓ev_isBoard, ↓ev_isGauge, ↓ev_isNumber, ↓ev_isSix, ↓ev_isEight, ↓ev_foundN, ↓ev_meetsN, ↓ev_found_1, ↓ev_meets_1, ↓ev_found_2, ↓ev_meets_2, ↓ev_found_3, ↓ev_meets_3, ↓ev_found_4, ↓ev_meets_4, ↓ev_found_5, ↓ev_meets_5, true_and, and_true, and_self, eq_self, not_true_eq_false, not_false_eq_true, ite_true, ite_false, true_or, or_true, false_or, or_false, false_and, and_false, ← zi_ni_0, ← zi_ni_1, ← zi_ni_2, ← zi_ni_3, ← zi_ni_4, ← zi_ni_5, ← zi_ni_6, ← zi_ni_7, ← zi_ni_8, ← zi_ni_9, ← zi_ni_10, ← zi_ni_12, ← zi_ni_24, ← zi_ni_25, ← zi_ni_40, ← zi_ni_45, ← zi_ni_47, ← zi_ni_48, ← zi_ni_95, ← zi_ni_96, ← zi_ni_97, ← zi_ni_100, ← zi_ni_144, ← zi_ni_288, nI_ltI, nI_leI, nI_eqI, nlt_T, nlt_F, nle_T, nle_F, neq_T, neq_F, nI_add, pk_mul, nI_clamp, q_inT, ng_lt, ng_tl, ng_le, ng_el, ng_eq, ng_qe, q_b0, q_b1, nar_0, nar_1, b01, b01', q_bn0, q_bn1, nar_n0, nar_n1, si_k, si_i, si_s, si_e, si_2, sl_1, sl_22, sl_k, sl_i, sl_s, sl_e, sp_1, sp_21, sp_22, sc_k, sc_i, sc_e, sc_2, mF_k, mM_k, mF_2, mM_2, mF_0, mM_11, ep, a9, h0, ht, z]
          exact IH
        · rw [if_neg z2] at IH
          simp (disch := first | omega | decide) only [Nat.reduceAdd, Nat.reduceMul, ↓ev_bd, ↓ev_ck, ↓ev_if, ↓ev_lt, ↓ev_jn, ↓ev_so, ↓reduceIte, ↓ev_within, ↓ev_in, ↓ev_isBoard, ↓ev_isGauge, ↓ev_isNumber, ↓ev_isSix, ↓ev_isEight, ↓ev_foundN, ↓ev_meetsN, ↓ev_found_1, ↓ev_meets_1, ↓ev_found_2, ↓ev_meets_2, ↓ev_found_3, ↓ev_meets_3, ↓ev_found_4, ↓ev_meets_4, ↓ev_found_5, ↓ev_meets_5, true_and, and_true, and_self, eq_self, not_true_eq_false, not_false_eq_true, ite_true, ite_false, true_or, or_true, false_or, or_false, false_and, and_false, ← zi_ni_0, ← zi_ni_1, ← zi_ni_2, ← zi_ni_3, ← zi_ni_4, ← zi_ni_5, ← zi_ni_6, ← zi_ni_7, ← zi_ni_8, ← zi_ni_9, ← zi_ni_10, ← zi_ni_12, ← zi_ni_24, ← zi_ni_25, ← zi_ni_40, ← zi_ni_45, ← zi_ni_47, ← zi_ni_48, ← zi_ni_95, ← zi_ni_96, ← zi_ni_97, ← zi_ni_100, ← zi_ni_144, ← zi_ni_288, nI_ltI, nI_leI, nI_eqI, nlt_T, nlt_F, nle_T, nle_F, neq_T, neq_F, nI_add, pk_mul, nI_clamp, q_inT, ng_lt, ng_tl, ng_le, ng_el, ng_eq, ng_qe, q_b0, q_b1, nar_0, nar_1, b01, b01', q_bn0, q_bn1, nar_n0, nar_n1, si_k, si_i, si_s, si_e, si_2, sl_1, sl_22, sl_k, sl_i, sl_s, sl_e, sp_1, sp_21, sp_22, sc_k, sc_i, sc_e, sc_2, mF_k, mM_k, mF_2, mM_2, mF_0, mM_11, ep, a9, h0, ht, z, z2]
          exact IH
      · rw [if_neg z] at IH
        simp (disch := first | omega | decide) only [Nat.reduceAdd, Nat.reduceMul, ↓ev_bd, ↓ev_ck, ↓ev_if, ↓ev_lt, ↓ev_jn, ↓ev_so, ↓reduceIte, ↓ev_within, ↓ev_in, ↓ev_isBoard, ↓ev_isGauge, ↓ev_isNumber, ↓ev_isSix, ↓ev_isEight, ↓ev_foundN, ↓ev_meetsN, ↓ev_found_1, ↓ev_meets_1, ↓ev_found_2, ↓ev_meets_2, ↓ev_found_3, ↓ev_meets_3, ↓ev_found_4, ↓ev_meets_4, ↓ev_found_5, ↓ev_meets_5, true_and, and_true, and_self, eq_self, not_true_eq_false, not_false_eq_true, ite_true, ite_false, true_or, or_true, false_or, or_false, false_and, and_false, ← zi_ni_0, ← zi_ni_1, ← zi_ni_2, ← zi_ni_3, ← zi_ni_4, ← zi_ni_5, ← zi_ni_6, ← zi_ni_7, ← zi_ni_8, ← zi_ni_9, ← zi_ni_10, ← zi_ni_12, ← zi_ni_24, ← zi_ni_25, ← zi_ni_40, ← zi_ni_45, ← zi_ni_47, ← zi_ni_48, ← zi_ni_95, ← zi_ni_96, ← zi_ni_97, ← zi_ni_100, ← zi_ni_144, ← zi_ni_288, nI_ltI, nI_leI, nI_eqI, nlt_T, nlt_F, nle_T, nle_F, neq_T, neq_F, nI_add, pk_mul, nI_clamp, q_inT, ng_lt, ng_tl, ng_le, ng_el, ng_eq, ng_qe, q_b0, q_b1, nar_0, nar_1, b01, b01', q_bn0, q_bn1, nar_n0, nar_n1, si_k, si_i, si_s, si_e, si_2, sl_1, sl_22, sl_k, sl_i, sl_s, sl_e, sp_1, sp_21, sp_22, sc_k, sc_i, sc_e, sc_2, mF_k, mM_k, mF_2, mM_2, mF_0, mM_11, ep, a9, h0, ht, z]
        exact IH
theorem lpF {f : Nat → Option Int32} {m : Nat} {y t a0 : Int32} {u : qM} {e1 : Int32 → Int32 → qM → Option (Int32 × qM)} {P : Int32 → qM → Prop} (hm : m ≤ 8) (h0 : u.2.1 119 0 m = Int32.toInt64 a0) (ht : Int32.toInt64 a0 + Int32.toInt64 y = Int32.toInt64 t) (hf0 : ∀ p a, 1 ≤ p → p ≤ 8 → f p = some a → 0 ≤ a.toInt) (h119 : ∀ p', 1 ≤ p' → p' ≤ 8 → u.2.1 119 0 p' = encL (f p')) (K : Ev (e1 (eds f t 8).1 (eds f t 8).2 u) P) : ∀ k p F, p + k = 8 → k < F → Ev (L_X11_ends_60 y (nI m) F (eds f t p).1 (eds f t p).2 (nI (p + 1)) u e1) P := by
  intro k
  induction k with
  | zero =>
    intro p F hp hF
    obtain ⟨F, rfl⟩ : ∃ F', F = F' + 1 := ⟨F - 1, by omega⟩
    obtain rfl : p = 8 := by omega
    refine eu_L_X11_ends_60.mpr ?_
    rw [if_pos (by decide +kernel)]
    exact K
  | succ k ih =>
    intro p F hp hF
    obtain ⟨F, rfl⟩ : ∃ F', F = F' + 1 := ⟨F - 1, by omega⟩
    have IH := ih (p + 1) F (by omega) (by omega)
    have ep := h119 (p + 1) (by omega) (by omega)
    refine eu_L_X11_ends_60.mpr ?_
    cases h : f (p + 1) with
    | none =>
      rw [eds_n h] at IH
      rw [h] at ep
      have ep : u.2.1 119 0 (p + 1) = -1 := ep
      simp (disch := first | omega | decide) only [Nat.reduceAdd, Nat.reduceMul, ↓ev_bd, ↓ev_ck, ↓ev_if, ↓ev_lt, ↓ev_jn, ↓ev_so, ↓reduceIte, ↓ev_within, ↓ev_in, ↓ev_isBoard, ↓ev_isGauge, ↓ev_isNumber, ↓ev_isSix, ↓ev_isEight, ↓ev_foundN, ↓ev_meetsN, ↓ev_found_1, ↓ev_meets_1, ↓ev_found_2, ↓ev_meets_2, ↓ev_found_3, ↓ev_meets_3, ↓ev_found_4, ↓ev_meets_4, ↓ev_found_5, ↓ev_meets_5, true_and, and_true, and_self, eq_self, not_true_eq_false, not_false_eq_true, ite_true, ite_false, true_or, or_true, false_or, or_false, false_and, and_false, ← zi_ni_0, ← zi_ni_1, ← zi_ni_2, ← zi_ni_3, ← zi_ni_4, ← zi_ni_5, ← zi_ni_6, ← zi_ni_7, ← zi_ni_8, ← zi_ni_9, ← zi_ni_10, ← zi_ni_12, ← zi_ni_24, ← zi_ni_25, ← zi_ni_40, ← zi_ni_45, ← zi_ni_47, ← zi_ni_48, ← zi_ni_95, ← zi_ni_96, ← zi_ni_97, ← zi_ni_100, ← zi_ni_144, ← zi_ni_288, nI_ltI, nI_leI, nI_eqI, nlt_T, nlt_F, nle_T, nle_F, neq_T, neq_F, nI_add, pk_mul, nI_clamp, q_inT, ng_lt, ng_tl, ng_le, ng_el, ng_eq, ng_qe, q_b0, q_b1, nar_0, nar_1, b01, b01', q_bn0, q_bn1, nar_n0, nar_n1, si_k, si_i, si_s, si_e, si_2, sl_1, sl_22, sl_k, sl_i, sl_s, sl_e, sp_1, sp_21, sp_22, sc_k, sc_i, sc_e, sc_2, mF_k, mM_k, mF_2, mM_2, mF_0, mM_11, ep, cmp_m1]
      exact IH
    | some a =>
      have ha := hf0 (p + 1) a (by omega) (by omega) h
      have hca := cmp_a ha
      rw [h] at ep
      have ep : u.2.1 119 0 (p + 1) = Int32.toInt64 a := ep
      rw [eds_s h] at IH
      have hpos : (nI 0 < lg_cmp (Int32.toInt64 a) (Int32.toInt64 t)) = (t < a) := by rw [cmp_pos, l_lt]
      by_cases z : a ≤ t
      · rw [if_pos z] at IH
        have hpos : (nI 0 < lg_cmp (Int32.toInt64 a) (Int32.toInt64 t)) = False := by rw [hpos]; exact eq_false (x_nlt.mpr z)
        by_cases z2 : (eds f t p).1 = nI 0
        · rw [if_pos z2] at IH
          rw [z2]
          simp (disch := first | omega | decide) only [Nat.reduceAdd, Nat.reduceMul, ↓ev_bd, ↓ev_ck, ↓ev_if, ↓ev_lt, ↓ev_jn, ↓ev_so, ↓reduceIte, ↓ev_within, ↓ev_in, ↓ev_isBoard, ↓ev_isGauge, ↓ev_isNumber, ↓ev_isSix, ↓ev_isEight, ↓ev_foundN, ↓ev_meetsN, ↓ev_found_1, ↓ev_meets_1, ↓ev_found_2, ↓ev_meets_2, ↓ev_found_3, ↓ev_meets_3, ↓ev_found_4, ↓ev_meets_4, ↓ev_found_5, ↓ev_meets_5, true_and, and_true, and_self, eq_self, not_true_eq_false, not_false_eq_true, ite_true, ite_false, true_or, or_true, false_or, or_false, false_and, and_false, ← zi_ni_0, ← zi_ni_1, ← zi_ni_2, ← zi_ni_3, ← zi_ni_4, ← zi_ni_5, ← zi_ni_6, ← zi_ni_7, ← zi_ni_8, ← zi_ni_9, ← zi_ni_10, ← zi_ni_12, ← zi_ni_24, ← zi_ni_25, ← zi_ni_40, ← zi_ni_45, ← zi_ni_47, ← zi_ni_48, ← zi_ni_95, ← zi_ni_96, ← zi_ni_97, ← zi_ni_100, ← zi_ni_144, ← zi_ni_288, nI_ltI, nI_leI, nI_eqI, nlt_T, nlt_F, nle_T, nle_F, neq_T, neq_F, nI_add, pk_mul, nI_clamp, q_inT, ng_lt, ng_tl, ng_le, ng_el, ng_eq, ng_qe, q_b0, q_b1, nar_0, nar_1, b01, b01', q_bn0, q_bn1, nar_n0, nar_n1, si_k, si_i, si_s, si_e, si_2, sl_1, sl_22, sl_k, sl_i, sl_s, sl_e, sp_1, sp_21, sp_22, sc_k, sc_i, sc_e, sc_2, mF_k, mM_k, mF_2, mM_2, mF_0, mM_11, ep, hca, h0, ht, hpos]
          exact IH
        · rw [if_neg z2] at IH
          simp (disch := first | omega | decide) only [Nat.reduceAdd, Nat.reduceMul, ↓ev_bd, ↓ev_ck, ↓ev_if, ↓ev_lt, ↓ev_jn, ↓ev_so, ↓reduceIte, ↓ev_within, ↓ev_in, ↓ev_isBoard, ↓ev_isGauge, ↓ev_isNumber, ↓ev_isSix, ↓ev_isEight, ↓ev_foundN, ↓ev_meetsN, ↓ev_found_1, ↓ev_meets_1, ↓ev_found_2, ↓ev_meets_2, ↓ev_found_3, ↓ev_meets_3, ↓ev_found_4, ↓ev_meets_4, ↓ev_found_5, ↓ev_meets_5, true_and, and_true, and_self, eq_self, not_true_eq_false, not_false_eq_true, ite_true, ite_false, true_or, or_true, false_or, or_false, false_and, and_false, ← zi_ni_0, ← zi_ni_1, ← zi_ni_2, ← zi_ni_3, ← zi_ni_4, ← zi_ni_5, ← zi_ni_6, ← zi_ni_7, ← zi_ni_8, ← zi_ni_9, ← zi_ni_10, ← zi_ni_12, ← zi_ni_24, ← zi_ni_25, ← zi_ni_40, ← zi_ni_45, ← zi_ni_47, ← zi_ni_48, ← zi_ni_95, ← zi_ni_96, ← zi_ni_97, ← zi_ni_100, ← zi_ni_144, ← zi_ni_288, nI_ltI, nI_leI, nI_eqI, nlt_T, nlt_F, nle_T, nle_F, neq_T, neq_F, nI_add, pk_mul, nI_clamp, q_inT, ng_lt, ng_tl, ng_le, ng_el, ng_eq, ng_qe, q_b0, q_b1, nar_0, nar_1, b01, b01', q_bn0, q_bn1, nar_n0, nar_n1, si_k, si_i, si_s, si_e, si_2, sl_1, sl_22, sl_k, sl_i, sl_s, sl_e, sp_1, sp_21, sp_22, sc_k, sc_i, sc_e, sc_2, mF_k, mM_k, mF_2, mM_2, mF_0, mM_11, ep, hca, h0, ht, hpos, z2]
          exact IH
      · rw [if_neg z] at IH
        have hpos : (nI 0 < lg_cmp (Int32.toInt64 a) (Int32.toInt64 t)) = True := by rw [hpos]; exact eq_true (x_nle.mp z)
        simp (disch := first | omega | decide) only [Nat.reduceAdd, Nat.reduceMul, ↓ev_bd, ↓ev_ck, ↓ev_if, ↓ev_lt, ↓ev_jn, ↓ev_so, ↓reduceIte, ↓ev_within, ↓ev_in, ↓ev_isBoard, ↓ev_isGauge, ↓ev_isNumber, ↓ev_isSix, ↓ev_isEight, ↓ev_foundN, ↓ev_meetsN, ↓ev_found_1, ↓ev_meets_1, ↓ev_found_2, ↓ev_meets_2, ↓ev_found_3, ↓ev_meets_3, ↓ev_found_4, ↓ev_meets_4, ↓ev_found_5, ↓ev_meets_5, true_and, and_true, and_self, eq_self, not_true_eq_false, not_false_eq_true, ite_true, ite_false, true_or, or_true, false_or, or_false, false_and, and_false, ← zi_ni_0, ← zi_ni_1, ← zi_ni_2, ← zi_ni_3, ← zi_ni_4, ← zi_ni_5, ← zi_ni_6, ← zi_ni_7, ← zi_ni_8, ← zi_ni_9, ← zi_ni_10, ← zi_ni_12, ← zi_ni_24, ← zi_ni_25, ← zi_ni_40, ← zi_ni_45, ← zi_ni_47, ← zi_ni_48, ← zi_ni_95, ← zi_ni_96, ← zi_ni_97, ← zi_ni_100, ← zi_ni_144, ← zi_ni_288, nI_ltI, nI_leI, nI_eqI, nlt_T, nlt_F, nle_T, nle_F, neq_T, neq_F, nI_add, pk_mul, nI_clamp, q_inT, ng_lt, ng_tl, ng_le, ng_el, ng_eq, ng_qe, q_b0, q_b1, nar_0, nar_1, b01, b01', q_bn0, q_bn1, nar_n0, nar_n1, si_k, si_i, si_s, si_e, si_2, sl_1, sl_22, sl_k, sl_i, sl_s, sl_e, sp_1, sp_21, sp_22, sc_k, sc_i, sc_e, sc_2, mF_k, mM_k, mF_2, mM_2, mF_0, mM_11, ep, hca, h0, ht, hpos]
        exact IH
