/-! p56: a nest of one cell: laid, given up, taken down. -/
theorem fine1 {q : Nat} (h : q < 4) : fineN 1 0 q = q := by
  unfold fineN
  omega
theorem und1 {W X Y : Nat} : undN 1 W X Y 0 = Y * W + X := by
  show (Y + 0) * W + X + 0 = _
  rw [Nat.add_zero, Nat.add_zero]
theorem und_lt {W H X Y : Nat} (hx : X < W) (hy : Y < H) : Y * W + X < W * H := by
  have h1 : (Y + 1) * W ≤ H * W := Nat.mul_le_mul_right W hy
  rw [Nat.add_mul, Nat.mul_comm H W] at h1
  omega
/-- board 2 is a nest of one cell on board 0 -/
def NU (V : Nat → qB) (L : Nat → Nat → Int32) (W H X Y : Nat) : Prop := V 2 0 0 = nI 2 ∧ V 2 0 1 = nI 2 ∧ V 2 0 2 = nI 2 ∧ V 0 0 1 = nI W ∧ V 0 0 2 = nI H ∧ L 2 2 = nI 0 ∧ L 2 3 = nI X ∧ L 2 4 = nI Y ∧ X < W ∧ Y < H ∧ W ≤ 8 ∧ H ≤ 6 ∧ W * H ≤ 48
section CALLS5
variable {μ : qM} {sz : Nat → Int32} {rw : Nat → Nat → Int32} {th : Nat → Bool} {V : Nat → qB} {L mk rs : Nat → Nat → Int32} {b : Nat}
theorem St.nu {W H X Y : Nat} (h : St μ sz rw th V L mk rs) (t2 : th 2 = true) (hn : NU V L W H X Y) : μ.1 2 2 10 = nI 1 ∧ μ.1 2 2 11 = nI 2 ∧ μ.1 2 2 12 = nI 2 ∧ μ.1 2 2 13 = nI 2 ∧ μ.1 2 0 12 = nI W ∧ μ.1 5 2 2 = nI 0 ∧ μ.1 5 2 3 = nI X ∧ μ.1 5 2 4 = nI Y := by
  obtain ⟨n1, n2, n3, n4, n5, n6, n7, n8, -⟩ := hn
  have e2 := h.tab (b := 2) (by decide)
  have e0 := h.tab (b := 0) (by decide)
  have e5 := h.2.2.2.2.2.2.1
  refine ⟨h.there (by decide) t2, ?_, ?_, ?_, ?_, ?_, ?_, ?_⟩
  · rw [← n1, ← e2]; rfl
  · rw [← n2, ← e2]; rfl
  · rw [← n3, ← e2]; rfl
  · rw [← n4, ← e0]; rfl
  · rw [e5]; exact n6
  · rw [e5]; exact n7
  · rw [e5]; exact n8
theorem vV_4 {w : Int32} (h : 0 ≤ w.toInt ∧ w.toInt ≤ 100000) : vV (nI 0 + w + w + w + w) = w := by
  have z0 : (nI 0).toInt = 0 := nI_toInt (by decide)
  have a1 : (nI 0 + w).toInt = w.toInt := by rw [z_add (by omega) (by omega), z0]; omega
  have a2 : (nI 0 + w + w).toInt = 2 * w.toInt := by rw [z_add (by omega) (by omega), a1]; omega
  have a3 : (nI 0 + w + w + w).toInt = 3 * w.toInt := by rw [z_add (by omega) (by omega), a2]; omega
  have a4 : (nI 0 + w + w + w + w).toInt = 4 * w.toInt := by rw [z_add (by omega) (by omega), a3]; omega
  have d := (z_div (x := nI 0 + w + w + w + w) (d := 4) (by decide) (by decide) (m := 400000) (by decide) (by omega) (by omega)).1
  have d2 : (nI 0 + w + w + w + w) / nI 4 = w := by
    rw [x_eq, d, a4]
    have : (((4 : Nat) : Int)) = 4 := rfl
    rw [this, Int.mul_comm, Int.mul_tdiv_cancel _ (by decide)]
  unfold vV
  rw [if_pos (by rw [x_le, z0]; omega), d2, if_pos (by rw [x_le, x100]; omega)]
theorem ev_giveUp {W H X Y f : Nat} {w1 : Int32} {e : Int32 → qM → Option (Int32 × qM)} {P : Int32 → qM → Prop} (h : St μ sz rw th V L mk rs) (t2 : th 2 = true) (hn : NU V L W H X Y) (hr : rs 2 0 = nI 0) (hw1 : 0 ≤ w1.toInt ∧ w1.toInt ≤ 100000) (hf : ∀ q, q < 4 → V 2 2 q = w1)
    (K : Ev (e (w1 - V 0 2 (Y * W + X)) (q_si (q_si (q_si μ 38 0 (Y * W + X) w1) 45 2 0 w1) 46 2 0 (nI 0))) P) : Ev (L_X0_giveUp_4 2 0 (f + 1 + 1) (nI 0) (nI 0) μ e) P := by
  obtain ⟨m1, m2, m3, m4, m5, m6, m7, m8⟩ := h.nu t2 hn
  have hnn := hn
  obtain ⟨n1, n2, n3, n4, n5, n6, n7, n8, n9, n10, n11, n12, n13⟩ := hnn
  have hU := und_lt n9 n10
  have er : μ.1 46 2 0 = nI 0 := by rw [h.2.2.2.2.2.2.2.2]; exact hr
  have ew : ∀ q, q < 4 → μ.1 38 2 q = w1 := fun q hq => by
    have : μ.1 38 2 q = cB μ 2 2 q := (cR_2 (by omega)).symm
    rw [this, h.tab (by decide)]
    exact hf q hq
  have eU : μ.1 38 0 (Y * W + X) = V 0 2 (Y * W + X) := by
    have : μ.1 38 0 (Y * W + X) = cB μ 0 2 (Y * W + X) := (cR_2 (by omega)).symm
    rw [this, h.tab (by decide)]
  have hdv : nI 4 / nI 4 = nI 1 := by decide +kernel
  refine eu_L_X0_giveUp_4.mpr (ev_bd.mpr (eu_X0_cells.mpr (ev_so.mpr (ev_if.mpr ?_))))
  rw [m3, m4, if_neg (by decide +kernel)]
  refine ev_bd.mpr ((ev_undC (wd := 1) (W := W) (x := X) (y := Y) (by decide) (by decide) (by decide) m3 m5 m7 m8).mpr ?_)
  rw [und1]
  refine ev_ck.mpr ⟨by decide +kernel, ev_lt.mpr ?_⟩
  rw [nI_clamp (by decide), er]
  refine ev_sumC (wd := 1) (hg := 1) (by decide) (by decide) (by decide) (by decide) m3 ?_
  rw [fine1 (by decide), fine1 (by decide), fine1 (by decide), fine1 (by decide), ew 0 (by decide), ew 1 (by decide), ew 2 (by decide), ew 3 (by decide)]
  refine ev_bd.mpr (ev_fdiv (fun y hy => ?_))
  have hy' : (if 0 < (if y < 100000 then y else 100000) then (if y < 100000 then y else 100000) else 0) = w1 := hy.trans (vV_4 hw1)
  refine ev_lt.mpr ?_
  rw [hy']
  have e4 : nI 0 + w1 + w1 + w1 + w1 - 4 * w1 = nI 0 := by
    have z : (nI 0 : Int32) = 0 := rfl
    rw [z]
    grind
  have e0 : 0 + (w1 - V 0 2 (Y * W + X)) = w1 - V 0 2 (Y * W + X) := Int32.zero_add _
  refine ev_ck.mpr ⟨q_inT (by omega) (by decide), ev_lt.mpr (ev_ck.mpr ⟨q_inT (by omega) (by decide), ev_lt.mpr (ev_ck.mpr ⟨by decide +kernel, ev_lt.mpr (ev_ck.mpr ⟨by decide +kernel, ev_lt.mpr (ev_lt.mpr ?_)⟩)⟩)⟩)⟩
  have cU : (nI (Y * W + X)).toNatClampNeg = Y * W + X := nI_clamp (by omega)
  rw [e4, cU, eU]
  refine eu_L_X0_giveUp_4.mpr (ev_bd.mpr (eu_X0_cells.mpr (ev_so.mpr (ev_if.mpr ?_))))
  have k12 : (q_si (q_si (q_si μ 38 0 (Y * W + X) w1) 45 2 0 w1) 46 2 0 (nI 0)).1 2 = μ.1 2 := by
    rw [si_k (by decide), si_k (by decide), si_k (by decide)]
  rw [k12, m3, m4, if_pos (by decide +kernel)]
  have z : (nI 0 : Int32) + (w1 - V 0 2 (Y * W + X)) = w1 - V 0 2 (Y * W + X) := Int32.zero_add _
  rw [z]
  exact K
theorem St.m {μ' : qM} (h : St μ sz rw th V L mk rs) (e : ∀ k, k ≠ 0 → k ≠ 45 → k ≠ 46 → μ'.1 k = μ.1 k) : St μ' sz rw th V L (μ'.1 45) (μ'.1 46) := by
  obtain ⟨h1, h2, h3, h4, h5, h6, h7, h8, h9⟩ := h
  have z : ∀ k x, isCK k = true → μ'.1 k x = μ.1 k x := fun k x q => by
    have := isCK_k q
    rw [e k (by omega) (by omega) (by omega)]
  refine ⟨fun k hk => ?_, fun g hg => ?_, ?_, ?_, fun x hx => ?_, fun x hx => ?_, ?_, rfl, rfl⟩
  · rw [e 8 (by decide) (by decide) (by decide)]; exact h1 k hk
  · rw [e 9 (by decide) (by decide) (by decide)]; exact h2 g hg
  · rw [e 33 (by decide) (by decide) (by decide)]; exact h3
  · rw [e 30 (by decide) (by decide) (by decide)]; exact h4
  · rw [e 2 (by decide) (by decide) (by decide)]; exact h5 x hx
  · rw [← h6 x hx]
    exact cB_ext (z 2 x rfl) (z 3 x rfl) (z 4 x rfl) (z 37 x rfl) (z 38 x rfl) (z 39 x rfl) (z 40 x rfl) (z 41 x rfl) (z 42 x rfl) (z 43 x rfl) (z 44 x rfl)
  · rw [e 5 (by decide) (by decide) (by decide)]; exact h7
theorem ev_up {W H X Y : Nat} {w1 : Int32} {P : Int32 → qM → Prop} (h : St μ sz rw th V L mk rs) (t2 : th 2 = true) (hn : NU V L W H X Y) (hr : rs 2 0 = nI 0) (hw1 : 0 ≤ w1.toInt ∧ w1.toInt ≤ 100000) (hf : ∀ q, q < 4 → V 2 2 q = w1)
    (K : ∀ u' mk' rs', St u' sz rw th (vset V 0 (bset (V 0) 2 (Y * W + X) w1)) L mk' rs' → mk' 2 0 = w1 → rs' 2 0 = nI 0 → u'.1 0 0 15 = w1 - V 0 2 (Y * W + X) → P (nI 1) u') : Ev (f_X10_up (nI 2) μ) P := by
  obtain ⟨m1, m2, m3, m4, m5, m6, m7, m8⟩ := h.nu t2 hn
  have hU : Y * W + X < 48 := by
    obtain ⟨n1, n2, n3, n4, n5, n6, n7, n8, n9, n10, n11, n12, n13⟩ := hn
    have := und_lt n9 n10
    omega
  simp (disch := first | omega | decide) only [Nat.reduceAdd, Nat.reduceMul, ↓ev_ck, ↓ev_if, ↓ev_lt, ↓ev_jn, ↓ev_so, ↓reduceIte, ↓ev_within, ↓ev_isBoard, ↓ev_isNumber, ↓ev_foundN, ↓ev_found_1, ↓ev_found_2, ↓ev_found_3, ↓ev_found_4, ↓ev_found_5, true_and, and_true, and_self, eq_self, not_true_eq_false, not_false_eq_true, ite_true, ite_false, true_or, or_true, false_or, or_false, false_and, and_false, ← zi_ni_0, ← zi_ni_1, ← zi_ni_2, ← zi_ni_3, ← zi_ni_4, ← zi_ni_5, ← zi_ni_6, ← zi_ni_7, ← zi_ni_8, ← zi_ni_9, ← zi_ni_10, ← zi_ni_12, ← zi_ni_24, ← zi_ni_25, ← zi_ni_40, ← zi_ni_45, ← zi_ni_47, ← zi_ni_48, ← zi_ni_95, ← zi_ni_96, ← zi_ni_97, ← zi_ni_100, ← zi_ni_144, ← zi_ni_288, nI_ltI, nI_leI, nI_eqI, nlt_T, nlt_F, nle_T, nle_F, neq_T, neq_F, nI_add, pk_mul, nI_clamp, q_inT, ng_lt, ng_tl, ng_le, ng_el, ng_eq, ng_qe, q_b0, q_b1, nar_0, nar_1, b01, b01', q_bn0, q_bn1, nar_n0, nar_n1, si_k, si_i, si_s, si_e, si_2, sl_1, sl_22, sl_k, sl_i, sl_s, sl_e, sp_1, sp_21, sp_22, sc_k, sc_i, sc_e, sc_2, mF_k, mF_2, mF_0, ↓eu_X10_up]
  refine ev_bd.mpr ?_
  simp (disch := first | omega | decide) only [Nat.reduceAdd, Nat.reduceMul, ↓ev_ck, ↓ev_if, ↓ev_lt, ↓ev_jn, ↓ev_so, ↓reduceIte, ↓ev_within, ↓ev_isBoard, ↓ev_isNumber, ↓ev_foundN, ↓ev_found_1, ↓ev_found_2, ↓ev_found_3, ↓ev_found_4, ↓ev_found_5, true_and, and_true, and_self, eq_self, not_true_eq_false, not_false_eq_true, ite_true, ite_false, true_or, or_true, false_or, or_false, false_and, and_false, ← zi_ni_0, ← zi_ni_1, ← zi_ni_2, ← zi_ni_3, ← zi_ni_4, ← zi_ni_5, ← zi_ni_6, ← zi_ni_7, ← zi_ni_8, ← zi_ni_9, ← zi_ni_10, ← zi_ni_12, ← zi_ni_24, ← zi_ni_25, ← zi_ni_40, ← zi_ni_45, ← zi_ni_47, ← zi_ni_48, ← zi_ni_95, ← zi_ni_96, ← zi_ni_97, ← zi_ni_100, ← zi_ni_144, ← zi_ni_288, nI_ltI, nI_leI, nI_eqI, nlt_T, nlt_F, nle_T, nle_F, neq_T, neq_F, nI_add, pk_mul, nI_clamp, q_inT, ng_lt, ng_tl, ng_le, ng_el, ng_eq, ng_qe, q_b0, q_b1, nar_0, nar_1, b01, b01', q_bn0, q_bn1, nar_n0, nar_n1, si_k, si_i, si_s, si_e, si_2, sl_1, sl_22, sl_k, sl_i, sl_s, sl_e, sp_1, sp_21, sp_22, sc_k, sc_i, sc_e, sc_2, mF_k, mF_2, mF_0, ↓eu_X10_nestRefused]
  refine ev_bd.mpr (ev_bref (by decide) m1 ?_)
  simp (disch := first | omega | decide) only [Nat.reduceAdd, Nat.reduceMul, ↓ev_bd, ↓ev_ck, ↓ev_if, ↓ev_lt, ↓ev_jn, ↓ev_so, ↓reduceIte, ↓ev_within, ↓ev_isBoard, ↓ev_isNumber, ↓ev_foundN, ↓ev_found_1, ↓ev_found_2, ↓ev_found_3, ↓ev_found_4, ↓ev_found_5, true_and, and_true, and_self, eq_self, not_true_eq_false, not_false_eq_true, ite_true, ite_false, true_or, or_true, false_or, or_false, false_and, and_false, ← zi_ni_0, ← zi_ni_1, ← zi_ni_2, ← zi_ni_3, ← zi_ni_4, ← zi_ni_5, ← zi_ni_6, ← zi_ni_7, ← zi_ni_8, ← zi_ni_9, ← zi_ni_10, ← zi_ni_12, ← zi_ni_24, ← zi_ni_25, ← zi_ni_40, ← zi_ni_45, ← zi_ni_47, ← zi_ni_48, ← zi_ni_95, ← zi_ni_96, ← zi_ni_97, ← zi_ni_100, ← zi_ni_144, ← zi_ni_288, nI_ltI, nI_leI, nI_eqI, nlt_T, nlt_F, nle_T, nle_F, neq_T, neq_F, nI_add, pk_mul, nI_clamp, q_inT, ng_lt, ng_tl, ng_le, ng_el, ng_eq, ng_qe, q_b0, q_b1, nar_0, nar_1, b01, b01', q_bn0, q_bn1, nar_n0, nar_n1, si_k, si_i, si_s, si_e, si_2, sl_1, sl_22, sl_k, sl_i, sl_s, sl_e, sp_1, sp_21, sp_22, sc_k, sc_i, sc_e, sc_2, mF_k, mF_2, mF_0, m2, m6]
  refine eu_X0_giveUp.mpr (ev_giveUp (f := 3998) h t2 hn hr hw1 hf (ev_so.mpr ?_))
  have h1 : St (q_si μ 38 0 (Y * W + X) w1) sz rw th (vset V 0 (bset (V 0) 2 (Y * W + X) w1)) L mk rs := h.w rfl (by omega) (by rw [cW_2 hU, h.tab (by decide)])
  have h2 := h1.m (μ' := q_si (q_si (q_si (q_si μ 38 0 (Y * W + X) w1) 45 2 0 w1) 46 2 0 (nI 0)) 0 0 15 (w1 - V 0 2 (Y * W + X))) (fun k q1 q2 q3 => by rw [si_k q1, si_k q3, si_k q2])
  refine K _ _ _ h2 ?_ ?_ si_e
  · rw [si_k (by decide), si_k (by decide), si_e]
  · rw [si_k (by decide), si_e]
theorem ev_mark {W H X Y : Nat} {P : Int32 → qM → Prop} (h : St μ sz rw th V L mk rs) (t2 : th 2 = true) (hn : NU V L W H X Y) (hr : rs 2 0 = nI 0) (K : ∀ u', St u' sz rw th V L mk rs → u'.1 0 0 15 = nI 0 → P (nI 1) u') : Ev (f_X10_mark (nI 2) (nI 2) μ) P := by
  obtain ⟨m1, m2, m3, m4, m5, m6, m7, m8⟩ := h.nu t2 hn
  have er : μ.1 46 2 0 = nI 0 := by rw [h.2.2.2.2.2.2.2.2]; exact hr
  simp (disch := first | omega | decide) only [Nat.reduceAdd, Nat.reduceMul, ↓ev_ck, ↓ev_if, ↓ev_lt, ↓ev_jn, ↓ev_so, ↓reduceIte, ↓ev_within, ↓ev_isBoard, ↓ev_isNumber, ↓ev_foundN, ↓ev_found_1, ↓ev_found_2, ↓ev_found_3, ↓ev_found_4, ↓ev_found_5, true_and, and_true, and_self, eq_self, not_true_eq_false, not_false_eq_true, ite_true, ite_false, true_or, or_true, false_or, or_false, false_and, and_false, ← zi_ni_0, ← zi_ni_1, ← zi_ni_2, ← zi_ni_3, ← zi_ni_4, ← zi_ni_5, ← zi_ni_6, ← zi_ni_7, ← zi_ni_8, ← zi_ni_9, ← zi_ni_10, ← zi_ni_12, ← zi_ni_24, ← zi_ni_25, ← zi_ni_40, ← zi_ni_45, ← zi_ni_47, ← zi_ni_48, ← zi_ni_95, ← zi_ni_96, ← zi_ni_97, ← zi_ni_100, ← zi_ni_144, ← zi_ni_288, nI_ltI, nI_leI, nI_eqI, nlt_T, nlt_F, nle_T, nle_F, neq_T, neq_F, nI_add, pk_mul, nI_clamp, q_inT, ng_lt, ng_tl, ng_le, ng_el, ng_eq, ng_qe, q_b0, q_b1, nar_0, nar_1, b01, b01', q_bn0, q_bn1, nar_n0, nar_n1, si_k, si_i, si_s, si_e, si_2, sl_1, sl_22, sl_k, sl_i, sl_s, sl_e, sp_1, sp_21, sp_22, sc_k, sc_i, sc_e, sc_2, mF_k, mF_2, mF_0, ↓eu_X10_mark]
  refine ev_bd.mpr (ev_within.mpr ?_)
  simp (disch := first | omega | decide) only [Nat.reduceAdd, Nat.reduceMul, ↓ev_ck, ↓ev_if, ↓ev_lt, ↓ev_jn, ↓ev_so, ↓reduceIte, ↓ev_within, ↓ev_isBoard, ↓ev_isNumber, ↓ev_foundN, ↓ev_found_1, ↓ev_found_2, ↓ev_found_3, ↓ev_found_4, ↓ev_found_5, true_and, and_true, and_self, eq_self, not_true_eq_false, not_false_eq_true, ite_true, ite_false, true_or, or_true, false_or, or_false, false_and, and_false, ← zi_ni_0, ← zi_ni_1, ← zi_ni_2, ← zi_ni_3, ← zi_ni_4, ← zi_ni_5, ← zi_ni_6, ← zi_ni_7, ← zi_ni_8, ← zi_ni_9, ← zi_ni_10, ← zi_ni_12, ← zi_ni_24, ← zi_ni_25, ← zi_ni_40, ← zi_ni_45, ← zi_ni_47, ← zi_ni_48, ← zi_ni_95, ← zi_ni_96, ← zi_ni_97, ← zi_ni_100, ← zi_ni_144, ← zi_ni_288, nI_ltI, nI_leI, nI_eqI, nlt_T, nlt_F, nle_T, nle_F, neq_T, neq_F, nI_add, pk_mul, nI_clamp, q_inT, ng_lt, ng_tl, ng_le, ng_el, ng_eq, ng_qe, q_b0, q_b1, nar_0, nar_1, b01, b01', q_bn0, q_bn1, nar_n0, nar_n1, si_k, si_i, si_s, si_e, si_2, sl_1, sl_22, sl_k, sl_i, sl_s, sl_e, sp_1, sp_21, sp_22, sc_k, sc_i, sc_e, sc_2, mF_k, mF_2, mF_0]
  refine ev_bd.mpr (ev_bref (by decide) m1 ?_)
  simp (disch := first | omega | decide) only [Nat.reduceAdd, Nat.reduceMul, ↓ev_ck, ↓ev_if, ↓ev_lt, ↓ev_jn, ↓ev_so, ↓reduceIte, ↓ev_within, ↓ev_isBoard, ↓ev_isNumber, ↓ev_foundN, ↓ev_found_1, ↓ev_found_2, ↓ev_found_3, ↓ev_found_4, ↓ev_found_5, true_and, and_true, and_self, eq_self, not_true_eq_false, not_false_eq_true, ite_true, ite_false, true_or, or_true, false_or, or_false, false_and, and_false, ← zi_ni_0, ← zi_ni_1, ← zi_ni_2, ← zi_ni_3, ← zi_ni_4, ← zi_ni_5, ← zi_ni_6, ← zi_ni_7, ← zi_ni_8, ← zi_ni_9, ← zi_ni_10, ← zi_ni_12, ← zi_ni_24, ← zi_ni_25, ← zi_ni_40, ← zi_ni_45, ← zi_ni_47, ← zi_ni_48, ← zi_ni_95, ← zi_ni_96, ← zi_ni_97, ← zi_ni_100, ← zi_ni_144, ← zi_ni_288, nI_ltI, nI_leI, nI_eqI, nlt_T, nlt_F, nle_T, nle_F, neq_T, neq_F, nI_add, pk_mul, nI_clamp, q_inT, ng_lt, ng_tl, ng_le, ng_el, ng_eq, ng_qe, q_b0, q_b1, nar_0, nar_1, b01, b01', q_bn0, q_bn1, nar_n0, nar_n1, si_k, si_i, si_s, si_e, si_2, sl_1, sl_22, sl_k, sl_i, sl_s, sl_e, sp_1, sp_21, sp_22, sc_k, sc_i, sc_e, sc_2, mF_k, mF_2, mF_0]
  refine ev_bd.mpr ?_
  simp (disch := first | omega | decide) only [Nat.reduceAdd, Nat.reduceMul, ↓ev_ck, ↓ev_if, ↓ev_lt, ↓ev_jn, ↓ev_so, ↓reduceIte, ↓ev_within, ↓ev_isBoard, ↓ev_isNumber, ↓ev_foundN, ↓ev_found_1, ↓ev_found_2, ↓ev_found_3, ↓ev_found_4, ↓ev_found_5, true_and, and_true, and_self, eq_self, not_true_eq_false, not_false_eq_true, ite_true, ite_false, true_or, or_true, false_or, or_false, false_and, and_false, ← zi_ni_0, ← zi_ni_1, ← zi_ni_2, ← zi_ni_3, ← zi_ni_4, ← zi_ni_5, ← zi_ni_6, ← zi_ni_7, ← zi_ni_8, ← zi_ni_9, ← zi_ni_10, ← zi_ni_12, ← zi_ni_24, ← zi_ni_25, ← zi_ni_40, ← zi_ni_45, ← zi_ni_47, ← zi_ni_48, ← zi_ni_95, ← zi_ni_96, ← zi_ni_97, ← zi_ni_100, ← zi_ni_144, ← zi_ni_288, nI_ltI, nI_leI, nI_eqI, nlt_T, nlt_F, nle_T, nle_F, neq_T, neq_F, nI_add, pk_mul, nI_clamp, q_inT, ng_lt, ng_tl, ng_le, ng_el, ng_eq, ng_qe, q_b0, q_b1, nar_0, nar_1, b01, b01', q_bn0, q_bn1, nar_n0, nar_n1, si_k, si_i, si_s, si_e, si_2, sl_1, sl_22, sl_k, sl_i, sl_s, sl_e, sp_1, sp_21, sp_22, sc_k, sc_i, sc_e, sc_2, mF_k, mF_2, mF_0, ↓eu_X0_isOf, m2]
  refine ev_bd.mpr (eu_X0_allRests.mpr ?_)
  have key : ∀ (f : Nat) (e : Int32 → qM → Option (Int32 × qM)) (P' : Int32 → qM → Prop), Ev (e (nI 0) μ) P' → Ev (L_X0_allRests_4 2 (f + 1 + 1) (nI 0) (nI 0) μ e) P' := by
    intro f e P' K'
    refine eu_L_X0_allRests_4.mpr (ev_bd.mpr (eu_X0_cells.mpr (ev_so.mpr (ev_if.mpr ?_))))
    rw [m3, m4, if_neg (by decide +kernel)]
    refine ev_ck.mpr ⟨by decide +kernel, ev_lt.mpr (ev_lt.mpr ?_)⟩
    rw [nI_clamp (by decide), er]
    refine eu_L_X0_allRests_4.mpr (ev_bd.mpr (eu_X0_cells.mpr (ev_so.mpr (ev_if.mpr ?_))))
    rw [m3, m4, if_pos (by decide +kernel)]
    have z : (nI 0 : Int32) + nI 0 = nI 0 := by decide +kernel
    rw [z]
    exact K'
  refine key 3998 _ _ (ev_so.mpr ?_)
  simp (disch := first | omega | decide) only [Nat.reduceAdd, Nat.reduceMul, ↓ev_bd, ↓ev_ck, ↓ev_if, ↓ev_lt, ↓ev_jn, ↓ev_so, ↓reduceIte, ↓ev_within, ↓ev_isBoard, ↓ev_isNumber, ↓ev_foundN, ↓ev_found_1, ↓ev_found_2, ↓ev_found_3, ↓ev_found_4, ↓ev_found_5, true_and, and_true, and_self, eq_self, not_true_eq_false, not_false_eq_true, ite_true, ite_false, true_or, or_true, false_or, or_false, false_and, and_false, ← zi_ni_0, ← zi_ni_1, ← zi_ni_2, ← zi_ni_3, ← zi_ni_4, ← zi_ni_5, ← zi_ni_6, ← zi_ni_7, ← zi_ni_8, ← zi_ni_9, ← zi_ni_10, ← zi_ni_12, ← zi_ni_24, ← zi_ni_25, ← zi_ni_40, ← zi_ni_45, ← zi_ni_47, ← zi_ni_48, ← zi_ni_95, ← zi_ni_96, ← zi_ni_97, ← zi_ni_100, ← zi_ni_144, ← zi_ni_288, nI_ltI, nI_leI, nI_eqI, nlt_T, nlt_F, nle_T, nle_F, neq_T, neq_F, nI_add, pk_mul, nI_clamp, q_inT, ng_lt, ng_tl, ng_le, ng_el, ng_eq, ng_qe, q_b0, q_b1, nar_0, nar_1, b01, b01', q_bn0, q_bn1, nar_n0, nar_n1, si_k, si_i, si_s, si_e, si_2, sl_1, sl_22, sl_k, sl_i, sl_s, sl_e, sp_1, sp_21, sp_22, sc_k, sc_i, sc_e, sc_2, mF_k, mF_2, mF_0]
  exact K _ h.ask si_e
theorem ev_nest {W H X Y : Nat} {P : Int32 → qM → Prop} (h : St μ sz rw th V L mk rs) (ht : th 0 = true) (hn : NN th V) (hd : DW (V 0) W H) (hX : X < W) (hY : Y < H)
    (K : ∀ u' L' mk' rs', St u' sz rw (tput th 2) (vset V 2 (layF 1 W X Y (V 0) (rstB (nI 2) (nI 2) (nI 2) (V 2)) 1)) L' mk' rs' → L' 2 2 = nI 0 → L' 2 3 = nI X → L' 2 4 = nI Y → mk' 2 0 = V 0 2 (Y * W + X) → rs' 2 0 = nI 0 → P (nI 4) u') : Ev (f_X10_nest (nI 2) (nI 0) (nI X) (nI Y) (nI 1) (nI 1) μ) P := by
  obtain ⟨d1, d2, d3, d4, d5, d6, d7, d8, d9, d10⟩ := id hd
  have h10 := h.there (b := 0) (by decide) ht
  obtain ⟨h12, h13⟩ := h.num (by decide) hd
  have c1 : (nI W - nI 1 < nI X) = False := by
    rw [subx1 d4 (by decide) (by omega)]
    exact eq_false (by omega)
  have c2 : (nI Y ≤ nI H - nI 1) = True := by
    rw [subx2 (by omega) (by decide) (by omega)]
    exact eq_true (by omega)
  simp (disch := first | omega | decide) only [Nat.reduceAdd, Nat.reduceMul, ↓ev_ck, ↓ev_if, ↓ev_lt, ↓ev_jn, ↓ev_so, ↓reduceIte, ↓ev_within, ↓ev_isBoard, ↓ev_isNumber, ↓ev_foundN, ↓ev_found_1, ↓ev_found_2, ↓ev_found_3, ↓ev_found_4, ↓ev_found_5, true_and, and_true, and_self, eq_self, not_true_eq_false, not_false_eq_true, ite_true, ite_false, true_or, or_true, false_or, or_false, false_and, and_false, ← zi_ni_0, ← zi_ni_1, ← zi_ni_2, ← zi_ni_3, ← zi_ni_4, ← zi_ni_5, ← zi_ni_6, ← zi_ni_7, ← zi_ni_8, ← zi_ni_9, ← zi_ni_10, ← zi_ni_12, ← zi_ni_24, ← zi_ni_25, ← zi_ni_40, ← zi_ni_45, ← zi_ni_47, ← zi_ni_48, ← zi_ni_95, ← zi_ni_96, ← zi_ni_97, ← zi_ni_100, ← zi_ni_144, ← zi_ni_288, nI_ltI, nI_leI, nI_eqI, nlt_T, nlt_F, nle_T, nle_F, neq_T, neq_F, nI_add, pk_mul, nI_clamp, q_inT, ng_lt, ng_tl, ng_le, ng_el, ng_eq, ng_qe, q_b0, q_b1, nar_0, nar_1, b01, b01', q_bn0, q_bn1, nar_n0, nar_n1, si_k, si_i, si_s, si_e, si_2, sl_1, sl_22, sl_k, sl_i, sl_s, sl_e, sp_1, sp_21, sp_22, sc_k, sc_i, sc_e, sc_2, mF_k, mF_2, mF_0, ↓eu_X10_nest]
  refine ev_bd.mpr (ev_isBoard.mpr ?_)
  simp (disch := first | omega | decide) only [Nat.reduceAdd, Nat.reduceMul, ↓ev_ck, ↓ev_if, ↓ev_lt, ↓ev_jn, ↓ev_so, ↓reduceIte, ↓ev_within, ↓ev_isBoard, ↓ev_isNumber, ↓ev_foundN, ↓ev_found_1, ↓ev_found_2, ↓ev_found_3, ↓ev_found_4, ↓ev_found_5, true_and, and_true, and_self, eq_self, not_true_eq_false, not_false_eq_true, ite_true, ite_false, true_or, or_true, false_or, or_false, false_and, and_false, ← zi_ni_0, ← zi_ni_1, ← zi_ni_2, ← zi_ni_3, ← zi_ni_4, ← zi_ni_5, ← zi_ni_6, ← zi_ni_7, ← zi_ni_8, ← zi_ni_9, ← zi_ni_10, ← zi_ni_12, ← zi_ni_24, ← zi_ni_25, ← zi_ni_40, ← zi_ni_45, ← zi_ni_47, ← zi_ni_48, ← zi_ni_95, ← zi_ni_96, ← zi_ni_97, ← zi_ni_100, ← zi_ni_144, ← zi_ni_288, nI_ltI, nI_leI, nI_eqI, nlt_T, nlt_F, nle_T, nle_F, neq_T, neq_F, nI_add, pk_mul, nI_clamp, q_inT, ng_lt, ng_tl, ng_le, ng_el, ng_eq, ng_qe, q_b0, q_b1, nar_0, nar_1, b01, b01', q_bn0, q_bn1, nar_n0, nar_n1, si_k, si_i, si_s, si_e, si_2, sl_1, sl_22, sl_k, sl_i, sl_s, sl_e, sp_1, sp_21, sp_22, sc_k, sc_i, sc_e, sc_2, mF_k, mF_2, mF_0]
  refine ev_bd.mpr (ev_within.mpr ?_)
  simp (disch := first | omega | decide) only [Nat.reduceAdd, Nat.reduceMul, ↓ev_ck, ↓ev_if, ↓ev_lt, ↓ev_jn, ↓ev_so, ↓reduceIte, ↓ev_within, ↓ev_isBoard, ↓ev_isNumber, ↓ev_foundN, ↓ev_found_1, ↓ev_found_2, ↓ev_found_3, ↓ev_found_4, ↓ev_found_5, true_and, and_true, and_self, eq_self, not_true_eq_false, not_false_eq_true, ite_true, ite_false, true_or, or_true, false_or, or_false, false_and, and_false, ← zi_ni_0, ← zi_ni_1, ← zi_ni_2, ← zi_ni_3, ← zi_ni_4, ← zi_ni_5, ← zi_ni_6, ← zi_ni_7, ← zi_ni_8, ← zi_ni_9, ← zi_ni_10, ← zi_ni_12, ← zi_ni_24, ← zi_ni_25, ← zi_ni_40, ← zi_ni_45, ← zi_ni_47, ← zi_ni_48, ← zi_ni_95, ← zi_ni_96, ← zi_ni_97, ← zi_ni_100, ← zi_ni_144, ← zi_ni_288, nI_ltI, nI_leI, nI_eqI, nlt_T, nlt_F, nle_T, nle_F, neq_T, neq_F, nI_add, pk_mul, nI_clamp, q_inT, ng_lt, ng_tl, ng_le, ng_el, ng_eq, ng_qe, q_b0, q_b1, nar_0, nar_1, b01, b01', q_bn0, q_bn1, nar_n0, nar_n1, si_k, si_i, si_s, si_e, si_2, sl_1, sl_22, sl_k, sl_i, sl_s, sl_e, sp_1, sp_21, sp_22, sc_k, sc_i, sc_e, sc_2, mF_k, mF_2, mF_0]
  refine ev_bd.mpr (ev_within.mpr ?_)
  simp (disch := first | omega | decide) only [Nat.reduceAdd, Nat.reduceMul, ↓ev_ck, ↓ev_if, ↓ev_lt, ↓ev_jn, ↓ev_so, ↓reduceIte, ↓ev_within, ↓ev_isBoard, ↓ev_isNumber, ↓ev_foundN, ↓ev_found_1, ↓ev_found_2, ↓ev_found_3, ↓ev_found_4, ↓ev_found_5, true_and, and_true, and_self, eq_self, not_true_eq_false, not_false_eq_true, ite_true, ite_false, true_or, or_true, false_or, or_false, false_and, and_false, ← zi_ni_0, ← zi_ni_1, ← zi_ni_2, ← zi_ni_3, ← zi_ni_4, ← zi_ni_5, ← zi_ni_6, ← zi_ni_7, ← zi_ni_8, ← zi_ni_9, ← zi_ni_10, ← zi_ni_12, ← zi_ni_24, ← zi_ni_25, ← zi_ni_40, ← zi_ni_45, ← zi_ni_47, ← zi_ni_48, ← zi_ni_95, ← zi_ni_96, ← zi_ni_97, ← zi_ni_100, ← zi_ni_144, ← zi_ni_288, nI_ltI, nI_leI, nI_eqI, nlt_T, nlt_F, nle_T, nle_F, neq_T, neq_F, nI_add, pk_mul, nI_clamp, q_inT, ng_lt, ng_tl, ng_le, ng_el, ng_eq, ng_qe, q_b0, q_b1, nar_0, nar_1, b01, b01', q_bn0, q_bn1, nar_n0, nar_n1, si_k, si_i, si_s, si_e, si_2, sl_1, sl_22, sl_k, sl_i, sl_s, sl_e, sp_1, sp_21, sp_22, sc_k, sc_i, sc_e, sc_2, mF_k, mF_2, mF_0]
  refine ev_bd.mpr (ev_bref (by decide) h10 ?_)
  simp (disch := first | omega | decide) only [Nat.reduceAdd, Nat.reduceMul, ↓ev_ck, ↓ev_if, ↓ev_lt, ↓ev_jn, ↓ev_so, ↓reduceIte, ↓ev_within, ↓ev_isBoard, ↓ev_isNumber, ↓ev_foundN, ↓ev_found_1, ↓ev_found_2, ↓ev_found_3, ↓ev_found_4, ↓ev_found_5, true_and, and_true, and_self, eq_self, not_true_eq_false, not_false_eq_true, ite_true, ite_false, true_or, or_true, false_or, or_false, false_and, and_false, ← zi_ni_0, ← zi_ni_1, ← zi_ni_2, ← zi_ni_3, ← zi_ni_4, ← zi_ni_5, ← zi_ni_6, ← zi_ni_7, ← zi_ni_8, ← zi_ni_9, ← zi_ni_10, ← zi_ni_12, ← zi_ni_24, ← zi_ni_25, ← zi_ni_40, ← zi_ni_45, ← zi_ni_47, ← zi_ni_48, ← zi_ni_95, ← zi_ni_96, ← zi_ni_97, ← zi_ni_100, ← zi_ni_144, ← zi_ni_288, nI_ltI, nI_leI, nI_eqI, nlt_T, nlt_F, nle_T, nle_F, neq_T, neq_F, nI_add, pk_mul, nI_clamp, q_inT, ng_lt, ng_tl, ng_le, ng_el, ng_eq, ng_qe, q_b0, q_b1, nar_0, nar_1, b01, b01', q_bn0, q_bn1, nar_n0, nar_n1, si_k, si_i, si_s, si_e, si_2, sl_1, sl_22, sl_k, sl_i, sl_s, sl_e, sp_1, sp_21, sp_22, sc_k, sc_i, sc_e, sc_2, mF_k, mF_2, mF_0, h12, h13, c1, c2]
  refine ev_bd.mpr (ev_liesIn (by decide) (by decide) ht (h.cf hn) (NF_0 (dep := fun _ => 0)) (fun hl => ?_) (fun _ => ?_))
  · have : lz (fun _ => false) (fun _ => 0) 2 6 0 = false := rfl
    rw [this] at hl
    cases hl
  simp (disch := first | omega | decide) only [Nat.reduceAdd, Nat.reduceMul, ↓ev_ck, ↓ev_if, ↓ev_lt, ↓ev_jn, ↓ev_so, ↓reduceIte, ↓ev_within, ↓ev_isBoard, ↓ev_isNumber, ↓ev_foundN, ↓ev_found_1, ↓ev_found_2, ↓ev_found_3, ↓ev_found_4, ↓ev_found_5, true_and, and_true, and_self, eq_self, not_true_eq_false, not_false_eq_true, ite_true, ite_false, true_or, or_true, false_or, or_false, false_and, and_false, ← zi_ni_0, ← zi_ni_1, ← zi_ni_2, ← zi_ni_3, ← zi_ni_4, ← zi_ni_5, ← zi_ni_6, ← zi_ni_7, ← zi_ni_8, ← zi_ni_9, ← zi_ni_10, ← zi_ni_12, ← zi_ni_24, ← zi_ni_25, ← zi_ni_40, ← zi_ni_45, ← zi_ni_47, ← zi_ni_48, ← zi_ni_95, ← zi_ni_96, ← zi_ni_97, ← zi_ni_100, ← zi_ni_144, ← zi_ni_288, nI_ltI, nI_leI, nI_eqI, nlt_T, nlt_F, nle_T, nle_F, neq_T, neq_F, nI_add, pk_mul, nI_clamp, q_inT, ng_lt, ng_tl, ng_le, ng_el, ng_eq, ng_qe, q_b0, q_b1, nar_0, nar_1, b01, b01', q_bn0, q_bn1, nar_n0, nar_n1, si_k, si_i, si_s, si_e, si_2, sl_1, sl_22, sl_k, sl_i, sl_s, sl_e, sp_1, sp_21, sp_22, sc_k, sc_i, sc_e, sc_2, mF_k, mF_2, mF_0]
  refine ev_bd.mpr (ev_clr h (by decide) hn (fun u1 h1 => ?_))
  simp (disch := first | omega | decide) only [Nat.reduceAdd, Nat.reduceMul, ↓ev_ck, ↓ev_if, ↓ev_lt, ↓ev_jn, ↓ev_so, ↓reduceIte, ↓ev_within, ↓ev_isBoard, ↓ev_isNumber, ↓ev_foundN, ↓ev_found_1, ↓ev_found_2, ↓ev_found_3, ↓ev_found_4, ↓ev_found_5, true_and, and_true, and_self, eq_self, not_true_eq_false, not_false_eq_true, ite_true, ite_false, true_or, or_true, false_or, or_false, false_and, and_false, ← zi_ni_0, ← zi_ni_1, ← zi_ni_2, ← zi_ni_3, ← zi_ni_4, ← zi_ni_5, ← zi_ni_6, ← zi_ni_7, ← zi_ni_8, ← zi_ni_9, ← zi_ni_10, ← zi_ni_12, ← zi_ni_24, ← zi_ni_25, ← zi_ni_40, ← zi_ni_45, ← zi_ni_47, ← zi_ni_48, ← zi_ni_95, ← zi_ni_96, ← zi_ni_97, ← zi_ni_100, ← zi_ni_144, ← zi_ni_288, nI_ltI, nI_leI, nI_eqI, nlt_T, nlt_F, nle_T, nle_F, neq_T, neq_F, nI_add, pk_mul, nI_clamp, q_inT, ng_lt, ng_tl, ng_le, ng_el, ng_eq, ng_qe, q_b0, q_b1, nar_0, nar_1, b01, b01', q_bn0, q_bn1, nar_n0, nar_n1, si_k, si_i, si_s, si_e, si_2, sl_1, sl_22, sl_k, sl_i, sl_s, sl_e, sp_1, sp_21, sp_22, sc_k, sc_i, sc_e, sc_2, mF_k, mF_2, mF_0]
  refine ev_bd.mpr (ev_reset (fun u2 r1 r2 r3 r4 => ?_))
  rw [h1.tab (by decide)] at r4
  have h2 := h1.new (b := 2) (by decide) (μ' := u2) (fun k i s q => r1 k i s (by omega)) r3 r4
  rw [tput_tdel] at h2
  simp (disch := first | omega | decide) only [Nat.reduceAdd, Nat.reduceMul, ↓ev_ck, ↓ev_if, ↓ev_lt, ↓ev_jn, ↓ev_so, ↓reduceIte, ↓ev_within, ↓ev_isBoard, ↓ev_isNumber, ↓ev_foundN, ↓ev_found_1, ↓ev_found_2, ↓ev_found_3, ↓ev_found_4, ↓ev_found_5, true_and, and_true, and_self, eq_self, not_true_eq_false, not_false_eq_true, ite_true, ite_false, true_or, or_true, false_or, or_false, false_and, and_false, ← zi_ni_0, ← zi_ni_1, ← zi_ni_2, ← zi_ni_3, ← zi_ni_4, ← zi_ni_5, ← zi_ni_6, ← zi_ni_7, ← zi_ni_8, ← zi_ni_9, ← zi_ni_10, ← zi_ni_12, ← zi_ni_24, ← zi_ni_25, ← zi_ni_40, ← zi_ni_45, ← zi_ni_47, ← zi_ni_48, ← zi_ni_95, ← zi_ni_96, ← zi_ni_97, ← zi_ni_100, ← zi_ni_144, ← zi_ni_288, nI_ltI, nI_leI, nI_eqI, nlt_T, nlt_F, nle_T, nle_F, neq_T, neq_F, nI_add, pk_mul, nI_clamp, q_inT, ng_lt, ng_tl, ng_le, ng_el, ng_eq, ng_qe, q_b0, q_b1, nar_0, nar_1, b01, b01', q_bn0, q_bn1, nar_n0, nar_n1, si_k, si_i, si_s, si_e, si_2, sl_1, sl_22, sl_k, sl_i, sl_s, sl_e, sp_1, sp_21, sp_22, sc_k, sc_i, sc_e, sc_2, mF_k, mF_2, mF_0]
  generalize hu3 : q_si (q_si (q_si u2 5 2 2 (nI 0)) 5 2 3 (nI X)) 5 2 4 (nI Y) = u3
  have k3 : ∀ k, k ≠ 5 → u3.1 k = u2.1 k := fun k q => by rw [← hu3, si_k q, si_k q, si_k q]
  have h3 : St u3 sz rw (tput th 2) (vset V 2 (rstB (nI 2) (nI 2) (nI 2) (V 2))) (u3.1 5) mk rs := by
    obtain ⟨a1, a2, a3, a4, a5, a6, a7, a8, a9⟩ := h2
    refine ⟨fun k hk => ?_, fun g hg => ?_, ?_, ?_, fun x hx => ?_, fun x hx => ?_, rfl, ?_, ?_⟩
    · rw [k3 8 (by decide)]; exact a1 k hk
    · rw [k3 9 (by decide)]; exact a2 g hg
    · rw [k3 33 (by decide)]; exact a3
    · rw [k3 30 (by decide)]; exact a4
    · rw [k3 2 (by decide)]; exact a5 x hx
    · rw [← a6 x hx]
      exact cB_ext (by rw [k3 2 (by decide)]) (by rw [k3 3 (by decide)]) (by rw [k3 4 (by decide)]) (by rw [k3 37 (by decide)]) (by rw [k3 38 (by decide)]) (by rw [k3 39 (by decide)]) (by rw [k3 40 (by decide)]) (by rw [k3 41 (by decide)]) (by rw [k3 42 (by decide)]) (by rw [k3 43 (by decide)]) (by rw [k3 44 (by decide)])
    · rw [k3 45 (by decide)]; exact a8
    · rw [k3 46 (by decide)]; exact a9
  have q2 : u3.1 5 2 2 = nI 0 := by rw [← hu3, si_s (by decide), si_s (by decide), si_e]
  have q3 : u3.1 5 2 3 = nI X := by rw [← hu3, si_s (by decide), si_e]
  have q4 : u3.1 5 2 4 = nI Y := by rw [← hu3, si_e]
  have e2 := h3.tab (b := 2) (by decide)
  have e0 := h3.tab (b := 0) (by decide)
  rw [vs_e] at e2
  rw [vs_n (by decide)] at e0
  have u12 : u3.1 2 2 12 = nI (2 * 1) := by
    have : u3.1 2 2 12 = cB u3 2 0 1 := rfl
    rw [this, e2]
    rfl
  have u13 : u3.1 2 2 13 = nI (2 * 1) := by
    have : u3.1 2 2 13 = cB u3 2 0 2 := rfl
    rw [this, e2]
    rfl
  have w12 : u3.1 2 0 12 = nI W := by
    have : u3.1 2 0 12 = cB u3 0 0 1 := rfl
    rw [this, e0]
    exact d1
  refine ev_bd.mpr (ev_lay (b := 2) (d := 0) (wd := 1) (hg := 1) (x := X) (y := Y) (W := W) (H := H) (by decide) (by decide) (by decide) (by decide) (by omega) (by omega) d10 u12 u13 w12 q3 q4 e2 e0 (fun u4 s1 s2 s3 s4 => ?_))
  have k4 : ∀ k, k ≠ 37 → k ≠ 38 → k ≠ 45 → k ≠ 46 → u4.1 k = u3.1 k := fun k z1 z2 z3 z4 => funext (fun i => funext (fun s => s1 k i s (by omega)))
  have h4 : St u4 sz rw (tput th 2) (vset V 2 (layF 1 W X Y (V 0) (rstB (nI 2) (nI 2) (nI 2) (V 2)) 1)) (u3.1 5) (u4.1 45) (u4.1 46) := by
    obtain ⟨a1, a2, a3, a4, a5, a6, a7, a8, a9⟩ := h3
    refine ⟨fun k hk => ?_, fun g hg => ?_, ?_, ?_, fun x hx => ?_, fun x hx => ?_, ?_, rfl, rfl⟩
    · rw [k4 8 (by decide) (by decide) (by decide) (by decide)]; exact a1 k hk
    · rw [k4 9 (by decide) (by decide) (by decide) (by decide)]; exact a2 g hg
    · rw [k4 33 (by decide) (by decide) (by decide) (by decide)]; exact a3
    · rw [k4 30 (by decide) (by decide) (by decide) (by decide)]; exact a4
    · rw [k4 2 (by decide) (by decide) (by decide) (by decide)]; exact a5 x hx
    · by_cases z : x = 2
      · subst z
        rw [vs_e]
        exact s3
      · have a := a6 x hx
        rw [vs_n z] at a
        rw [vs_n z, ← a]
        have y : ∀ k, u4.1 k x = u3.1 k x := fun k => funext (fun s => s1 k x s (fun q => z q.1))
        exact cB_ext (y 2) (y 3) (y 4) (y 37) (y 38) (y 39) (y 40) (y 41) (y 42) (y 43) (y 44)
    · exact k4 5 (by decide) (by decide) (by decide) (by decide)
  have f12 : u4.1 2 2 12 = nI 2 := by rw [k4 2 (by decide) (by decide) (by decide) (by decide)]; exact u12
  have f13 : u4.1 2 2 13 = nI 2 := by rw [k4 2 (by decide) (by decide) (by decide) (by decide)]; exact u13
  simp (disch := first | omega | decide) only [Nat.reduceAdd, Nat.reduceMul, ↓ev_bd, ↓ev_ck, ↓ev_if, ↓ev_lt, ↓ev_jn, ↓ev_so, ↓reduceIte, ↓ev_within, ↓ev_isBoard, ↓ev_isNumber, ↓ev_foundN, ↓ev_found_1, ↓ev_found_2, ↓ev_found_3, ↓ev_found_4, ↓ev_found_5, true_and, and_true, and_self, eq_self, not_true_eq_false, not_false_eq_true, ite_true, ite_false, true_or, or_true, false_or, or_false, false_and, and_false, ← zi_ni_0, ← zi_ni_1, ← zi_ni_2, ← zi_ni_3, ← zi_ni_4, ← zi_ni_5, ← zi_ni_6, ← zi_ni_7, ← zi_ni_8, ← zi_ni_9, ← zi_ni_10, ← zi_ni_12, ← zi_ni_24, ← zi_ni_25, ← zi_ni_40, ← zi_ni_45, ← zi_ni_47, ← zi_ni_48, ← zi_ni_95, ← zi_ni_96, ← zi_ni_97, ← zi_ni_100, ← zi_ni_144, ← zi_ni_288, nI_ltI, nI_leI, nI_eqI, nlt_T, nlt_F, nle_T, nle_F, neq_T, neq_F, nI_add, pk_mul, nI_clamp, q_inT, ng_lt, ng_tl, ng_le, ng_el, ng_eq, ng_qe, q_b0, q_b1, nar_0, nar_1, b01, b01', q_bn0, q_bn1, nar_n0, nar_n1, si_k, si_i, si_s, si_e, si_2, sl_1, sl_22, sl_k, sl_i, sl_s, sl_e, sp_1, sp_21, sp_22, sc_k, sc_i, sc_e, sc_2, mF_k, mF_2, mF_0, ↓eu_X0_cells, f12, f13]
  have s5 := s4 0 (by decide)
  rw [und1] at s5
  exact K _ _ _ _ h4 q2 q3 q4 s5.1 s5.2
end CALLS5
