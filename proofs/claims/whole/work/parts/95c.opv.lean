/-! The reference's step up to its boats. -/
def nxtA (t : Option Int32) (v : qB) : qB := match t with
  | none => st0 v
  | some x => rimF x (st0 v) (nH v)
theorem nxt_A {t : Option Int32} {v : qB} : nxt t v = bset (nxtA t v) 0 3 (v 0 3 + nI 1) := by
  cases t <;> rfl
/-- the cells of the reference that a step changes ahead of its boats -/
def MA (j : Nat) (u u' : qM) : Prop := (∀ k i s, k < 101 ∨ 104 < k → ¬ (i = 0 ∧ ((k = 82 ∧ s = j) ∨ (k = 83 ∧ s = j) ∨ (k = 92 ∧ 48 * j ≤ s ∧ s < 48 * j + 48) ∨ (k = 93 ∧ 144 * j ≤ s ∧ s < 144 * j + 144) ∨ (k = 94 ∧ 96 * j ≤ s ∧ s < 96 * j + 96))) → u'.1 k i s = u.1 k i s) ∧ u'.2 = u.2
theorem ev_stepA {j n : Nat} {u : qM} {P : Int32 → qM → Prop} (hj : j < 8) (hn : n ≤ 2000000) (hw : WF n (mB u j)) (hs : SZ (u.1 66 0)) (K0 : tmF (mB u j) = true → ∀ u', MA j u u' → mB u' j = mB u j → P 0 u') (K1 : tmF (mB u j) = false → ∀ u', MA j u u' → mB u' j = nxtA (tdM u (mB u j)) (mB u j) → Ev (L_X11_stepOnce_241 (nI j) q_fu 0 u' (fun u27 => q_ck (q_in (nI j) 8) (q_ck (q_in (nI j) 8) (q_lt (q_si u27 81 0 (Int32.toNatClampNeg (nI j)) ((u27.1 81 0 (Int32.toNatClampNeg (nI j))) + 1)) (fun (u28 : qM) => L_X11_stepOnce_298 (nI j) q_fu 0 u28 (fun u33 => some (1, u33))))))) P) : Ev (f_X11_stepOnce (nI j) u) P := by
  obtain ⟨w, h, hd⟩ := hw.gd.dw
  have hd' := hd
  obtain ⟨d1, d2, d3, d4, d5, d6, d7, d8, d9, d10⟩ := hd'
  have hg : SG (mB u j) w h := by
    obtain ⟨⟨k, wd, hg, st, p, d, rc, pc, a0, a1, a2, a3, a4, a5, a6, a7, a8, a9, b0, b1, b2, b3, b4, b5, b6, b7, b8, b9, c0, c1, c2⟩, -⟩ := hw
    exact ⟨hd, d, b3, b4, b5⟩
  have hr : ∃ rc, SQ (mB u j) u j rc := by
    obtain ⟨⟨k, wd, hg, st, p, d, rc, pc, a0, a1, a2, a3, a4, a5, a6, a7, a8, a9, b0, b1, b2, b3, b4, b5, b6, b7, b8, b9, c0, c1, c2⟩, -, w2⟩ := hw
    have e : rcN (mB u j) = rc := by
      unfold rcN
      rw [b6, nI_clamp (by omega)]
    refine ⟨rc, b7, b6, e, fun k hk => ⟨(mR_7 (by omega)).symm, (mR_8 (by omega)).symm, w2.1 k ?_⟩⟩
    have e' : (mB u j 0 12).toNatClampNeg = rc := e
    rw [e']
    exact hk
  obtain ⟨rc, hr⟩ := hr
  have hw2 : ∀ c, 0 ≤ (mB u j 2 c).toInt := fun c => (hw.2.1.2.1 c).1
  have hrc := hr.2.2.1
  have hsn : SM (mB u j) u j := SM.mk
  generalize hv : mB u j = v at *
  have x2 : u.1 75 0 j = nI w := hsn.2.1.trans d1
  have x3 : u.1 76 0 j = nI h := hsn.2.2.1.trans d2
  simp (disch := first | omega | decide) only [Nat.reduceAdd, Nat.reduceMul, ↓ev_ck, ↓ev_if, ↓ev_lt, ↓ev_jn, ↓ev_so, ↓reduceIte, ↓ev_within, ↓ev_in, ↓ev_isBoard, ↓ev_isGauge, ↓ev_isNumber, ↓ev_isSix, ↓ev_isEight, ↓ev_foundN, ↓ev_meetsN, ↓ev_found_1, ↓ev_meets_1, ↓ev_found_2, ↓ev_meets_2, ↓ev_found_3, ↓ev_meets_3, ↓ev_found_4, ↓ev_meets_4, ↓ev_found_5, ↓ev_meets_5, true_and, and_true, and_self, eq_self, not_true_eq_false, not_false_eq_true, ite_true, ite_false, true_or, or_true, false_or, or_false, false_and, and_false, ← zi_ni_0, ← zi_ni_1, ← zi_ni_2, ← zi_ni_3, ← zi_ni_4, ← zi_ni_5, ← zi_ni_6, ← zi_ni_7, ← zi_ni_8, ← zi_ni_9, ← zi_ni_10, ← zi_ni_12, ← zi_ni_24, ← zi_ni_25, ← zi_ni_40, ← zi_ni_45, ← zi_ni_47, ← zi_ni_48, ← zi_ni_95, ← zi_ni_96, ← zi_ni_97, ← zi_ni_100, ← zi_ni_144, ← zi_ni_288, nI_ltI, nI_leI, nI_eqI, nlt_T, nlt_F, nle_T, nle_F, neq_T, neq_F, nI_add, pk_mul, nI_clamp, q_inT, ng_lt, ng_tl, ng_le, ng_el, ng_eq, ng_qe, q_b0, q_b1, nar_0, nar_1, b01, b01', q_bn0, q_bn1, nar_n0, nar_n1, si_k, si_i, si_s, si_e, si_2, sl_1, sl_22, sl_k, sl_i, sl_s, sl_e, sp_1, sp_21, sp_22, sc_k, sc_i, sc_e, sc_2, mF_k, mM_k, mF_2, mM_2, mF_0, mM_11, ↓eu_X11_stepOnce, ↓eu_X11_pushAll, ↓eu_X11_carryAll]
  refine ev_bd.mpr ?_
  simp (disch := first | omega | decide) only [Nat.reduceAdd, Nat.reduceMul, ↓ev_ck, ↓ev_if, ↓ev_lt, ↓ev_jn, ↓ev_so, ↓reduceIte, ↓ev_within, ↓ev_in, ↓ev_isBoard, ↓ev_isGauge, ↓ev_isNumber, ↓ev_isSix, ↓ev_isEight, ↓ev_foundN, ↓ev_meetsN, ↓ev_found_1, ↓ev_meets_1, ↓ev_found_2, ↓ev_meets_2, ↓ev_found_3, ↓ev_meets_3, ↓ev_found_4, ↓ev_meets_4, ↓ev_found_5, ↓ev_meets_5, true_and, and_true, and_self, eq_self, not_true_eq_false, not_false_eq_true, ite_true, ite_false, true_or, or_true, false_or, or_false, false_and, and_false, ← zi_ni_0, ← zi_ni_1, ← zi_ni_2, ← zi_ni_3, ← zi_ni_4, ← zi_ni_5, ← zi_ni_6, ← zi_ni_7, ← zi_ni_8, ← zi_ni_9, ← zi_ni_10, ← zi_ni_12, ← zi_ni_24, ← zi_ni_25, ← zi_ni_40, ← zi_ni_45, ← zi_ni_47, ← zi_ni_48, ← zi_ni_95, ← zi_ni_96, ← zi_ni_97, ← zi_ni_100, ← zi_ni_144, ← zi_ni_288, nI_ltI, nI_leI, nI_eqI, nlt_T, nlt_F, nle_T, nle_F, neq_T, neq_F, nI_add, pk_mul, nI_clamp, q_inT, ng_lt, ng_tl, ng_le, ng_el, ng_eq, ng_qe, q_b0, q_b1, nar_0, nar_1, b01, b01', q_bn0, q_bn1, nar_n0, nar_n1, si_k, si_i, si_s, si_e, si_2, sl_1, sl_22, sl_k, sl_i, sl_s, sl_e, sp_1, sp_21, sp_22, sc_k, sc_i, sc_e, sc_2, mF_k, mM_k, mF_2, mM_2, mF_0, mM_11, ↓eu_X11_stepOnce, ↓eu_X11_pushAll, ↓eu_X11_carryAll]
  refine lp_mp1 (fun u2 h2 => ?_)
  obtain ⟨q1, q2, q3⟩ := h2
  have Q1 : ∀ k, k ≠ 102 → u2.1 k = u.1 k := fun k z => funext (fun i => funext (fun s => q1 k i s (fun y => z y.1)))
  have s2 : SM v u2 j := hsn.k (fun k z => Q1 k (by omega))
  refine lp_mp2 hj hg s2 q3 (fun u3 h3 => ?_)
  obtain ⟨r1, r2, r3, r4⟩ := h3
  have s3 : SM v u3 j := s2.k (fun k z => r1 k (by omega) (by omega))
  refine lp_mp3 hj hd hw2 s3 r3 r4 (fun u4 h4 => ?_)
  obtain ⟨t1, t2, t3⟩ := h4
  have s4 : SM v u4 j := s3.k (fun k z => t1 k (by omega))
  try simp (disch := first | omega | decide) only [Nat.reduceAdd, Nat.reduceMul, ↓ev_ck, ↓ev_if, ↓ev_lt, ↓ev_jn, ↓ev_so, ↓reduceIte, ↓ev_within, ↓ev_in, ↓ev_isBoard, ↓ev_isGauge, ↓ev_isNumber, ↓ev_isSix, ↓ev_isEight, ↓ev_foundN, ↓ev_meetsN, ↓ev_found_1, ↓ev_meets_1, ↓ev_found_2, ↓ev_meets_2, ↓ev_found_3, ↓ev_meets_3, ↓ev_found_4, ↓ev_meets_4, ↓ev_found_5, ↓ev_meets_5, true_and, and_true, and_self, eq_self, not_true_eq_false, not_false_eq_true, ite_true, ite_false, true_or, or_true, false_or, or_false, false_and, and_false, ← zi_ni_0, ← zi_ni_1, ← zi_ni_2, ← zi_ni_3, ← zi_ni_4, ← zi_ni_5, ← zi_ni_6, ← zi_ni_7, ← zi_ni_8, ← zi_ni_9, ← zi_ni_10, ← zi_ni_12, ← zi_ni_24, ← zi_ni_25, ← zi_ni_40, ← zi_ni_45, ← zi_ni_47, ← zi_ni_48, ← zi_ni_95, ← zi_ni_96, ← zi_ni_97, ← zi_ni_100, ← zi_ni_144, ← zi_ni_288, nI_ltI, nI_leI, nI_eqI, nlt_T, nlt_F, nle_T, nle_F, neq_T, neq_F, nI_add, pk_mul, nI_clamp, q_inT, ng_lt, ng_tl, ng_le, ng_el, ng_eq, ng_qe, q_b0, q_b1, nar_0, nar_1, b01, b01', q_bn0, q_bn1, nar_n0, nar_n1, si_k, si_i, si_s, si_e, si_2, sl_1, sl_22, sl_k, sl_i, sl_s, sl_e, sp_1, sp_21, sp_22, sc_k, sc_i, sc_e, sc_2, mF_k, mM_k, mF_2, mM_2, mF_0, mM_11, ↓eu_X11_stepOnce, ↓eu_X11_pushAll, ↓eu_X11_carryAll]
  refine ev_bd.mpr ?_
  simp (disch := first | omega | decide) only [Nat.reduceAdd, Nat.reduceMul, ↓ev_ck, ↓ev_if, ↓ev_lt, ↓ev_jn, ↓ev_so, ↓reduceIte, ↓ev_within, ↓ev_in, ↓ev_isBoard, ↓ev_isGauge, ↓ev_isNumber, ↓ev_isSix, ↓ev_isEight, ↓ev_foundN, ↓ev_meetsN, ↓ev_found_1, ↓ev_meets_1, ↓ev_found_2, ↓ev_meets_2, ↓ev_found_3, ↓ev_meets_3, ↓ev_found_4, ↓ev_meets_4, ↓ev_found_5, ↓ev_meets_5, true_and, and_true, and_self, eq_self, not_true_eq_false, not_false_eq_true, ite_true, ite_false, true_or, or_true, false_or, or_false, false_and, and_false, ← zi_ni_0, ← zi_ni_1, ← zi_ni_2, ← zi_ni_3, ← zi_ni_4, ← zi_ni_5, ← zi_ni_6, ← zi_ni_7, ← zi_ni_8, ← zi_ni_9, ← zi_ni_10, ← zi_ni_12, ← zi_ni_24, ← zi_ni_25, ← zi_ni_40, ← zi_ni_45, ← zi_ni_47, ← zi_ni_48, ← zi_ni_95, ← zi_ni_96, ← zi_ni_97, ← zi_ni_100, ← zi_ni_144, ← zi_ni_288, nI_ltI, nI_leI, nI_eqI, nlt_T, nlt_F, nle_T, nle_F, neq_T, neq_F, nI_add, pk_mul, nI_clamp, q_inT, ng_lt, ng_tl, ng_le, ng_el, ng_eq, ng_qe, q_b0, q_b1, nar_0, nar_1, b01, b01', q_bn0, q_bn1, nar_n0, nar_n1, si_k, si_i, si_s, si_e, si_2, sl_1, sl_22, sl_k, sl_i, sl_s, sl_e, sp_1, sp_21, sp_22, sc_k, sc_i, sc_e, sc_2, mF_k, mM_k, mF_2, mM_2, mF_0, mM_11, ↓eu_X11_stepOnce, ↓eu_X11_pushAll, ↓eu_X11_carryAll]
  refine lp_mc0 hj hd s4 (fun u5 h5 => ?_)
  obtain ⟨a1, a2, a3⟩ := h5
  have s5 : SM v u5 j := s4.k (fun k z => a1 k (by omega) (by omega))
  refine lp_mc1' hj hd hw2 s5 (fun s hs => by rw [a1 101 (by decide) (by decide)]; exact t3 s hs) a3 (fun u6 h6 => ?_)
  obtain ⟨b1, b2, b3⟩ := h6
  have e6 : ∀ k, k < 101 ∨ 104 < k → u6.1 k = u.1 k := fun k z => by rw [b1 k (by omega) (by omega), a1 k (by omega) (by omega), t1 k (by omega), r1 k (by omega) (by omega), Q1 k (by omega)]
  try simp (disch := first | omega | decide) only [Nat.reduceAdd, Nat.reduceMul, ↓ev_ck, ↓ev_if, ↓ev_lt, ↓ev_jn, ↓ev_so, ↓reduceIte, ↓ev_within, ↓ev_in, ↓ev_isBoard, ↓ev_isGauge, ↓ev_isNumber, ↓ev_isSix, ↓ev_isEight, ↓ev_foundN, ↓ev_meetsN, ↓ev_found_1, ↓ev_meets_1, ↓ev_found_2, ↓ev_meets_2, ↓ev_found_3, ↓ev_meets_3, ↓ev_found_4, ↓ev_meets_4, ↓ev_found_5, ↓ev_meets_5, true_and, and_true, and_self, eq_self, not_true_eq_false, not_false_eq_true, ite_true, ite_false, true_or, or_true, false_or, or_false, false_and, and_false, ← zi_ni_0, ← zi_ni_1, ← zi_ni_2, ← zi_ni_3, ← zi_ni_4, ← zi_ni_5, ← zi_ni_6, ← zi_ni_7, ← zi_ni_8, ← zi_ni_9, ← zi_ni_10, ← zi_ni_12, ← zi_ni_24, ← zi_ni_25, ← zi_ni_40, ← zi_ni_45, ← zi_ni_47, ← zi_ni_48, ← zi_ni_95, ← zi_ni_96, ← zi_ni_97, ← zi_ni_100, ← zi_ni_144, ← zi_ni_288, nI_ltI, nI_leI, nI_eqI, nlt_T, nlt_F, nle_T, nle_F, neq_T, neq_F, nI_add, pk_mul, nI_clamp, q_inT, ng_lt, ng_tl, ng_le, ng_el, ng_eq, ng_qe, q_b0, q_b1, nar_0, nar_1, b01, b01', q_bn0, q_bn1, nar_n0, nar_n1, si_k, si_i, si_s, si_e, si_2, sl_1, sl_22, sl_k, sl_i, sl_s, sl_e, sp_1, sp_21, sp_22, sc_k, sc_i, sc_e, sc_2, mF_k, mM_k, mF_2, mM_2, mF_0, mM_11, ↓eu_X11_stepOnce, ↓eu_X11_pushAll, ↓eu_X11_carryAll]
  refine lp_mriv hj hd (hr.k e6) (fun c hc => (b3 c hc).1) (fun u7 h7 => ?_)
  obtain ⟨m1, m2, m3⟩ := h7
  have e7 : ∀ k, k < 101 ∨ 104 < k → u7.1 k = u.1 k := fun k z => by rw [m1 k (by omega), e6 k z]
  have l7 : u7.2 = u.2 := by rw [m2, b2, a2, t2, r2, q2]
  have s7 : SM v u7 j := hsn.k e7
  have f7 : ∀ s, s < 2 * (w * h) → u7.1 101 0 s = lfl v s := fun s hs => by rw [m1 101 (by decide), b1 101 (by decide) (by decide), a1 101 (by decide) (by decide)]; exact t3 s hs
  have g7 : ∀ c, c < w * h → u7.1 104 0 c = stuF v 0 (2 * (w * h)) c ∧ u7.1 104 0 (48 + c) = stuF v 1 (2 * (w * h)) c ∧ u7.1 104 0 (96 + c) = stuF v 2 (2 * (w * h)) c := fun c hc => by rw [m1 104 (by decide)]; exact (b3 c hc).2
  try simp (disch := first | omega | decide) only [Nat.reduceAdd, Nat.reduceMul, ↓ev_ck, ↓ev_if, ↓ev_lt, ↓ev_jn, ↓ev_so, ↓reduceIte, ↓ev_within, ↓ev_in, ↓ev_isBoard, ↓ev_isGauge, ↓ev_isNumber, ↓ev_isSix, ↓ev_isEight, ↓ev_foundN, ↓ev_meetsN, ↓ev_found_1, ↓ev_meets_1, ↓ev_found_2, ↓ev_meets_2, ↓ev_found_3, ↓ev_meets_3, ↓ev_found_4, ↓ev_meets_4, ↓ev_found_5, ↓ev_meets_5, true_and, and_true, and_self, eq_self, not_true_eq_false, not_false_eq_true, ite_true, ite_false, true_or, or_true, false_or, or_false, false_and, and_false, ← zi_ni_0, ← zi_ni_1, ← zi_ni_2, ← zi_ni_3, ← zi_ni_4, ← zi_ni_5, ← zi_ni_6, ← zi_ni_7, ← zi_ni_8, ← zi_ni_9, ← zi_ni_10, ← zi_ni_12, ← zi_ni_24, ← zi_ni_25, ← zi_ni_40, ← zi_ni_45, ← zi_ni_47, ← zi_ni_48, ← zi_ni_95, ← zi_ni_96, ← zi_ni_97, ← zi_ni_100, ← zi_ni_144, ← zi_ni_288, nI_ltI, nI_leI, nI_eqI, nlt_T, nlt_F, nle_T, nle_F, neq_T, neq_F, nI_add, pk_mul, nI_clamp, q_inT, ng_lt, ng_tl, ng_le, ng_el, ng_eq, ng_qe, q_b0, q_b1, nar_0, nar_1, b01, b01', q_bn0, q_bn1, nar_n0, nar_n1, si_k, si_i, si_s, si_e, si_2, sl_1, sl_22, sl_k, sl_i, sl_s, sl_e, sp_1, sp_21, sp_22, sc_k, sc_i, sc_e, sc_2, mF_k, mM_k, mF_2, mM_2, mF_0, mM_11, ↓eu_X11_stepOnce, ↓eu_X11_pushAll, ↓eu_X11_carryAll]
  refine lp_mtoo hj hd s7 hrc m3 (fun hf => ?_) (fun ht => ?_)
  · have z2 : u7.1 75 0 j = nI w := s7.2.1.trans d1
    have z3 : u7.1 76 0 j = nI h := s7.2.2.1.trans d2
    have z4 : u7.1 82 0 j = v 0 4 := by rw [e7 82 (by decide), ← hv]; rfl
    simp (disch := first | omega | decide) only [Nat.reduceAdd, Nat.reduceMul, ↓ev_ck, ↓ev_if, ↓ev_lt, ↓ev_jn, ↓ev_so, ↓reduceIte, ↓ev_within, ↓ev_in, ↓ev_isBoard, ↓ev_isGauge, ↓ev_isNumber, ↓ev_isSix, ↓ev_isEight, ↓ev_foundN, ↓ev_meetsN, ↓ev_found_1, ↓ev_meets_1, ↓ev_found_2, ↓ev_meets_2, ↓ev_found_3, ↓ev_meets_3, ↓ev_found_4, ↓ev_meets_4, ↓ev_found_5, ↓ev_meets_5, true_and, and_true, and_self, eq_self, not_true_eq_false, not_false_eq_true, ite_true, ite_false, true_or, or_true, false_or, or_false, false_and, and_false, ← zi_ni_0, ← zi_ni_1, ← zi_ni_2, ← zi_ni_3, ← zi_ni_4, ← zi_ni_5, ← zi_ni_6, ← zi_ni_7, ← zi_ni_8, ← zi_ni_9, ← zi_ni_10, ← zi_ni_12, ← zi_ni_24, ← zi_ni_25, ← zi_ni_40, ← zi_ni_45, ← zi_ni_47, ← zi_ni_48, ← zi_ni_95, ← zi_ni_96, ← zi_ni_97, ← zi_ni_100, ← zi_ni_144, ← zi_ni_288, nI_ltI, nI_leI, nI_eqI, nlt_T, nlt_F, nle_T, nle_F, neq_T, neq_F, nI_add, pk_mul, nI_clamp, q_inT, ng_lt, ng_tl, ng_le, ng_el, ng_eq, ng_qe, q_b0, q_b1, nar_0, nar_1, b01, b01', q_bn0, q_bn1, nar_n0, nar_n1, si_k, si_i, si_s, si_e, si_2, sl_1, sl_22, sl_k, sl_i, sl_s, sl_e, sp_1, sp_21, sp_22, sc_k, sc_i, sc_e, sc_2, mF_k, mM_k, mF_2, mM_2, mF_0, mM_11, z2, z3, z4]
    refine lp_mcf (u := q_si u7 82 0 j (v 0 4 + rainF v rc)) hj (by rw [si_k (by decide)]; exact z2) (by rw [si_k (by decide)]; exact z3) d10 (fun u8 h8 => ?_)
    obtain ⟨y1, y2, y3⟩ := h8
    refine lp_mcw hj (by rw [y1 75 0 j (by omega), si_k (by decide)]; exact z2) (by rw [y1 76 0 j (by omega), si_k (by decide)]; exact z3) d10 (fun u9 h9 => ?_)
    obtain ⟨x1, x4, x5⟩ := h9
    have T : ∀ k i s, k < 101 ∨ 104 < k → ¬ (k = 82 ∧ i = 0 ∧ s = j) → ¬ (k = 94 ∧ i = 0 ∧ 96 * j ≤ s ∧ s < 96 * j + 2 * (w * h)) → ¬ (k = 92 ∧ i = 0 ∧ 48 * j ≤ s ∧ s < 48 * j + w * h) → ¬ (k = 93 ∧ i = 0 ∧ 144 * j ≤ s ∧ s < 144 * j + 144 ∧ (s - 144 * j) % 48 < w * h) → u9.1 k i s = u.1 k i s := by
      intro k i s c1 c2 c3 c4 c5
      rw [x1 k i s c4 c5, y1 k i s c3, si_n c2, e7 k c1]
    have V : ∀ t' s', mB u j t' s' = v t' s' := fun t' s' => by rw [hv]
    have y9 : mB u9 j = st0 v := by
      funext t s
      rcases (show t = 0 ∨ t = 1 ∨ t = 2 ∨ t = 3 ∨ t = 4 ∨ t = 5 ∨ t = 6 ∨ t = 7 ∨ t = 8 ∨ 9 ≤ t by omega) with rfl | rfl | rfl | rfl | rfl | rfl | rfl | rfl | rfl | ht
      · rcases (show s = 0 ∨ s = 1 ∨ s = 2 ∨ s = 3 ∨ s = 4 ∨ s = 5 ∨ s = 6 ∨ s = 7 ∨ s = 8 ∨ s = 9 ∨ s = 10 ∨ s = 11 ∨ s = 12 ∨ s = 13 ∨ 14 ≤ s by omega) with rfl | rfl | rfl | rfl | rfl | rfl | rfl | rfl | rfl | rfl | rfl | rfl | rfl | rfl | hs
        · show u9.1 74 0 j = v 0 0
          rw [T 74 0 j (by omega) (by omega) (by omega) (by omega) (by omega), ← V 0 0]
          rfl
        · show u9.1 75 0 j = v 0 1
          rw [T 75 0 j (by omega) (by omega) (by omega) (by omega) (by omega), ← V 0 1]
          rfl
        · show u9.1 76 0 j = v 0 2
          rw [T 76 0 j (by omega) (by omega) (by omega) (by omega) (by omega), ← V 0 2]
          rfl
        · show u9.1 81 0 j = v 0 3
          rw [T 81 0 j (by omega) (by omega) (by omega) (by omega) (by omega), ← V 0 3]
          rfl
        · show u9.1 82 0 j = v 0 4 + rainF v (rcN v)
          rw [x1 82 0 j (by omega) (by omega), y1 82 0 j (by omega), si_e, hrc]
        · show u9.1 83 0 j = v 0 5
          rw [T 83 0 j (by omega) (by omega) (by omega) (by omega) (by omega), ← V 0 5]
          rfl
        · show u9.1 84 0 j = v 0 6
          rw [T 84 0 j (by omega) (by omega) (by omega) (by omega) (by omega), ← V 0 6]
          rfl
        · show u9.1 85 0 j = v 0 7
          rw [T 85 0 j (by omega) (by omega) (by omega) (by omega) (by omega), ← V 0 7]
          rfl
        · show u9.1 77 0 j = v 0 8
          rw [T 77 0 j (by omega) (by omega) (by omega) (by omega) (by omega), ← V 0 8]
          rfl
        · show u9.1 78 0 j = v 0 9
          rw [T 78 0 j (by omega) (by omega) (by omega) (by omega) (by omega), ← V 0 9]
          rfl
        · show u9.1 79 0 j = v 0 10
          rw [T 79 0 j (by omega) (by omega) (by omega) (by omega) (by omega), ← V 0 10]
          rfl
        · show u9.1 80 0 j = v 0 11
          rw [T 80 0 j (by omega) (by omega) (by omega) (by omega) (by omega), ← V 0 11]
          rfl
        · show u9.1 86 0 j = v 0 12
          rw [T 86 0 j (by omega) (by omega) (by omega) (by omega) (by omega), ← V 0 12]
          rfl
        · show u9.1 89 0 j = v 0 13
          rw [T 89 0 j (by omega) (by omega) (by omega) (by omega) (by omega), ← V 0 13]
          rfl
        · obtain ⟨z, rfl⟩ : ∃ z, s = z + 14 := ⟨s - 14, by omega⟩
          show _ = if z + 14 = 4 then v 0 4 + rainF v (rcN v) else v 0 (z + 14)
          rw [if_neg (by omega), ← V 0 (z + 14)]
          rfl
      · show (if s < 48 then u9.1 91 0 (48 * j + s) else 0) = v 1 s
        rw [← V 1 s]
        show _ = (if s < 48 then u.1 91 0 (48 * j + s) else 0)
        rw [T 91 0 _ (by omega) (by omega) (by omega) (by omega) (by omega)]
      · show (if s < 48 then u9.1 92 0 (48 * j + s) else 0) = (if s < nN v then rivF v (rcN v) s else v 2 s)
        rw [d9, hrc]
        by_cases q : s < w * h
        · rw [if_pos (show s < 48 by omega), if_pos q, (x5 s q).1, y1 103 0 s (by omega), si_k (by decide)]
          exact m3 s q
        · rw [if_neg q, ← V 2 s]
          show _ = (if s < 48 then u.1 92 0 (48 * j + s) else 0)
          rw [T 92 0 _ (by omega) (by omega) (by omega) (by omega) (by omega)]
      · show (if s < 144 then u9.1 93 0 (144 * j + s) else 0) = (if s % 48 < nN v ∧ s < 144 then stuF v (s / 48) (2 * nN v) (s % 48) else v 3 s)
        rw [d9]
        by_cases q : s < 144
        · rw [if_pos q]
          by_cases q2 : s % 48 < w * h
          · rw [if_pos ⟨q2, q⟩]
            obtain ⟨v1, v2, v3⟩ := g7 (s % 48) q2
            obtain ⟨o1, o2, o3, o4⟩ := x5 (s % 48) q2
            rw [y1 104 0 _ (by omega), si_k (by decide)] at o2 o3 o4
            rcases (show s / 48 = 0 ∨ s / 48 = 1 ∨ s / 48 = 2 by omega) with z | z | z
            · rw [z, ← v1, ← o2, show 144 * j + s = 144 * j + s % 48 by omega]
            · rw [z, ← v2, ← o3, show 144 * j + s = 144 * j + 48 + s % 48 by omega]
            · rw [z, ← v3, ← o4, show 144 * j + s = 144 * j + 96 + s % 48 by omega]
          · rw [if_neg (fun z => q2 z.1), ← V 3 s]
            show _ = (if s < 144 then u.1 93 0 (144 * j + s) else 0)
            rw [if_pos q, T 93 0 _ (by omega) (by omega) (by omega) (by omega) (by omega)]
        · rw [if_neg q, if_neg (fun z => q z.2), ← V 3 s]
          show _ = (if s < 144 then u.1 93 0 (144 * j + s) else 0)
          rw [if_neg q]
      · show (if s < 96 then u9.1 94 0 (96 * j + s) else 0) = (if s < 2 * nN v then lfl v s else v 4 s)
        rw [d9]
        by_cases q : s < 2 * (w * h)
        · rw [if_pos (show s < 96 by omega), if_pos q, x1 94 0 _ (by omega) (by omega), y3 s q, si_k (by decide)]
          exact f7 s q
        · rw [if_neg q, ← V 4 s]
          show _ = (if s < 96 then u.1 94 0 (96 * j + s) else 0)
          rw [T 94 0 _ (by omega) (by omega) (by omega) (by omega) (by omega)]
      · show (if s < 96 then u9.1 95 0 (96 * j + s) else 0) = v 5 s
        rw [← V 5 s]
        show _ = (if s < 96 then u.1 95 0 (96 * j + s) else 0)
        rw [T 95 0 _ (by omega) (by omega) (by omega) (by omega) (by omega)]
      · show (if s < 4 then u9.1 90 0 (4 * j + s) else 0) = v 6 s
        rw [← V 6 s]
        show _ = (if s < 4 then u.1 90 0 (4 * j + s) else 0)
        rw [T 90 0 _ (by omega) (by omega) (by omega) (by omega) (by omega)]
      · show (if s < 4 then u9.1 87 0 (4 * j + s) else 0) = v 7 s
        rw [← V 7 s]
        show _ = (if s < 4 then u.1 87 0 (4 * j + s) else 0)
        rw [T 87 0 _ (by omega) (by omega) (by omega) (by omega) (by omega)]
      · show (if s < 4 then u9.1 88 0 (4 * j + s) else 0) = v 8 s
        rw [← V 8 s]
        show _ = (if s < 4 then u.1 88 0 (4 * j + s) else 0)
        rw [T 88 0 _ (by omega) (by omega) (by omega) (by omega) (by omega)]
      · obtain ⟨z, rfl⟩ : ∃ z, t = z + 9 := ⟨t - 9, by omega⟩
        show _ = v (z + 9) s
        rw [← V (z + 9) s]
        rfl
    have l9 : u9.2 = u.2 := by rw [x4, y2]; exact l7
    have yst : ∀ i, i ≠ 4 → st0 v 0 i = v 0 i := fun i q => if_neg q
    have hwt : WF0 n (mB u9 j) := by
      rw [y9]
      unfold WF0
      rw [yst 0 (by decide), yst 1 (by decide), yst 2 (by decide), yst 3 (by decide), yst 8 (by decide), yst 9 (by decide), yst 12 (by decide), yst 13 (by decide), yst 6 (by decide), yst 10 (by decide), yst 11 (by decide)]
      exact hw.1
    have e66 : u9.1 66 = u.1 66 := funext (fun i => funext (fun s => T 66 i s (by omega) (by omega) (by omega) (by omega) (by omega)))
    have e67 : u9.1 67 = u.1 67 := funext (fun i => funext (fun s => T 67 i s (by omega) (by omega) (by omega) (by omega) (by omega)))
    have htd : tdM u9 (mB u9 j) = tdM u v := by
      unfold tdM
      rw [y9, td_s (yst 0 (by decide)) (yst 3 (by decide)) (yst 6 (by decide)) (yst 7 (by decide)), e66, e67]
    try simp (disch := first | omega | decide) only [Nat.reduceAdd, Nat.reduceMul, ↓ev_ck, ↓ev_if, ↓ev_lt, ↓ev_jn, ↓ev_so, ↓reduceIte, ↓ev_within, ↓ev_in, ↓ev_isBoard, ↓ev_isGauge, ↓ev_isNumber, ↓ev_isSix, ↓ev_isEight, ↓ev_foundN, ↓ev_meetsN, ↓ev_found_1, ↓ev_meets_1, ↓ev_found_2, ↓ev_meets_2, ↓ev_found_3, ↓ev_meets_3, ↓ev_found_4, ↓ev_meets_4, ↓ev_found_5, ↓ev_meets_5, true_and, and_true, and_self, eq_self, not_true_eq_false, not_false_eq_true, ite_true, ite_false, true_or, or_true, false_or, or_false, false_and, and_false, ← zi_ni_0, ← zi_ni_1, ← zi_ni_2, ← zi_ni_3, ← zi_ni_4, ← zi_ni_5, ← zi_ni_6, ← zi_ni_7, ← zi_ni_8, ← zi_ni_9, ← zi_ni_10, ← zi_ni_12, ← zi_ni_24, ← zi_ni_25, ← zi_ni_40, ← zi_ni_45, ← zi_ni_47, ← zi_ni_48, ← zi_ni_95, ← zi_ni_96, ← zi_ni_97, ← zi_ni_100, ← zi_ni_144, ← zi_ni_288, nI_ltI, nI_leI, nI_eqI, nlt_T, nlt_F, nle_T, nle_F, neq_T, neq_F, nI_add, pk_mul, nI_clamp, q_inT, ng_lt, ng_tl, ng_le, ng_el, ng_eq, ng_qe, q_b0, q_b1, nar_0, nar_1, b01, b01', q_bn0, q_bn1, nar_n0, nar_n1, si_k, si_i, si_s, si_e, si_2, sl_1, sl_22, sl_k, sl_i, sl_s, sl_e, sp_1, sp_21, sp_22, sc_k, sc_i, sc_e, sc_2, mF_k, mM_k, mF_2, mM_2, mF_0, mM_11, ↓eu_X11_stepOnce, ↓eu_X11_pushAll, ↓eu_X11_carryAll]
    cases hq : tdM u v with
    | none =>
      refine ev_bd.mpr (ev_mhasTide0 hj hn hwt (by rw [e66]; exact hs) (by rw [htd]; exact hq) ?_)
      have k1 := K1 hf u9 ⟨fun k i s c1 c2 => T k i s c1 (by omega) (by omega) (by omega) (by omega), l9⟩ (by rw [y9, hq]; rfl)
      try simp (disch := first | omega | decide) only [Nat.reduceAdd, Nat.reduceMul, ↓ev_ck, ↓ev_if, ↓ev_lt, ↓ev_jn, ↓ev_so, ↓reduceIte, ↓ev_within, ↓ev_in, ↓ev_isBoard, ↓ev_isGauge, ↓ev_isNumber, ↓ev_isSix, ↓ev_isEight, ↓ev_foundN, ↓ev_meetsN, ↓ev_found_1, ↓ev_meets_1, ↓ev_found_2, ↓ev_meets_2, ↓ev_found_3, ↓ev_meets_3, ↓ev_found_4, ↓ev_meets_4, ↓ev_found_5, ↓ev_meets_5, true_and, and_true, and_self, eq_self, not_true_eq_false, not_false_eq_true, ite_true, ite_false, true_or, or_true, false_or, or_false, false_and, and_false, ← zi_ni_0, ← zi_ni_1, ← zi_ni_2, ← zi_ni_3, ← zi_ni_4, ← zi_ni_5, ← zi_ni_6, ← zi_ni_7, ← zi_ni_8, ← zi_ni_9, ← zi_ni_10, ← zi_ni_12, ← zi_ni_24, ← zi_ni_25, ← zi_ni_40, ← zi_ni_45, ← zi_ni_47, ← zi_ni_48, ← zi_ni_95, ← zi_ni_96, ← zi_ni_97, ← zi_ni_100, ← zi_ni_144, ← zi_ni_288, nI_ltI, nI_leI, nI_eqI, nlt_T, nlt_F, nle_T, nle_F, neq_T, neq_F, nI_add, pk_mul, nI_clamp, q_inT, ng_lt, ng_tl, ng_le, ng_el, ng_eq, ng_qe, q_b0, q_b1, nar_0, nar_1, b01, b01', q_bn0, q_bn1, nar_n0, nar_n1, si_k, si_i, si_s, si_e, si_2, sl_1, sl_22, sl_k, sl_i, sl_s, sl_e, sp_1, sp_21, sp_22, sc_k, sc_i, sc_e, sc_2, mF_k, mM_k, mF_2, mM_2, mF_0, mM_11, ↓eu_X11_leadRim]
      try simp (disch := first | omega | decide) only [Nat.reduceAdd, Nat.reduceMul, ↓ev_ck, ↓ev_if, ↓ev_lt, ↓ev_jn, ↓ev_so, ↓reduceIte, ↓ev_within, ↓ev_in, ↓ev_isBoard, ↓ev_isGauge, ↓ev_isNumber, ↓ev_isSix, ↓ev_isEight, ↓ev_foundN, ↓ev_meetsN, ↓ev_found_1, ↓ev_meets_1, ↓ev_found_2, ↓ev_meets_2, ↓ev_found_3, ↓ev_meets_3, ↓ev_found_4, ↓ev_meets_4, ↓ev_found_5, ↓ev_meets_5, true_and, and_true, and_self, eq_self, not_true_eq_false, not_false_eq_true, ite_true, ite_false, true_or, or_true, false_or, or_false, false_and, and_false, ← zi_ni_0, ← zi_ni_1, ← zi_ni_2, ← zi_ni_3, ← zi_ni_4, ← zi_ni_5, ← zi_ni_6, ← zi_ni_7, ← zi_ni_8, ← zi_ni_9, ← zi_ni_10, ← zi_ni_12, ← zi_ni_24, ← zi_ni_25, ← zi_ni_40, ← zi_ni_45, ← zi_ni_47, ← zi_ni_48, ← zi_ni_95, ← zi_ni_96, ← zi_ni_97, ← zi_ni_100, ← zi_ni_144, ← zi_ni_288, nI_ltI, nI_leI, nI_eqI, nlt_T, nlt_F, nle_T, nle_F, neq_T, neq_F, nI_add, pk_mul, nI_clamp, q_inT, ng_lt, ng_tl, ng_le, ng_el, ng_eq, ng_qe, q_b0, q_b1, nar_0, nar_1, b01, b01', q_bn0, q_bn1, nar_n0, nar_n1, si_k, si_i, si_s, si_e, si_2, sl_1, sl_22, sl_k, sl_i, sl_s, sl_e, sp_1, sp_21, sp_22, sc_k, sc_i, sc_e, sc_2, mF_k, mM_k, mF_2, mM_2, mF_0, mM_11] at k1
      exact k1
    | some x =>
      refine ev_bd.mpr (ev_mhasTide1 hj hn hwt (by rw [e66]; exact hs) (by rw [htd]; exact hq) ?_)
      try simp (disch := first | omega | decide) only [Nat.reduceAdd, Nat.reduceMul, ↓ev_ck, ↓ev_if, ↓ev_lt, ↓ev_jn, ↓ev_so, ↓reduceIte, ↓ev_within, ↓ev_in, ↓ev_isBoard, ↓ev_isGauge, ↓ev_isNumber, ↓ev_isSix, ↓ev_isEight, ↓ev_foundN, ↓ev_meetsN, ↓ev_found_1, ↓ev_meets_1, ↓ev_found_2, ↓ev_meets_2, ↓ev_found_3, ↓ev_meets_3, ↓ev_found_4, ↓ev_meets_4, ↓ev_found_5, ↓ev_meets_5, true_and, and_true, and_self, eq_self, not_true_eq_false, not_false_eq_true, ite_true, ite_false, true_or, or_true, false_or, or_false, false_and, and_false, ← zi_ni_0, ← zi_ni_1, ← zi_ni_2, ← zi_ni_3, ← zi_ni_4, ← zi_ni_5, ← zi_ni_6, ← zi_ni_7, ← zi_ni_8, ← zi_ni_9, ← zi_ni_10, ← zi_ni_12, ← zi_ni_24, ← zi_ni_25, ← zi_ni_40, ← zi_ni_45, ← zi_ni_47, ← zi_ni_48, ← zi_ni_95, ← zi_ni_96, ← zi_ni_97, ← zi_ni_100, ← zi_ni_144, ← zi_ni_288, nI_ltI, nI_leI, nI_eqI, nlt_T, nlt_F, nle_T, nle_F, neq_T, neq_F, nI_add, pk_mul, nI_clamp, q_inT, ng_lt, ng_tl, ng_le, ng_el, ng_eq, ng_qe, q_b0, q_b1, nar_0, nar_1, b01, b01', q_bn0, q_bn1, nar_n0, nar_n1, si_k, si_i, si_s, si_e, si_2, sl_1, sl_22, sl_k, sl_i, sl_s, sl_e, sp_1, sp_21, sp_22, sc_k, sc_i, sc_e, sc_2, mF_k, mM_k, mF_2, mM_2, mF_0, mM_11, ↓eu_X11_leadRim]
      refine ev_bd.mpr ?_
      try simp (disch := first | omega | decide) only [Nat.reduceAdd, Nat.reduceMul, ↓ev_ck, ↓ev_if, ↓ev_lt, ↓ev_jn, ↓ev_so, ↓reduceIte, ↓ev_within, ↓ev_in, ↓ev_isBoard, ↓ev_isGauge, ↓ev_isNumber, ↓ev_isSix, ↓ev_isEight, ↓ev_foundN, ↓ev_meetsN, ↓ev_found_1, ↓ev_meets_1, ↓ev_found_2, ↓ev_meets_2, ↓ev_found_3, ↓ev_meets_3, ↓ev_found_4, ↓ev_meets_4, ↓ev_found_5, ↓ev_meets_5, true_and, and_true, and_self, eq_self, not_true_eq_false, not_false_eq_true, ite_true, ite_false, true_or, or_true, false_or, or_false, false_and, and_false, ← zi_ni_0, ← zi_ni_1, ← zi_ni_2, ← zi_ni_3, ← zi_ni_4, ← zi_ni_5, ← zi_ni_6, ← zi_ni_7, ← zi_ni_8, ← zi_ni_9, ← zi_ni_10, ← zi_ni_12, ← zi_ni_24, ← zi_ni_25, ← zi_ni_40, ← zi_ni_45, ← zi_ni_47, ← zi_ni_48, ← zi_ni_95, ← zi_ni_96, ← zi_ni_97, ← zi_ni_100, ← zi_ni_144, ← zi_ni_288, nI_ltI, nI_leI, nI_eqI, nlt_T, nlt_F, nle_T, nle_F, neq_T, neq_F, nI_add, pk_mul, nI_clamp, q_inT, ng_lt, ng_tl, ng_le, ng_el, ng_eq, ng_qe, q_b0, q_b1, nar_0, nar_1, b01, b01', q_bn0, q_bn1, nar_n0, nar_n1, si_k, si_i, si_s, si_e, si_2, sl_1, sl_22, sl_k, sl_i, sl_s, sl_e, sp_1, sp_21, sp_22, sc_k, sc_i, sc_e, sc_2, mF_k, mM_k, mF_2, mM_2, mF_0, mM_11, ↓eu_X11_leadRim]
      refine ev_bd.mpr (ev_rimLevel hj hn hwt (by rw [e66]; exact hs) (by rw [htd]; exact hq) ?_)
      try try simp (disch := first | omega | decide) only [Nat.reduceAdd, Nat.reduceMul, ↓ev_ck, ↓ev_if, ↓ev_lt, ↓ev_jn, ↓ev_so, ↓reduceIte, ↓ev_within, ↓ev_in, ↓ev_isBoard, ↓ev_isGauge, ↓ev_isNumber, ↓ev_isSix, ↓ev_isEight, ↓ev_foundN, ↓ev_meetsN, ↓ev_found_1, ↓ev_meets_1, ↓ev_found_2, ↓ev_meets_2, ↓ev_found_3, ↓ev_meets_3, ↓ev_found_4, ↓ev_meets_4, ↓ev_found_5, ↓ev_meets_5, true_and, and_true, and_self, eq_self, not_true_eq_false, not_false_eq_true, ite_true, ite_false, true_or, or_true, false_or, or_false, false_and, and_false, ← zi_ni_0, ← zi_ni_1, ← zi_ni_2, ← zi_ni_3, ← zi_ni_4, ← zi_ni_5, ← zi_ni_6, ← zi_ni_7, ← zi_ni_8, ← zi_ni_9, ← zi_ni_10, ← zi_ni_12, ← zi_ni_24, ← zi_ni_25, ← zi_ni_40, ← zi_ni_45, ← zi_ni_47, ← zi_ni_48, ← zi_ni_95, ← zi_ni_96, ← zi_ni_97, ← zi_ni_100, ← zi_ni_144, ← zi_ni_288, nI_ltI, nI_leI, nI_eqI, nlt_T, nlt_F, nle_T, nle_F, neq_T, neq_F, nI_add, pk_mul, nI_clamp, q_inT, ng_lt, ng_tl, ng_le, ng_el, ng_eq, ng_qe, q_b0, q_b1, nar_0, nar_1, b01, b01', q_bn0, q_bn1, nar_n0, nar_n1, si_k, si_i, si_s, si_e, si_2, sl_1, sl_22, sl_k, sl_i, sl_s, sl_e, sp_1, sp_21, sp_22, sc_k, sc_i, sc_e, sc_2, mF_k, mM_k, mF_2, mM_2, mF_0, mM_11, ↓eu_X11_leadRim]
      have hdt : DW (mB u9 j) w h := by
        rw [y9]
        refine ⟨(yst 1 (by decide)).trans d1, (yst 2 (by decide)).trans d2, d3, d4, d5, d6, ?_, ?_, ?_, d10⟩
        · rw [nW_s (v := v) (yst 1 (by decide))]; exact d7
        · rw [nH_s (v := v) (yst 2 (by decide))]; exact d8
        · rw [nN_s (v := v) (yst 1 (by decide)) (yst 2 (by decide))]; exact d9
      refine lp_mrim hj hdt (fun u10 n1 n2 n3 => ?_)
      have k1 := K1 hf u10 ⟨fun k i s c1 c2 => (n1 k i s (by omega) (by omega)).trans (T k i s c1 (by omega) (by omega) (by omega) (by omega)), n2.trans l9⟩ (by rw [n3, y9, hq, ← d8]; rfl)
      try simp (disch := first | omega | decide) only [Nat.reduceAdd, Nat.reduceMul, ↓ev_ck, ↓ev_if, ↓ev_lt, ↓ev_jn, ↓ev_so, ↓reduceIte, ↓ev_within, ↓ev_in, ↓ev_isBoard, ↓ev_isGauge, ↓ev_isNumber, ↓ev_isSix, ↓ev_isEight, ↓ev_foundN, ↓ev_meetsN, ↓ev_found_1, ↓ev_meets_1, ↓ev_found_2, ↓ev_meets_2, ↓ev_found_3, ↓ev_meets_3, ↓ev_found_4, ↓ev_meets_4, ↓ev_found_5, ↓ev_meets_5, true_and, and_true, and_self, eq_self, not_true_eq_false, not_false_eq_true, ite_true, ite_false, true_or, or_true, false_or, or_false, false_and, and_false, ← zi_ni_0, ← zi_ni_1, ← zi_ni_2, ← zi_ni_3, ← zi_ni_4, ← zi_ni_5, ← zi_ni_6, ← zi_ni_7, ← zi_ni_8, ← zi_ni_9, ← zi_ni_10, ← zi_ni_12, ← zi_ni_24, ← zi_ni_25, ← zi_ni_40, ← zi_ni_45, ← zi_ni_47, ← zi_ni_48, ← zi_ni_95, ← zi_ni_96, ← zi_ni_97, ← zi_ni_100, ← zi_ni_144, ← zi_ni_288, nI_ltI, nI_leI, nI_eqI, nlt_T, nlt_F, nle_T, nle_F, neq_T, neq_F, nI_add, pk_mul, nI_clamp, q_inT, ng_lt, ng_tl, ng_le, ng_el, ng_eq, ng_qe, q_b0, q_b1, nar_0, nar_1, b01, b01', q_bn0, q_bn1, nar_n0, nar_n1, si_k, si_i, si_s, si_e, si_2, sl_1, sl_22, sl_k, sl_i, sl_s, sl_e, sp_1, sp_21, sp_22, sc_k, sc_i, sc_e, sc_2, mF_k, mM_k, mF_2, mM_2, mF_0, mM_11, ↓eu_X11_leadRim]
      try simp (disch := first | omega | decide) only [Nat.reduceAdd, Nat.reduceMul, ↓ev_ck, ↓ev_if, ↓ev_lt, ↓ev_jn, ↓ev_so, ↓reduceIte, ↓ev_within, ↓ev_in, ↓ev_isBoard, ↓ev_isGauge, ↓ev_isNumber, ↓ev_isSix, ↓ev_isEight, ↓ev_foundN, ↓ev_meetsN, ↓ev_found_1, ↓ev_meets_1, ↓ev_found_2, ↓ev_meets_2, ↓ev_found_3, ↓ev_meets_3, ↓ev_found_4, ↓ev_meets_4, ↓ev_found_5, ↓ev_meets_5, true_and, and_true, and_self, eq_self, not_true_eq_false, not_false_eq_true, ite_true, ite_false, true_or, or_true, false_or, or_false, false_and, and_false, ← zi_ni_0, ← zi_ni_1, ← zi_ni_2, ← zi_ni_3, ← zi_ni_4, ← zi_ni_5, ← zi_ni_6, ← zi_ni_7, ← zi_ni_8, ← zi_ni_9, ← zi_ni_10, ← zi_ni_12, ← zi_ni_24, ← zi_ni_25, ← zi_ni_40, ← zi_ni_45, ← zi_ni_47, ← zi_ni_48, ← zi_ni_95, ← zi_ni_96, ← zi_ni_97, ← zi_ni_100, ← zi_ni_144, ← zi_ni_288, nI_ltI, nI_leI, nI_eqI, nlt_T, nlt_F, nle_T, nle_F, neq_T, neq_F, nI_add, pk_mul, nI_clamp, q_inT, ng_lt, ng_tl, ng_le, ng_el, ng_eq, ng_qe, q_b0, q_b1, nar_0, nar_1, b01, b01', q_bn0, q_bn1, nar_n0, nar_n1, si_k, si_i, si_s, si_e, si_2, sl_1, sl_22, sl_k, sl_i, sl_s, sl_e, sp_1, sp_21, sp_22, sc_k, sc_i, sc_e, sc_2, mF_k, mM_k, mF_2, mM_2, mF_0, mM_11] at k1
      exact k1
  · try simp (disch := first | omega | decide) only [Nat.reduceAdd, Nat.reduceMul, ↓ev_ck, ↓ev_if, ↓ev_lt, ↓ev_jn, ↓ev_so, ↓reduceIte, ↓ev_within, ↓ev_in, ↓ev_isBoard, ↓ev_isGauge, ↓ev_isNumber, ↓ev_isSix, ↓ev_isEight, ↓ev_foundN, ↓ev_meetsN, ↓ev_found_1, ↓ev_meets_1, ↓ev_found_2, ↓ev_meets_2, ↓ev_found_3, ↓ev_meets_3, ↓ev_found_4, ↓ev_meets_4, ↓ev_found_5, ↓ev_meets_5, true_and, and_true, and_self, eq_self, not_true_eq_false, not_false_eq_true, ite_true, ite_false, true_or, or_true, false_or, or_false, false_and, and_false, ← zi_ni_0, ← zi_ni_1, ← zi_ni_2, ← zi_ni_3, ← zi_ni_4, ← zi_ni_5, ← zi_ni_6, ← zi_ni_7, ← zi_ni_8, ← zi_ni_9, ← zi_ni_10, ← zi_ni_12, ← zi_ni_24, ← zi_ni_25, ← zi_ni_40, ← zi_ni_45, ← zi_ni_47, ← zi_ni_48, ← zi_ni_95, ← zi_ni_96, ← zi_ni_97, ← zi_ni_100, ← zi_ni_144, ← zi_ni_288, nI_ltI, nI_leI, nI_eqI, nlt_T, nlt_F, nle_T, nle_F, neq_T, neq_F, nI_add, pk_mul, nI_clamp, q_inT, ng_lt, ng_tl, ng_le, ng_el, ng_eq, ng_qe, q_b0, q_b1, nar_0, nar_1, b01, b01', q_bn0, q_bn1, nar_n0, nar_n1, si_k, si_i, si_s, si_e, si_2, sl_1, sl_22, sl_k, sl_i, sl_s, sl_e, sp_1, sp_21, sp_22, sc_k, sc_i, sc_e, sc_2, mF_k, mM_k, mF_2, mM_2, mF_0, mM_11, ↓eu_X11_leadRim]
    refine K0 ht u7 ⟨fun k i s c1 c2 => by rw [e7 k c1], l7⟩ ?_
    rw [← hv]
    apply mB_ext <;> exact e7 _ (by decide)

