/-! step, the whole call. -/
theorem Rel.add {n : Nat} {μ : qM} (h : Rel n μ) : ∀ k, Rel (n + k) μ
  | 0 => h
  | k + 1 => (Rel.add h k).succ
theorem Rel.mn {n m : Nat} {μ : qM} (h : Rel n μ) (q : n ≤ m) : Rel m μ := by
  have := h.add (m - n)
  rwa [show n + (m - n) = m by omega] at this
/-- as Op, for calls that step -/
def OpK {α : Type} (F F' : qM → Option (α × qM)) : Prop := ∀ n μ, n ≤ 1000000 → Rel n μ → Ev (F μ) (fun v μ1 => Ev (F' μ1) (fun v' μ2 => v = v' ∧ Rel (n + 1000) μ2))
theorem Op.K {α : Type} {F F' : qM → Option (α × qM)} (h : Op F F') : OpK F F' := fun n μ hn hr => (h n μ hn hr).mono (fun _ _ q => q.mono (fun _ _ z => ⟨z.1, z.2.mn (by omega)⟩))
theorem FC.rf {c : qM} : FC c c := ⟨fun _ _ => rfl, rfl⟩
theorem FM.rf {c : qM} : FM c c := ⟨fun _ _ => rfl, fun _ _ => rfl⟩
theorem mix_FM {n : Nat} {c m : qM} (h : FM c m) (hr : Rel n (mix c m)) : Rel n m := by
  have e1 : (mix c m).1 = m.1 := by
    funext k
    cases q : isM k
    · rw [mix_c q, h.1 k q]
    · rw [mix_m q]
  have e2 : (mix c m).2.1 = m.2.1 := by
    funext k
    by_cases q : k = 11
    · rw [q]; exact mix_lm
    · rw [mix_lc q, h.2 k q]
  have e : m = ((mix c m).1, (mix c m).2.1, m.2.2) := by rw [e1, e2]
  rw [e]
  exact hr
theorem steps {b N : Nat} (hb : b < 6) (hN : N ≤ 200) : ∀ k i n (c m0 : qM) (F : Nat) (P : Int32 → qM → Prop), i + k = N → k < F → n + k ≤ 2000000 → Rel n (mix c m0) → c.1 2 b 10 = nI 1 → (∀ d c', FC c c' → (∀ m, Rel n (mix c m) → ∀ F', k < F' → Ev (L_X11_step_28 (nI b) (nI N) F' (nI i) m (fun x8 u5 => some (x8, u5))) (fun r' m' => r' = d ∧ FM m m' ∧ Rel (n + k) (mix c' m'))) → P d c') → Ev (L_X10_step_23 (nI b) (nI N) F (nI i) c (fun x8 u5 => some (x8, u5))) P := by
  intro k
  induction k with
  | zero =>
    intro i n c m0 F P hi hF hn h ht K
    obtain ⟨F, rfl⟩ : ∃ F', F = F' + 1 := ⟨F - 1, by omega⟩
    obtain rfl : i = N := by omega
    refine (show Ev (if nI i ≤ nI i then (some (nI i, c) : Option (Int32 × qM)) else _) P from ?_)
    rw [if_pos (Int32.le_refl _)]
    refine ev_so.mpr (K _ _ FC.rf (fun m hm F' hF' => ?_))
    obtain ⟨F', rfl⟩ : ∃ F'', F' = F'' + 1 := ⟨F' - 1, by omega⟩
    refine (show Ev (if nI i ≤ nI i then (some (nI i, m) : Option (Int32 × qM)) else _) _ from ?_)
    rw [if_pos (Int32.le_refl _)]
    exact ev_so.mpr ⟨rfl, FM.rf, hm⟩
  | succ k ih =>
    intro i n c m0 F P hi hF hn h ht K
    obtain ⟨F, rfl⟩ : ∃ F', F = F' + 1 := ⟨F - 1, by omega⟩
    have hlt : ¬ nI N ≤ nI i := by rw [nI_leI (by omega) (by omega)]; omega
    have hS : nI i + 1 = nI (i + 1) := nI_add i 1
    refine (show Ev (if nI N ≤ nI i then (some (nI i, c) : Option (Int32 × qM)) else q_bd (f_X10_stepWhole (nI b) c) (fun (x6 : Int32) (u4 : qM) => if x6 = 0 then (some (nI i, u4) : Option (Int32 × qM)) else q_lt (nI i + 1) (fun (x7 : Int32) => L_X10_step_23 (nI b) (nI N) F x7 u4 (fun x8 u5 => some (x8, u5))))) P from ?_)
    rw [if_neg hlt]
    refine ev_bd.mpr (step1 (n := n) (m0 := m0) (by omega) h hb ht (fun r c' hfc hr ht' hm => ?_))
    rcases hr with rfl | rfl
    · rw [if_pos rfl]
      refine ev_so.mpr (K _ _ hfc (fun m hm1 F' hF' => ?_))
      obtain ⟨F', rfl⟩ : ∃ F'', F' = F'' + 1 := ⟨F' - 1, by omega⟩
      refine (show Ev (if nI N ≤ nI i then (some (nI i, m) : Option (Int32 × qM)) else q_bd (f_X11_stepOnce (nI b) m) (fun (x6 : Int32) (u4 : qM) => if x6 = 0 then (some (nI i, u4) : Option (Int32 × qM)) else q_lt (nI i + 1) (fun (x7 : Int32) => L_X11_step_28 (nI b) (nI N) F' x7 u4 (fun x8 u5 => some (x8, u5))))) _ from ?_)
      rw [if_neg hlt]
      refine ev_bd.mpr ((hm m hm1).mono (fun r' m' q => ?_))
      obtain ⟨rfl, q2, q3⟩ := q
      rw [if_pos rfl]
      exact ev_so.mpr ⟨rfl, q2, q3.mn (by omega)⟩
    · rw [if_neg (by decide)]
      have h0 := hm m0 h
      obtain ⟨r0, m1, -, -, -, hR⟩ := h0
      refine (show Ev (L_X10_step_23 (nI b) (nI N) F (nI i + 1) c' (fun x8 u5 => some (x8, u5))) P from ?_)
      rw [hS]
      refine ih (i + 1) (n + 1) c' m1 F P (by omega) (by omega) (by omega) hR ht' (fun d c2 hfc2 hm2 => K d c2 (hfc.tr hfc2) (fun m hm1 F' hF' => ?_))
      obtain ⟨F', rfl⟩ : ∃ F'', F' = F'' + 1 := ⟨F' - 1, by omega⟩
      refine (show Ev (if nI N ≤ nI i then (some (nI i, m) : Option (Int32 × qM)) else q_bd (f_X11_stepOnce (nI b) m) (fun (x6 : Int32) (u4 : qM) => if x6 = 0 then (some (nI i, u4) : Option (Int32 × qM)) else q_lt (nI i + 1) (fun (x7 : Int32) => L_X11_step_28 (nI b) (nI N) F' x7 u4 (fun x8 u5 => some (x8, u5))))) _ from ?_)
      rw [if_neg hlt]
      refine ev_bd.mpr ((hm m hm1).mono (fun r' m' q => ?_))
      obtain ⟨rfl, q2, q3⟩ := q
      rw [if_neg (by decide)]
      refine (show Ev (L_X11_step_28 (nI b) (nI N) F' (nI i + 1) m' (fun x8 u5 => some (x8, u5))) _ from ?_)
      rw [hS]
      refine (hm2 m' q3 F' (by omega)).mono (fun r2 m2 z => ⟨z.1, q2.tr z.2.1, ?_⟩)
      have := z.2.2
      rwa [show n + 1 + k = n + (k + 1) by omega] at this
theorem x_le200 {x : Int32} : (nI 0 ≤ x ∧ x ≤ nI 200) = (nI 0 ≤ x ∧ x < nI 201) := by
  have h := x_lePred (x := x) (m := 201) (by decide)
  rwa [show nI 201 - nI 1 = nI 200 by decide +kernel] at h
theorem op_step (a e : Int32) : OpK (f_X10_step a e) (f_X11_step a e) := by
  intro n μ hn h
  rcases y_ixN e 201 (by decide) with ⟨N, hN, rfl⟩ | he
  · rcases y_ix6 a with ⟨j, hj, rfl⟩ | ha
    · rcases BD_of (h.2.2.2.1 j hj) with ⟨g1, g2⟩ | ⟨k, wd, hg, st, p, d, rc, pc, hD, hN'⟩
      · simp (disch := first | omega | decide) only [Nat.reduceAdd, Nat.reduceMul, ↓ev_bd, ↓ev_ck, ↓ev_if, ↓ev_lt, ↓ev_jn, ↓ev_so, ↓reduceIte, ↓ev_within, ↓ev_in, ↓ev_isBoard, ↓ev_isGauge, ↓ev_isNumber, ↓ev_isSix, ↓ev_isEight, ↓ev_foundN, ↓ev_meetsN, ↓ev_found_1, ↓ev_meets_1, ↓ev_found_2, ↓ev_meets_2, ↓ev_found_3, ↓ev_meets_3, ↓ev_found_4, ↓ev_meets_4, ↓ev_found_5, ↓ev_meets_5, true_and, and_true, and_self, eq_self, not_true_eq_false, not_false_eq_true, ite_true, ite_false, true_or, or_true, false_or, or_false, false_and, and_false, ← zi_ni_0, ← zi_ni_1, ← zi_ni_2, ← zi_ni_3, ← zi_ni_4, ← zi_ni_5, ← zi_ni_6, ← zi_ni_7, ← zi_ni_8, ← zi_ni_9, ← zi_ni_10, ← zi_ni_12, ← zi_ni_24, ← zi_ni_25, ← zi_ni_40, ← zi_ni_45, ← zi_ni_47, ← zi_ni_48, ← zi_ni_95, ← zi_ni_96, ← zi_ni_97, ← zi_ni_100, ← zi_ni_144, ← zi_ni_288, nI_ltI, nI_leI, nI_eqI, nlt_T, nlt_F, nle_T, nle_F, neq_T, neq_F, nI_add, pk_mul, nI_clamp, q_inT, ng_lt, ng_tl, ng_le, ng_el, ng_eq, ng_qe, q_b0, q_b1, nar_0, nar_1, b01, b01', q_bn0, q_bn1, nar_n0, nar_n1, si_k, si_i, si_s, si_e, si_2, sl_1, sl_22, sl_k, sl_i, sl_s, sl_e, sp_1, sp_21, sp_22, sc_k, sc_i, sc_e, sc_2, mF_k, mM_k, mF_2, mM_2, mF_0, mM_11, ↓eu_X10_step, ↓eu_X11_step, ↓eu_X10_sideRefused, ↓eu_X0_hasSide, ↓eu_X11_askedFace, ↓eu_X11_beyond, ↓eu_X10_cellRefused, ↓eu_X10_boardRefused, ↓ev_hasCell, ↓eu_X11_askedFor, ↓eu_X11_askedCell, ↓eu_X11_isCell, ↓eu_X11_cells, x_lePred, pk_rem', n_rem, pk_div, ↓eu_X0_cells, ← zi_ni_200, g1, g2]
        exact h.met.mn (m := n + 1000) (by omega)
      · obtain ⟨d0, ⟨d1, f1⟩, -⟩ := hD
        have hk3 := hN'.1
        simp (disch := first | omega | decide) only [Nat.reduceAdd, Nat.reduceMul, ↓ev_bd, ↓ev_ck, ↓ev_if, ↓ev_lt, ↓ev_jn, ↓ev_so, ↓reduceIte, ↓ev_within, ↓ev_in, ↓ev_isBoard, ↓ev_isGauge, ↓ev_isNumber, ↓ev_isSix, ↓ev_isEight, ↓ev_foundN, ↓ev_meetsN, ↓ev_found_1, ↓ev_meets_1, ↓ev_found_2, ↓ev_meets_2, ↓ev_found_3, ↓ev_meets_3, ↓ev_found_4, ↓ev_meets_4, ↓ev_found_5, ↓ev_meets_5, true_and, and_true, and_self, eq_self, not_true_eq_false, not_false_eq_true, ite_true, ite_false, true_or, or_true, false_or, or_false, false_and, and_false, ← zi_ni_0, ← zi_ni_1, ← zi_ni_2, ← zi_ni_3, ← zi_ni_4, ← zi_ni_5, ← zi_ni_6, ← zi_ni_7, ← zi_ni_8, ← zi_ni_9, ← zi_ni_10, ← zi_ni_12, ← zi_ni_24, ← zi_ni_25, ← zi_ni_40, ← zi_ni_45, ← zi_ni_47, ← zi_ni_48, ← zi_ni_95, ← zi_ni_96, ← zi_ni_97, ← zi_ni_100, ← zi_ni_144, ← zi_ni_288, nI_ltI, nI_leI, nI_eqI, nlt_T, nlt_F, nle_T, nle_F, neq_T, neq_F, nI_add, pk_mul, nI_clamp, q_inT, ng_lt, ng_tl, ng_le, ng_el, ng_eq, ng_qe, q_b0, q_b1, nar_0, nar_1, b01, b01', q_bn0, q_bn1, nar_n0, nar_n1, si_k, si_i, si_s, si_e, si_2, sl_1, sl_22, sl_k, sl_i, sl_s, sl_e, sp_1, sp_21, sp_22, sc_k, sc_i, sc_e, sc_2, mF_k, mM_k, mF_2, mM_2, mF_0, mM_11, ↓eu_X10_step, ↓eu_X11_step, ↓eu_X10_sideRefused, ↓eu_X0_hasSide, ↓eu_X11_askedFace, ↓eu_X11_beyond, ↓eu_X10_cellRefused, ↓eu_X10_boardRefused, ↓ev_hasCell, ↓eu_X11_askedFor, ↓eu_X11_askedCell, ↓eu_X11_isCell, ↓eu_X11_cells, x_lePred, pk_rem', n_rem, pk_div, ↓eu_X0_cells, ← zi_ni_200, d0, d1, f1]
        refine steps (N := N) hj (by omega) N 0 n μ μ q_fu _ (by omega) (by rw [show q_fu = 4000 from rfl]; omega) (by omega) (by rw [mix_self]; exact h) d0 (fun d c' hf hm => ?_)
        skip
        rw [hf.1 74 rfl, f1, if_pos ((nI_leI (by decide) (by omega)).mpr (Nat.zero_le _))]
        refine (hm c' (by rw [mix_FC hf, mix_self]; exact h) q_fu (by rw [show q_fu = 4000 from rfl]; omega)).mono (fun r' m' q => ⟨q.1.symm, (mix_FM q.2.1 q.2.2).mn (by omega)⟩)
    · simp (disch := first | omega | decide) only [Nat.reduceAdd, Nat.reduceMul, ↓ev_bd, ↓ev_ck, ↓ev_if, ↓ev_lt, ↓ev_jn, ↓ev_so, ↓reduceIte, ↓ev_within, ↓ev_in, ↓ev_isBoard, ↓ev_isGauge, ↓ev_isNumber, ↓ev_isSix, ↓ev_isEight, ↓ev_foundN, ↓ev_meetsN, ↓ev_found_1, ↓ev_meets_1, ↓ev_found_2, ↓ev_meets_2, ↓ev_found_3, ↓ev_meets_3, ↓ev_found_4, ↓ev_meets_4, ↓ev_found_5, ↓ev_meets_5, true_and, and_true, and_self, eq_self, not_true_eq_false, not_false_eq_true, ite_true, ite_false, true_or, or_true, false_or, or_false, false_and, and_false, ← zi_ni_0, ← zi_ni_1, ← zi_ni_2, ← zi_ni_3, ← zi_ni_4, ← zi_ni_5, ← zi_ni_6, ← zi_ni_7, ← zi_ni_8, ← zi_ni_9, ← zi_ni_10, ← zi_ni_12, ← zi_ni_24, ← zi_ni_25, ← zi_ni_40, ← zi_ni_45, ← zi_ni_47, ← zi_ni_48, ← zi_ni_95, ← zi_ni_96, ← zi_ni_97, ← zi_ni_100, ← zi_ni_144, ← zi_ni_288, nI_ltI, nI_leI, nI_eqI, nlt_T, nlt_F, nle_T, nle_F, neq_T, neq_F, nI_add, pk_mul, nI_clamp, q_inT, ng_lt, ng_tl, ng_le, ng_el, ng_eq, ng_qe, q_b0, q_b1, nar_0, nar_1, b01, b01', q_bn0, q_bn1, nar_n0, nar_n1, si_k, si_i, si_s, si_e, si_2, sl_1, sl_22, sl_k, sl_i, sl_s, sl_e, sp_1, sp_21, sp_22, sc_k, sc_i, sc_e, sc_2, mF_k, mM_k, mF_2, mM_2, mF_0, mM_11, ↓eu_X10_step, ↓eu_X11_step, ↓eu_X10_sideRefused, ↓eu_X0_hasSide, ↓eu_X11_askedFace, ↓eu_X11_beyond, ↓eu_X10_cellRefused, ↓eu_X10_boardRefused, ↓ev_hasCell, ↓eu_X11_askedFor, ↓eu_X11_askedCell, ↓eu_X11_isCell, ↓eu_X11_cells, x_lePred, pk_rem', n_rem, pk_div, ↓eu_X0_cells, ← zi_ni_200, ha]
      exact h.succ.mn (m := n + 1000) (by omega)
  · simp (disch := first | omega | decide) only [Nat.reduceAdd, Nat.reduceMul, ↓ev_bd, ↓ev_ck, ↓ev_if, ↓ev_lt, ↓ev_jn, ↓ev_so, ↓reduceIte, ↓ev_within, ↓ev_in, ↓ev_isBoard, ↓ev_isGauge, ↓ev_isNumber, ↓ev_isSix, ↓ev_isEight, ↓ev_foundN, ↓ev_meetsN, ↓ev_found_1, ↓ev_meets_1, ↓ev_found_2, ↓ev_meets_2, ↓ev_found_3, ↓ev_meets_3, ↓ev_found_4, ↓ev_meets_4, ↓ev_found_5, ↓ev_meets_5, true_and, and_true, and_self, eq_self, not_true_eq_false, not_false_eq_true, ite_true, ite_false, true_or, or_true, false_or, or_false, false_and, and_false, ← zi_ni_0, ← zi_ni_1, ← zi_ni_2, ← zi_ni_3, ← zi_ni_4, ← zi_ni_5, ← zi_ni_6, ← zi_ni_7, ← zi_ni_8, ← zi_ni_9, ← zi_ni_10, ← zi_ni_12, ← zi_ni_24, ← zi_ni_25, ← zi_ni_40, ← zi_ni_45, ← zi_ni_47, ← zi_ni_48, ← zi_ni_95, ← zi_ni_96, ← zi_ni_97, ← zi_ni_100, ← zi_ni_144, ← zi_ni_288, nI_ltI, nI_leI, nI_eqI, nlt_T, nlt_F, nle_T, nle_F, neq_T, neq_F, nI_add, pk_mul, nI_clamp, q_inT, ng_lt, ng_tl, ng_le, ng_el, ng_eq, ng_qe, q_b0, q_b1, nar_0, nar_1, b01, b01', q_bn0, q_bn1, nar_n0, nar_n1, si_k, si_i, si_s, si_e, si_2, sl_1, sl_22, sl_k, sl_i, sl_s, sl_e, sp_1, sp_21, sp_22, sc_k, sc_i, sc_e, sc_2, mF_k, mM_k, mF_2, mM_2, mF_0, mM_11, ↓eu_X10_step, ↓eu_X11_step, ↓eu_X10_sideRefused, ↓eu_X0_hasSide, ↓eu_X11_askedFace, ↓eu_X11_beyond, ↓eu_X10_cellRefused, ↓eu_X10_boardRefused, ↓ev_hasCell, ↓eu_X11_askedFor, ↓eu_X11_askedCell, ↓eu_X11_isCell, ↓eu_X11_cells, x_lePred, pk_rem', n_rem, pk_div, ↓eu_X0_cells, ← zi_ni_200, x_le200, he]
    exact h.succ.mn (m := n + 1000) (by omega)
