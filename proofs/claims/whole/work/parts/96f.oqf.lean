/-! step. -/
theorem FM.of {m m' : qM} (h : ∀ a i s, isM a = false → m'.1 a i s = m.1 a i s) (hl : m'.2 = m.2) : FM m m' := ⟨fun k q => funext (fun i => funext (fun s => h k i s q)), fun k _ => by rw [hl]⟩
theorem FC.of {c c' : qM} (h : ∀ a i s, isM a = true → c'.1 a i s = c.1 a i s) (hl : c'.2 = c.2) : FC c c' := ⟨fun k q => funext (fun i => funext (fun s => h k i s q)), by rw [hl]⟩
theorem isM_f {a : Nat} (h : isM a = false) : a ≠ 11 ∧ a < 60 := by
  unfold isM at h
  rw [decide_eq_false_iff_not] at h
  omega
theorem isM_t {a : Nat} (h : isM a = true) : a = 11 ∨ 60 ≤ a := by
  unfold isM at h
  rwa [decide_eq_true_iff] at h
theorem nxtA_s {v : qB} {t : Option Int32} {s : Nat} (h4 : s ≠ 4) (h5 : s ≠ 5) : nxtA t v 0 s = v 0 s := by
  cases t with
  | none => exact st0_s h4
  | some x => exact (rim_0 h5).trans (st0_s h4)
theorem DW_s {v v' : qB} {w h : Nat} (hd : DW v w h) (e1 : v' 0 1 = v 0 1) (e2 : v' 0 2 = v 0 2) : DW v' w h := by
  obtain ⟨d1, d2, d3, d4, d5, d6, d7, d8, d9, d10⟩ := hd
  exact ⟨e1.trans d1, e2.trans d2, d3, d4, d5, d6, (nW_s e1).trans d7, (nH_s e2).trans d8, (nN_s e1 e2).trans d9, d10⟩
theorem step1 {n b : Nat} {c m0 : qM} {P : Int32 → qM → Prop} (hn : n + 1 ≤ 2000000) (h : Rel n (mix c m0)) (hb : b < 6) (ht : c.1 2 b 10 = nI 1) (K : ∀ r c', FC c c' → (r = 0 ∨ r = 1) → c'.1 2 b 10 = nI 1 → (∀ m, Rel n (mix c m) → Ev (f_X11_stepOnce (nI b) m) (fun r' m' => r' = r ∧ FM m m' ∧ Rel (n + 1) (mix c' m'))) → P r c') : Ev (f_X10_stepWhole (nI b) c) P := by
  obtain ⟨hw, hs, hB, hG⟩ := h.cls hb ht
  obtain ⟨w, hh, hd⟩ := hw.gd.dw
  have hN : nN (cB c b) = w * hh := hd.2.2.2.2.2.2.2.2.1
  have h48 : w * hh ≤ 48 := hd.2.2.2.2.2.2.2.2.2
  have hw0 : 0 < w := by have := hd.2.2.1; omega
  simp (disch := first | omega | decide) only [Nat.reduceAdd, Nat.reduceMul, ↓ev_ck, ↓ev_if, ↓ev_lt, ↓ev_jn, ↓ev_so, ↓reduceIte, ↓ev_within, ↓ev_in, ↓ev_isBoard, ↓ev_isGauge, ↓ev_isNumber, ↓ev_isSix, ↓ev_isEight, ↓ev_foundN, ↓ev_meetsN, ↓ev_found_1, ↓ev_meets_1, ↓ev_found_2, ↓ev_meets_2, ↓ev_found_3, ↓ev_meets_3, ↓ev_found_4, ↓ev_meets_4, ↓ev_found_5, ↓ev_meets_5, true_and, and_true, and_self, eq_self, not_true_eq_false, not_false_eq_true, ite_true, ite_false, true_or, or_true, false_or, or_false, false_and, and_false, ← zi_ni_0, ← zi_ni_1, ← zi_ni_2, ← zi_ni_3, ← zi_ni_4, ← zi_ni_5, ← zi_ni_6, ← zi_ni_7, ← zi_ni_8, ← zi_ni_9, ← zi_ni_10, ← zi_ni_12, ← zi_ni_24, ← zi_ni_25, ← zi_ni_40, ← zi_ni_45, ← zi_ni_47, ← zi_ni_48, ← zi_ni_95, ← zi_ni_96, ← zi_ni_97, ← zi_ni_100, ← zi_ni_144, ← zi_ni_288, nI_ltI, nI_leI, nI_eqI, nlt_T, nlt_F, nle_T, nle_F, neq_T, neq_F, nI_add, pk_mul, nI_clamp, q_inT, ng_lt, ng_tl, ng_le, ng_el, ng_eq, ng_qe, q_b0, q_b1, nar_0, nar_1, b01, b01', q_bn0, q_bn1, nar_n0, nar_n1, si_k, si_i, si_s, si_e, si_2, sl_1, sl_22, sl_k, sl_i, sl_s, sl_e, sp_1, sp_21, sp_22, sc_k, sc_i, sc_e, sc_2, mF_k, mM_k, mF_2, mM_2, mF_0, mM_11, ↓eu_X10_stepWhole]
  refine ev_bd.mpr (ev_advance (n := n) (by omega) hw hs (fun htm c1 hA hc1 => ?_) (fun htm c1 hA hc1 => ?_))
  · simp (disch := first | omega | decide) only [Nat.reduceAdd, Nat.reduceMul, ↓ev_ck, ↓ev_if, ↓ev_lt, ↓ev_jn, ↓ev_so, ↓reduceIte, ↓ev_within, ↓ev_in, ↓ev_isBoard, ↓ev_isGauge, ↓ev_isNumber, ↓ev_isSix, ↓ev_isEight, ↓ev_foundN, ↓ev_meetsN, ↓ev_found_1, ↓ev_meets_1, ↓ev_found_2, ↓ev_meets_2, ↓ev_found_3, ↓ev_meets_3, ↓ev_found_4, ↓ev_meets_4, ↓ev_found_5, ↓ev_meets_5, true_and, and_true, and_self, eq_self, not_true_eq_false, not_false_eq_true, ite_true, ite_false, true_or, or_true, false_or, or_false, false_and, and_false, ← zi_ni_0, ← zi_ni_1, ← zi_ni_2, ← zi_ni_3, ← zi_ni_4, ← zi_ni_5, ← zi_ni_6, ← zi_ni_7, ← zi_ni_8, ← zi_ni_9, ← zi_ni_10, ← zi_ni_12, ← zi_ni_24, ← zi_ni_25, ← zi_ni_40, ← zi_ni_45, ← zi_ni_47, ← zi_ni_48, ← zi_ni_95, ← zi_ni_96, ← zi_ni_97, ← zi_ni_100, ← zi_ni_144, ← zi_ni_288, nI_ltI, nI_leI, nI_eqI, nlt_T, nlt_F, nle_T, nle_F, neq_T, neq_F, nI_add, pk_mul, nI_clamp, q_inT, ng_lt, ng_tl, ng_le, ng_el, ng_eq, ng_qe, q_b0, q_b1, nar_0, nar_1, b01, b01', q_bn0, q_bn1, nar_n0, nar_n1, si_k, si_i, si_s, si_e, si_2, sl_1, sl_22, sl_k, sl_i, sl_s, sl_e, sp_1, sp_21, sp_22, sc_k, sc_i, sc_e, sc_2, mF_k, mM_k, mF_2, mM_2, mF_0, mM_11]
    have e10 : c1.1 2 b 10 = nI 1 := (hA.1 2 b 10 (by omega) (by omega)).trans ht
    refine K _ c1 (FC.of (fun a i s q => hA.1 a i s (by have := isM_t q; omega) (by have := isM_t q; omega)) hA.2) (.inl rfl) e10 (fun m hm => ?_)
    obtain ⟨m1, m2, m3, m4, m5, m6⟩ := hm.mdl (by omega) hb ht
    refine ev_stepA (n := n) (by omega) (by omega) (by rw [m1]; exact hw) m2 (fun _ m' hMA hmb => ?_) (fun hf => by rw [m1, htm] at hf; cases hf)
    refine ⟨rfl, FM.of (fun a i s q => hMA.1 a i s (by have := isM_f q; omega) (by have := isM_f q; omega)) hMA.2, ?_⟩
    have e8 : (mix c1 m').1 8 = (mix c m).1 8 := by
      rw [mix_c rfl, mix_c rfl]
      exact funext (fun i => funext (fun s => hA.1 8 i s (by omega) (by omega)))
    have e9 : (mix c1 m').1 9 = (mix c m).1 9 := by
      rw [mix_c rfl, mix_c rfl]
      exact funext (fun i => funext (fun s => hA.1 9 i s (by omega) (by omega)))
    have e52 : (mix c1 m').1 52 = (mix c m).1 52 := by
      rw [mix_c rfl, mix_c rfl]
      exact funext (fun i => funext (fun s => hA.1 52 i s (by omega) (by omega)))
    have e53 : (mix c1 m').1 53 = (mix c m).1 53 := by
      rw [mix_c rfl, mix_c rfl]
      exact funext (fun i => funext (fun s => hA.1 53 i s (by omega) (by omega)))
    have eM : ∀ a, 104 < a → (mix c1 m').1 a = (mix c m).1 a := fun a q => by
      have hq : isM a = true := by unfold isM; rw [decide_eq_true_iff]; omega
      rw [mix_m hq, mix_m hq]
      exact funext (fun i => funext (fun s => hMA.1 a i s (by omega) (by omega)))
    have eN : ∀ x, x < 6 → nN (cB (mix c1 m') x) = nN (cB (mix c m) x) := by
      intro x hx
      rw [cB_mix, cB_mix]
      by_cases q : x = b
      · rw [q, hc1]
      · have e : ∀ a, a < 47 → c1.1 a x = c.1 a x := fun a q1 => funext (fun s => hA.1 a x s (by omega) (by omega))
        rw [show cB c1 x = cB c x from cB_ext (e _ (by decide)) (e _ (by decide)) (e _ (by decide)) (e _ (by decide)) (e _ (by decide)) (e _ (by decide)) (e _ (by decide)) (e _ (by decide)) (e _ (by decide)) (e _ (by decide)) (e _ (by decide))]
    have e10' : ∀ x, x < 6 → (mix c1 m').1 2 x 10 = (mix c m).1 2 x 10 := by
      intro x hx
      rw [mix_c rfl, mix_c rfl]
      exact hA.1 2 x 10 (by omega) (by omega)
    have hr := hm.succ
    exact Rel_step (X := cB c b) hm hb ht (fun a i s q1 q2 q3 q4 q5 => hA.1 a i s q1 q2) hA.2 (fun a i s q1 q2 q3 => hMA.1 a i s q1 (by omega)) hMA.2 hc1 (hmb.trans m1) rfl rfl rfl (hw.mono (Nat.le_succ n)) (R5_ext' eN e10' e8 (eM 105 (by decide)) (eM 106 (by decide)) (eM 107 (by decide)) hr.2.2.2.2.2.1) (R6_ext' eN e10' e9 e52 e53 (eM 108 (by decide)) (eM 109 (by decide)) (eM 110 (by decide)) (eM 111 (by decide)) (eM 112 (by decide)) hr.2.2.2.2.2.2.1)
  · have hX := WF_nxt (t := tdC c (cB c b)) hw htm
    have hdX : DW (nxt (tdC c (cB c b)) (cB c b)) w hh := DW_s hd (nxt_s (by decide) (by decide) (by decide)) (nxt_s (by decide) (by decide) (by decide))
    have hNX : nN (nxt (tdC c (cB c b)) (cB c b)) = w * hh := nxt_N.1.trans hN
    have hX0 : nxt (tdC c (cB c b)) (cB c b) 0 0 = cB c b 0 0 := nxt_s (by decide) (by decide) (by decide)
    have hX1 : nxt (tdC c (cB c b)) (cB c b) 0 1 = cB c b 0 1 := nxt_s (by decide) (by decide) (by decide)
    have hX2 : nxt (tdC c (cB c b)) (cB c b) 0 2 = cB c b 0 2 := nxt_s (by decide) (by decide) (by decide)
    have hA4 : nxtA (tdC c (cB c b)) (cB c b) 4 = nxt (tdC c (cB c b)) (cB c b) 4 := by rw [nxt_A, bs_t (by decide)]
    have hdA : DW (nxtA (tdC c (cB c b)) (cB c b)) w hh := DW_s hd (nxtA_s (by decide) (by decide)) (nxtA_s (by decide) (by decide))
    have hXA : nxt (tdC c (cB c b)) (cB c b) = bset (nxtA (tdC c (cB c b)) (cB c b)) 0 3 (cB c b 0 3 + nI 1) := nxt_A
    generalize nxt (tdC c (cB c b)) (cB c b) = X at *
    try simp (disch := first | omega | decide) only [Nat.reduceAdd, Nat.reduceMul, ↓ev_ck, ↓ev_if, ↓ev_lt, ↓ev_jn, ↓ev_so, ↓reduceIte, ↓ev_within, ↓ev_in, ↓ev_isBoard, ↓ev_isGauge, ↓ev_isNumber, ↓ev_isSix, ↓ev_isEight, ↓ev_foundN, ↓ev_meetsN, ↓ev_found_1, ↓ev_meets_1, ↓ev_found_2, ↓ev_meets_2, ↓ev_found_3, ↓ev_meets_3, ↓ev_found_4, ↓ev_meets_4, ↓ev_found_5, ↓ev_meets_5, true_and, and_true, and_self, eq_self, not_true_eq_false, not_false_eq_true, ite_true, ite_false, true_or, or_true, false_or, or_false, false_and, and_false, ← zi_ni_0, ← zi_ni_1, ← zi_ni_2, ← zi_ni_3, ← zi_ni_4, ← zi_ni_5, ← zi_ni_6, ← zi_ni_7, ← zi_ni_8, ← zi_ni_9, ← zi_ni_10, ← zi_ni_12, ← zi_ni_24, ← zi_ni_25, ← zi_ni_40, ← zi_ni_45, ← zi_ni_47, ← zi_ni_48, ← zi_ni_95, ← zi_ni_96, ← zi_ni_97, ← zi_ni_100, ← zi_ni_144, ← zi_ni_288, nI_ltI, nI_leI, nI_eqI, nlt_T, nlt_F, nle_T, nle_F, neq_T, neq_F, nI_add, pk_mul, nI_clamp, q_inT, ng_lt, ng_tl, ng_le, ng_el, ng_eq, ng_qe, q_b0, q_b1, nar_0, nar_1, b01, b01', q_bn0, q_bn1, nar_n0, nar_n1, si_k, si_i, si_s, si_e, si_2, sl_1, sl_22, sl_k, sl_i, sl_s, sl_e, sp_1, sp_21, sp_22, sc_k, sc_i, sc_e, sc_2, mF_k, mM_k, mF_2, mM_2, mF_0, mM_11]
    rw [hN] at hB hG
    refine lp_cb (v := X) hb hdX hX.2.1.2.2.1 (by rw [← hc1]; exact SN.mk) (fun k hk hq => by
      rw [hA.1 8 k 0 (by omega) (by omega)] at hq
      rw [hA.1 8 k 1 (by omega) (by omega), hA.1 8 k 2 (by omega) (by omega)]
      exact hB k hk hq) (fun c2 p1 p2 p3 => ?_)
    have q8 : ∀ k s, c1.1 8 k s = c.1 8 k s := fun k s => hA.1 8 k s (by omega) (by omega)
    have q9 : ∀ k s, c1.1 9 k s = c.1 9 k s := fun k s => hA.1 9 k s (by omega) (by omega)
    have hc2 : cB c2 b = X := by
      rw [← hc1]
      apply cB_ext <;> exact funext (fun s => p1 _ b s (by omega))
    refine lp_cg (v := X) (N := w * hh) hb h48 (by rw [← hc2]; exact SN.mk) (fun g hg hq => by
      rw [p1 9 g 2 (by omega), q9] at hq
      rw [p1 9 g 3 (by omega), p1 9 g 4 (by omega), p1 9 g 5 (by omega), q9, q9, q9]
      exact hG g hg hq) (fun c3 r1 r2 r3 => ?_)
    have hc3 : cB c3 b = X := by
      rw [← hc2]
      apply cB_ext <;> exact funext (fun s => r1 _ b s (by omega))
    have F : ∀ a i s, a < 47 ∨ 50 < a → ¬ (i = b ∧ (a = 38 ∨ a = 39 ∨ a = 40 ∨ (a = 2 ∧ (s = 14 ∨ s = 15 ∨ s = 16)))) → ¬ (a = 8 ∧ i < 8 ∧ s = 1) → ¬ (i < 8 ∧ (a = 52 ∨ a = 53 ∨ (a = 9 ∧ (s = 4 ∨ s = 5)))) → c3.1 a i s = c.1 a i s := fun a i s q1 q2 q3 q4 => by
      rw [r1 a i s q4, p1 a i s q3]
      exact hA.1 a i s q1 q2
    have lC : c3.2 = c.2 := by rw [r2, p2, hA.2]
    try simp (disch := first | omega | decide) only [Nat.reduceAdd, Nat.reduceMul, ↓ev_ck, ↓ev_if, ↓ev_lt, ↓ev_jn, ↓ev_so, ↓reduceIte, ↓ev_within, ↓ev_in, ↓ev_isBoard, ↓ev_isGauge, ↓ev_isNumber, ↓ev_isSix, ↓ev_isEight, ↓ev_foundN, ↓ev_meetsN, ↓ev_found_1, ↓ev_meets_1, ↓ev_found_2, ↓ev_meets_2, ↓ev_found_3, ↓ev_meets_3, ↓ev_found_4, ↓ev_meets_4, ↓ev_found_5, ↓ev_meets_5, true_and, and_true, and_self, eq_self, not_true_eq_false, not_false_eq_true, ite_true, ite_false, true_or, or_true, false_or, or_false, false_and, and_false, ← zi_ni_0, ← zi_ni_1, ← zi_ni_2, ← zi_ni_3, ← zi_ni_4, ← zi_ni_5, ← zi_ni_6, ← zi_ni_7, ← zi_ni_8, ← zi_ni_9, ← zi_ni_10, ← zi_ni_12, ← zi_ni_24, ← zi_ni_25, ← zi_ni_40, ← zi_ni_45, ← zi_ni_47, ← zi_ni_48, ← zi_ni_95, ← zi_ni_96, ← zi_ni_97, ← zi_ni_100, ← zi_ni_144, ← zi_ni_288, nI_ltI, nI_leI, nI_eqI, nlt_T, nlt_F, nle_T, nle_F, neq_T, neq_F, nI_add, pk_mul, nI_clamp, q_inT, ng_lt, ng_tl, ng_le, ng_el, ng_eq, ng_qe, q_b0, q_b1, nar_0, nar_1, b01, b01', q_bn0, q_bn1, nar_n0, nar_n1, si_k, si_i, si_s, si_e, si_2, sl_1, sl_22, sl_k, sl_i, sl_s, sl_e, sp_1, sp_21, sp_22, sc_k, sc_i, sc_e, sc_2, mF_k, mM_k, mF_2, mM_2, mF_0, mM_11]
    refine K _ c3 (FC.of (fun a i s q => F a i s (by have := isM_t q; omega) (by have := isM_t q; omega) (by have := isM_t q; omega) (by have := isM_t q; omega)) lC) (.inr rfl) ((F 2 b 10 (by omega) (by omega) (by omega) (by omega)).trans ht) (fun m hm => ?_)
    obtain ⟨m1, m2, m3, m4, m5, m6⟩ := hm.mdl (by omega) hb ht
    rw [hN] at m3 m4
    refine ev_stepA (n := n) (by omega) (by omega) (by rw [m1]; exact hw) m2 (fun hf => by rw [m1, htm] at hf; cases hf) (fun _ u1 hMA hu1 => ?_)
    rw [m1, m6] at hu1
    have y105 : ∀ k, u1.1 105 0 k = m.1 105 0 k := fun k => hMA.1 105 0 k (by omega) (by omega)
    have y106 : ∀ k, u1.1 106 0 k = m.1 106 0 k := fun k => hMA.1 106 0 k (by omega) (by omega)
    have y107 : ∀ k, u1.1 107 0 k = m.1 107 0 k := fun k => hMA.1 107 0 k (by omega) (by omega)
    refine lp_mb (v := nxtA (tdC c (cB c b)) (cB c b)) (by omega) hdA (by rw [hA4]; exact hX.2.1.2.2.1) (by rw [← hu1]; exact SM.mk) (fun k hk hq => by
      rw [y105] at hq
      rw [y106, y107]
      exact m3 k hk hq) (fun u2 s1 s2 s3 => ?_)
    have hu2 : mB u2 b = nxtA (tdC c (cB c b)) (cB c b) := by
      rw [← hu1]
      apply mB_ext <;> exact funext (fun i => funext (fun s => s1 _ i s (by omega)))
    have hst : u2.1 81 0 b = cB c b 0 3 := (congrFun (congrFun hu2 0) 3).trans (nxtA_s (by decide) (by decide))
    simp (disch := first | omega | decide) only [Nat.reduceAdd, Nat.reduceMul, ↓ev_ck, ↓ev_if, ↓ev_lt, ↓ev_jn, ↓ev_so, ↓reduceIte, ↓ev_within, ↓ev_in, ↓ev_isBoard, ↓ev_isGauge, ↓ev_isNumber, ↓ev_isSix, ↓ev_isEight, ↓ev_foundN, ↓ev_meetsN, ↓ev_found_1, ↓ev_meets_1, ↓ev_found_2, ↓ev_meets_2, ↓ev_found_3, ↓ev_meets_3, ↓ev_found_4, ↓ev_meets_4, ↓ev_found_5, ↓ev_meets_5, true_and, and_true, and_self, eq_self, not_true_eq_false, not_false_eq_true, ite_true, ite_false, true_or, or_true, false_or, or_false, false_and, and_false, ← zi_ni_0, ← zi_ni_1, ← zi_ni_2, ← zi_ni_3, ← zi_ni_4, ← zi_ni_5, ← zi_ni_6, ← zi_ni_7, ← zi_ni_8, ← zi_ni_9, ← zi_ni_10, ← zi_ni_12, ← zi_ni_24, ← zi_ni_25, ← zi_ni_40, ← zi_ni_45, ← zi_ni_47, ← zi_ni_48, ← zi_ni_95, ← zi_ni_96, ← zi_ni_97, ← zi_ni_100, ← zi_ni_144, ← zi_ni_288, nI_ltI, nI_leI, nI_eqI, nlt_T, nlt_F, nle_T, nle_F, neq_T, neq_F, nI_add, pk_mul, nI_clamp, q_inT, ng_lt, ng_tl, ng_le, ng_el, ng_eq, ng_qe, q_b0, q_b1, nar_0, nar_1, b01, b01', q_bn0, q_bn1, nar_n0, nar_n1, si_k, si_i, si_s, si_e, si_2, sl_1, sl_22, sl_k, sl_i, sl_s, sl_e, sp_1, sp_21, sp_22, sc_k, sc_i, sc_e, sc_2, mF_k, mM_k, mF_2, mM_2, mF_0, mM_11, hst]
    have hu3 : mB (q_si u2 81 0 b (cB c b 0 3 + nI 1)) b = X := by rw [mW_0_3, hu2, ← hXA]
    have z108 : ∀ g, (q_si u2 81 0 b (cB c b 0 3 + nI 1)).1 108 0 g = m.1 108 0 g := fun g => by rw [si_k (by decide), s1 108 0 g (by omega)]; exact hMA.1 108 0 g (by omega) (by omega)
    have z109 : ∀ g, (q_si u2 81 0 b (cB c b 0 3 + nI 1)).1 109 0 g = m.1 109 0 g := fun g => by rw [si_k (by decide), s1 109 0 g (by omega)]; exact hMA.1 109 0 g (by omega) (by omega)
    have z110 : ∀ g, (q_si u2 81 0 b (cB c b 0 3 + nI 1)).1 110 0 g = m.1 110 0 g := fun g => by rw [si_k (by decide), s1 110 0 g (by omega)]; exact hMA.1 110 0 g (by omega) (by omega)
    have z111 : ∀ g, (q_si u2 81 0 b (cB c b 0 3 + nI 1)).1 111 0 g = m.1 111 0 g := fun g => by rw [si_k (by decide), s1 111 0 g (by omega)]; exact hMA.1 111 0 g (by omega) (by omega)
    have z112 : ∀ g, (q_si u2 81 0 b (cB c b 0 3 + nI 1)).1 112 0 g = m.1 112 0 g := fun g => by rw [si_k (by decide), s1 112 0 g (by omega)]; exact hMA.1 112 0 g (by omega) (by omega)
    refine lp_mg (v := X) (N := w * hh) (by omega) h48 (by rw [← hu3]; exact SM.mk) (fun g hg hq => by
      rw [z108] at hq
      rw [z109, z110]
      exact m4 g hg hq) (fun g hg hq h48' s hs' => by
      rw [z108] at hq
      rw [z110] at h48'
      rw [z112]
      exact m5 g hg hq h48' s hs') (fun u4 t1 t2 t3 => ?_)
    have hu4 : mB u4 b = X := by
      rw [← hu3]
      apply mB_ext <;> exact funext (fun i => funext (fun s => t1 _ i s (by omega)))
    have G : ∀ a i s, a < 101 ∨ 104 < a → ¬ (i = 0 ∧ (((a = 81 ∨ a = 82 ∨ a = 83) ∧ s = b) ∨ (a = 92 ∧ 48 * b ≤ s ∧ s < 48 * b + 48) ∨ (a = 93 ∧ 144 * b ≤ s ∧ s < 144 * b + 144) ∨ (a = 94 ∧ 96 * b ≤ s ∧ s < 96 * b + 96) ∨ (a = 106 ∧ s < 8) ∨ a = 110 ∨ a = 111 ∨ a = 112)) → u4.1 a i s = m.1 a i s := fun a i s q1 q2 => by
      rw [t1 a i s (by omega), si_n (by omega), s1 a i s (by omega)]
      exact hMA.1 a i s q1 (by omega)
    have lM : u4.2 = m.2 := by
      rw [t2]
      show u2.2 = m.2
      rw [s2, hMA.2]
    refine ev_so.mpr ⟨rfl, FM.of (fun a i s q => G a i s (by have := isM_f q; omega) (by have := isM_f q; omega)) lM, ?_⟩
    refine Rel_step (X := X) hm hb ht (fun a i s q1 q2 q3 q4 q5 => F a i s q1 q2 q3 q4) lC (fun a i s q1 q2 q3 => G a i s q1 q2) lM hc3 hu4 hX0 hX1 hX2 hX ?_ ?_
    · intro k hk
      rw [mix_c (k := 8) rfl, mix_m (k := 105) rfl, mix_m (k := 106) rfl, mix_m (k := 107) rfl]
      rw [G 105 0 k (by omega) (by omega), G 107 0 k (by omega) (by omega), F 8 k 0 (by omega) (by omega) (by omega) (by omega), F 8 k 2 (by omega) (by omega) (by omega) (by omega)]
      have old := hm.2.2.2.2.2.1 k hk
      rw [mix_c (k := 8) rfl, mix_m (k := 105) rfl, mix_m (k := 106) rfl, mix_m (k := 107) rfl] at old
      rcases old with old | ⟨x, cc, d, hx, a1, a2, a3, a4, a5, a6, a7, a8, a9, a10⟩
      · exact .inl old
      · rw [cB_mix] at a4
        rw [mix_c (k := 2) rfl] at a1
        by_cases hxb : x = b
        · subst hxb
          rw [hN] at a4
          have b1 := (p3 k hk).2 (by rw [q8]; exact a2) cc d a4 a8 (by rw [q8]; exact a5) (by rw [q8]; exact a9)
          have b2 := (s3 k hk).2 (by rw [y105]; exact a3) cc d a4 a8 (by rw [y106]; exact a6) (by rw [y107]; exact a10)
          have b3 : drF (nxtA (tdC c (cB c x)) (cB c x)) w (w * hh) cc d = drF X w (w * hh) cc d := by
            unfold drF fA
            rw [hA4]
          refine .inr ⟨x, drF X w (w * hh) cc d, d, hx, ?_, a2, a3, ?_, ?_, ?_, a7, a8, a9, a10⟩
          · rw [mix_c (k := 2) rfl, F 2 x 10 (by omega) (by omega) (by omega) (by omega)]; exact a1
          · rw [cB_mix, hc3, hNX]
            exact drF_lt hw0 a4 a7
          · rw [r1 8 k 1 (by omega)]
            exact b1
          · rw [t1 106 0 k (by omega), si_k (by decide), b2, b3]
        · have hxn : ¬ nI x = nI b := fun z => hxb ((nI_eq (by omega) (by omega)).mp z)
          have b1 := (p3 k hk).1 (by rw [q8, a2]; exact hxn)
          have b2 := (s3 k hk).1 (by rw [y105, a3]; exact hxn)
          refine .inr ⟨x, cc, d, hx, ?_, a2, a3, ?_, ?_, ?_, a7, a8, a9, a10⟩
          · rw [mix_c (k := 2) rfl, F 2 x 10 (by omega) (by omega) (by omega) (by omega)]; exact a1
          · rw [cB_mix]
            have e : ∀ a, a < 47 → a ≠ 8 → a ≠ 9 → c3.1 a x = c.1 a x := fun a z1 z2 z3 => funext (fun s => F a x s (by omega) (by omega) (by omega) (by omega))
            rw [show cB c3 x = cB c x from cB_ext (e _ (by decide) (by decide) (by decide)) (e _ (by decide) (by decide) (by decide)) (e _ (by decide) (by decide) (by decide)) (e _ (by decide) (by decide) (by decide)) (e _ (by decide) (by decide) (by decide)) (e _ (by decide) (by decide) (by decide)) (e _ (by decide) (by decide) (by decide)) (e _ (by decide) (by decide) (by decide)) (e _ (by decide) (by decide) (by decide)) (e _ (by decide) (by decide) (by decide)) (e _ (by decide) (by decide) (by decide))]
            exact a4
          · rw [r1 8 k 1 (by omega), b1, q8]; exact a5
          · rw [t1 106 0 k (by omega), si_k (by decide), b2, y106]; exact a6
    · intro g hg
      rw [mix_c (k := 9) rfl, mix_c (k := 52) rfl, mix_c (k := 53) rfl, mix_m (k := 108) rfl, mix_m (k := 109) rfl, mix_m (k := 110) rfl, mix_m (k := 111) rfl, mix_m (k := 112) rfl]
      rw [G 108 0 g (by omega) (by omega), G 109 0 g (by omega) (by omega), F 9 g 2 (by omega) (by omega) (by omega) (by omega), F 9 g 3 (by omega) (by omega) (by omega) (by omega)]
      have old := hm.2.2.2.2.2.2.1 g hg
      rw [mix_c (k := 9) rfl, mix_c (k := 52) rfl, mix_c (k := 53) rfl, mix_m (k := 108) rfl, mix_m (k := 109) rfl, mix_m (k := 110) rfl, mix_m (k := 111) rfl, mix_m (k := 112) rfl] at old
      rcases old with old | ⟨x, cc, f, nn, hx, a1, a2, a3, a4, a5, a6, a7, a8, a9, a10, a11, a12⟩
      · exact .inl old
      · rw [cB_mix] at a4
        rw [mix_c (k := 2) rfl] at a1
        have x10 : c3.1 2 x 10 = 1 := by rw [F 2 x 10 (by omega) (by omega) (by omega) (by omega)]; exact a1
        by_cases hxb : x = b
        · subst hxb
          rw [hN] at a4
          have w9 : ∀ s, c2.1 9 g s = c.1 9 g s := fun s => by rw [p1 9 g s (by omega), q9]
          have w52 : ∀ s, c2.1 52 g s = c.1 52 g s := fun s => by rw [p1 52 g s (by omega)]; exact hA.1 52 g s (by omega) (by omega)
          have w53 : ∀ s, c2.1 53 g s = c.1 53 g s := fun s => by rw [p1 53 g s (by omega)]; exact hA.1 53 g s (by omega) (by omega)
          obtain ⟨b1, b2, b3, b4⟩ := (r3 g hg).2 (by rw [w9]; exact a2) cc f nn a4 a7 a8 (by rw [w9]; exact a5) (by rw [w9]; exact a9) (by rw [w9]; exact a10)
          obtain ⟨b5, b6, b7⟩ := (t3 g hg).2 (by rw [z108]; exact a3) cc nn a4 a8 (by rw [z109]; exact a6) (by rw [z110]; exact a11)
          have hlv : -1000 ≤ (lev X cc).toInt ∧ (lev X cc).toInt ≤ 101000 := by
            have y1 := hX.2.1.1 cc
            have y2 := hX.2.1.2.1 cc
            unfold lev
            rw [z_add (by omega) (by omega)]
            omega
          refine .inr ⟨x, cc, (if nn = 48 then (f + 1) % 48 else f), (if nn = 48 then 48 else nn + 1), hx, by rw [mix_c (k := 2) rfl]; exact x10, a2, a3, by rw [cB_mix, hc3, hNX]; exact a4, a5, a6, by split <;> omega, by split <;> omega, b1, b2, b5, fun i hi => ?_⟩
          by_cases h48n : nn = 48
          · rw [if_pos h48n] at hi ⊢
            rw [b6 i (by omega), b7 i (by omega), if_pos h48n, if_pos h48n, b3, b4]
            have hf' : (f + nn) % 48 = f := by omega
            rw [hf']
            by_cases hi47 : i = 47
            · have e47 : ((f + 1) % 48 + i) % 48 = f := by omega
              rw [if_pos hi47, if_pos hi47, if_pos e47, if_pos e47]
              exact ⟨rfl, rfl, .inl rfl, hlv⟩
            · have e47 : ¬ ((f + 1) % 48 + i) % 48 = f := by omega
              have es : ((f + 1) % 48 + i) % 48 = (f + (i + 1)) % 48 := by omega
              rw [if_neg hi47, if_neg hi47, if_neg e47, if_neg e47, es, w52, w53, z111, z112]
              exact a12 (i + 1) (by omega)
          · rw [if_neg h48n] at hi ⊢
            rw [b6 i (by omega), b7 i (by omega), if_neg h48n, if_neg h48n, b3, b4]
            by_cases hin : i = nn
            · rw [if_pos hin, if_pos hin, hin, if_pos rfl, if_pos rfl]
              exact ⟨rfl, rfl, .inl rfl, hlv⟩
            · have e : ¬ (f + i) % 48 = (f + nn) % 48 := by omega
              rw [if_neg hin, if_neg hin, if_neg e, if_neg e, w52, w53, z111, z112]
              exact a12 i (by omega)
        · have hxn : ¬ nI x = nI b := fun z => hxb ((nI_eq (by omega) (by omega)).mp z)
          obtain ⟨b1, b2, b3⟩ := (r3 g hg).1 (by rw [p1 9 g 2 (by omega), q9, a2]; exact hxn)
          obtain ⟨b4, b5⟩ := (t3 g hg).1 (by rw [z108, a3]; exact hxn)
          refine .inr ⟨x, cc, f, nn, hx, by rw [mix_c (k := 2) rfl]; exact x10, a2, a3, ?_, a5, a6, a7, a8, ?_, ?_, ?_, fun i hi => ?_⟩
          · rw [cB_mix]
            have e : ∀ a, a < 47 → a ≠ 8 → a ≠ 9 → c3.1 a x = c.1 a x := fun a z1 z2 z3 => funext (fun s => F a x s (by omega) (by omega) (by omega) (by omega))
            rw [show cB c3 x = cB c x from cB_ext (e _ (by decide) (by decide) (by decide)) (e _ (by decide) (by decide) (by decide)) (e _ (by decide) (by decide) (by decide)) (e _ (by decide) (by decide) (by decide)) (e _ (by decide) (by decide) (by decide)) (e _ (by decide) (by decide) (by decide)) (e _ (by decide) (by decide) (by decide)) (e _ (by decide) (by decide) (by decide)) (e _ (by decide) (by decide) (by decide)) (e _ (by decide) (by decide) (by decide)) (e _ (by decide) (by decide) (by decide))]
            exact a4
          · rw [b1, p1 9 g 4 (by omega), q9]; exact a9
          · rw [b1, p1 9 g 5 (by omega), q9]; exact a10
          · rw [b4, z110]; exact a11
          · obtain ⟨c1', c2'⟩ := b5 i (by omega)
            rw [c1', c2', z111, z112, b2, b3, p1 52 g _ (by omega), p1 53 g _ (by omega), hA.1 52 g _ (by omega) (by omega), hA.1 53 g _ (by omega) (by omega)]
            exact a12 i hi

