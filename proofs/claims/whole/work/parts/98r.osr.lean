/-! alarm: the weights of the reference. -/
theorem FR.km {u t : qM} (h : FR u t) : Km u t := ⟨fun a i s _ q _ => h.ns a i s q, fun c _ _ => mB_pt (fun a ha => h.1 a 0 c (by omega)) (fun a s ha hs => h.1 a 0 _ (by omega)) (fun a s ha hs => h.1 a 0 _ (by omega)) (fun s hs => h.1 93 0 _ (by omega)) (fun a s ha hs => h.1 a 0 _ (by omega)), fun a _ => by rw [h.2]⟩
theorem FR.m6 {u t : qM} (h : FR u t) {c : Nat} : mB t c = mB u c := mB_pt (fun a ha => h.1 a 0 c (by omega)) (fun a s ha hs => h.1 a 0 _ (by omega)) (fun a s ha hs => h.1 a 0 _ (by omega)) (fun s hs => h.1 93 0 _ (by omega)) (fun a s ha hs => h.1 a 0 _ (by omega))
/-- the worlds of the reference are those of the class -/
def WM7 (μ u : qM) (m : Nat) : Prop := m ≤ 8 ∧ u.1 11 0 61 = nI m ∧ ∀ k, k < m → ∃ L, L ≤ 40 ∧ μ.1 33 2 k = nI L ∧ (tAl (μ.1 32 k) L 41 0 0).2 = none ∧ u.1 122 0 k = nI L ∧ (∀ i, i < L → u.1 123 0 (40 * k + i) = μ.1 32 k i) ∧ ∃ wt, wt ≤ 99 ∧ μ.1 34 0 k = nI wt ∧ u.1 124 0 k = nI wt
theorem scr_w {a i s : Nat} (h : a = 122 ∨ a = 123 ∨ a = 124 ∨ (a = 11 ∧ s = 61)) : ¬ scr a i s := by
  unfold scr
  omega
theorem WM7.km {μ u t : qM} {m : Nat} (h : WM7 μ u m) (hk : Km u t) : WM7 μ t m := by
  obtain ⟨h1, h2, h3⟩ := h
  refine ⟨h1, (hk.1 11 0 61 rfl (scr_w (by decide)) (fun z => by unfold hib at z; omega)).trans h2, fun k q => ?_⟩
  obtain ⟨L, a1, a2, a3, a4, a5, wt, a6, a7, a8⟩ := h3 k q
  exact ⟨L, a1, a2, a3, (hk.1 122 0 k rfl (scr_w (.inl rfl)) (fun z => by unfold hib at z; omega)).trans a4, fun i hi => (hk.1 123 0 _ rfl (scr_w (.inr (.inl rfl))) (fun z => by unfold hib at z; omega)).trans (a5 i hi), wt, a6, a7, (hk.1 124 0 k rfl (scr_w (.inr (.inr (.inl rfl)))) (fun z => by unfold hib at z; omega)).trans a8⟩
theorem flt_n : flt none = -nI 9 := rfl
theorem lpWM {T : qB → Option Int32} {b q m n : Nat} {y : Int32} {v : qB} {μ u0 : qM} {e1 : Int32 → qM → Option (Int32 × qM)} {P : Int32 → qM → Prop} (hb : b < 8) (hb6 : b ≠ 6) (hq : q < 48) (hn : n ≤ 1500000) (hw : WF n v) (hs : SZ (u0.1 66 0)) (hN : N6 u0) (hT : ∀ n v, n ≤ 2000000 → WF n v → tdM u0 v = T v) (h7 : WM7 μ u0 m) (hv : mB u0 b = v) : ∀ k i F (u : qM), i + k = m → k < F → Km u0 u → (∀ u', Km u0 u' → Ev (e1 (aws T q y μ v m) u') P) → Ev (L_X11_alarmOf_6 (nI b) (nI q) y F (aws T q y μ v i) (nI i) u e1) P := by
  have hm := h7.1
  intro k
  induction k with
  | zero =>
    intro i F u hi hF hc K
    obtain ⟨F, rfl⟩ : ∃ F', F = F' + 1 := ⟨F - 1, by omega⟩
    obtain rfl : i = m := by omega
    have u61 : u.1 11 0 61 = nI i := (h7.km hc).2.1
    have K := K u hc
    refine eu_L_X11_alarmOf_6.mpr ?_
    simp (disch := first | omega | decide) only [Nat.reduceAdd, Nat.reduceMul, ↓ev_bd, ↓ev_ck, ↓ev_if, ↓ev_lt, ↓ev_jn, ↓ev_so, ↓reduceIte, ↓ev_within, ↓ev_in, ↓ev_isBoard, ↓ev_isGauge, ↓ev_isNumber, ↓ev_isSix, ↓ev_isEight, ↓ev_foundN, ↓ev_meetsN, ↓ev_found_1, ↓ev_meets_1, ↓ev_found_2, ↓ev_meets_2, ↓ev_found_3, ↓ev_meets_3, ↓ev_found_4, ↓ev_meets_4, ↓ev_found_5, ↓ev_meets_5, true_and, and_true, and_self, eq_self, not_true_eq_false, not_false_eq_true, ite_true, ite_false, true_or, or_true, false_or, or_false, false_and, and_false, ← zi_ni_0, ← zi_ni_1, ← zi_ni_2, ← zi_ni_3, ← zi_ni_4, ← zi_ni_5, ← zi_ni_6, ← zi_ni_7, ← zi_ni_8, ← zi_ni_9, ← zi_ni_10, ← zi_ni_12, ← zi_ni_24, ← zi_ni_25, ← zi_ni_40, ← zi_ni_45, ← zi_ni_47, ← zi_ni_48, ← zi_ni_95, ← zi_ni_96, ← zi_ni_97, ← zi_ni_100, ← zi_ni_144, ← zi_ni_288, nI_ltI, nI_leI, nI_eqI, nlt_T, nlt_F, nle_T, nle_F, neq_T, neq_F, nI_add, pk_mul, nI_clamp, q_inT, ng_lt, ng_tl, ng_le, ng_el, ng_eq, ng_qe, q_b0, q_b1, nar_0, nar_1, b01, b01', q_bn0, q_bn1, nar_n0, nar_n1, si_k, si_i, si_s, si_e, si_2, sl_1, sl_22, sl_k, sl_i, sl_s, sl_e, sp_1, sp_21, sp_22, sc_k, sc_i, sc_e, sc_2, mF_k, mM_k, mF_2, mM_2, mF_0, mM_11, u61]
    exact K
  | succ k ih =>
    intro i F u hi hF hc K
    obtain ⟨F, rfl⟩ : ∃ F', F = F' + 1 := ⟨F - 1, by omega⟩
    have u61 : u.1 11 0 61 = nI m := (h7.km hc).2.1
    have hub : mB u b = v := (hc.2.1 b hb hb6).trans hv
    refine eu_L_X11_alarmOf_6.mpr ?_
    simp (disch := first | omega | decide) only [Nat.reduceAdd, Nat.reduceMul, ↓ev_ck, ↓ev_if, ↓ev_lt, ↓ev_jn, ↓ev_so, ↓reduceIte, ↓ev_within, ↓ev_in, ↓ev_isBoard, ↓ev_isGauge, ↓ev_isNumber, ↓ev_isSix, ↓ev_isEight, ↓ev_foundN, ↓ev_meetsN, ↓ev_found_1, ↓ev_meets_1, ↓ev_found_2, ↓ev_meets_2, ↓ev_found_3, ↓ev_meets_3, ↓ev_found_4, ↓ev_meets_4, ↓ev_found_5, ↓ev_meets_5, true_and, and_true, and_self, eq_self, not_true_eq_false, not_false_eq_true, ite_true, ite_false, true_or, or_true, false_or, or_false, false_and, and_false, ← zi_ni_0, ← zi_ni_1, ← zi_ni_2, ← zi_ni_3, ← zi_ni_4, ← zi_ni_5, ← zi_ni_6, ← zi_ni_7, ← zi_ni_8, ← zi_ni_9, ← zi_ni_10, ← zi_ni_12, ← zi_ni_24, ← zi_ni_25, ← zi_ni_40, ← zi_ni_45, ← zi_ni_47, ← zi_ni_48, ← zi_ni_95, ← zi_ni_96, ← zi_ni_97, ← zi_ni_100, ← zi_ni_144, ← zi_ni_288, nI_ltI, nI_leI, nI_eqI, nlt_T, nlt_F, nle_T, nle_F, neq_T, neq_F, nI_add, pk_mul, nI_clamp, q_inT, ng_lt, ng_tl, ng_le, ng_el, ng_eq, ng_qe, q_b0, q_b1, nar_0, nar_1, b01, b01', q_bn0, q_bn1, nar_n0, nar_n1, si_k, si_i, si_s, si_e, si_2, sl_1, sl_22, sl_k, sl_i, sl_s, sl_e, sp_1, sp_21, sp_22, sc_k, sc_i, sc_e, sc_2, mF_k, mM_k, mF_2, mM_2, mF_0, mM_11, u61]
    refine ev_bd.mpr (ev_bring (a := b) (b := 6) hb (by decide) hb6 (fun s => by rw [hub]; exact hw.2.1.2.2.2.1 s) (fun u1 t1 t2 t3 t4 => ?_))
    have c1 : Km u u1 := ⟨fun a i s q1 q2 q3 => t1 a i s (fun z => by rw [q1] at z; cases z.1) (fun z => q2 (by obtain ⟨rfl, rfl, z1, z2⟩ := z; unfold scr; omega)) (fun z => q2 (by obtain ⟨rfl, rfl, z1, z2⟩ := z; unfold scr; omega)), fun c _ h => t4 c h, fun a _ => by rw [t2]⟩
    have cc := hc.tr c1
    obtain ⟨L, hL, -, hno, e122, e123, wt, hwt, ewt, -⟩ := (h7.km cc).2.2 i (by omega)
    simp (disch := first | omega | decide) only [Nat.reduceAdd, Nat.reduceMul, ↓ev_ck, ↓ev_if, ↓ev_lt, ↓ev_jn, ↓ev_so, ↓reduceIte, ↓ev_within, ↓ev_in, ↓ev_isBoard, ↓ev_isGauge, ↓ev_isNumber, ↓ev_isSix, ↓ev_isEight, ↓ev_foundN, ↓ev_meetsN, ↓ev_found_1, ↓ev_meets_1, ↓ev_found_2, ↓ev_meets_2, ↓ev_found_3, ↓ev_meets_3, ↓ev_found_4, ↓ev_meets_4, ↓ev_found_5, ↓ev_meets_5, true_and, and_true, and_self, eq_self, not_true_eq_false, not_false_eq_true, ite_true, ite_false, true_or, or_true, false_or, or_false, false_and, and_false, ← zi_ni_0, ← zi_ni_1, ← zi_ni_2, ← zi_ni_3, ← zi_ni_4, ← zi_ni_5, ← zi_ni_6, ← zi_ni_7, ← zi_ni_8, ← zi_ni_9, ← zi_ni_10, ← zi_ni_12, ← zi_ni_24, ← zi_ni_25, ← zi_ni_40, ← zi_ni_45, ← zi_ni_47, ← zi_ni_48, ← zi_ni_95, ← zi_ni_96, ← zi_ni_97, ← zi_ni_100, ← zi_ni_144, ← zi_ni_288, nI_ltI, nI_leI, nI_eqI, nlt_T, nlt_F, nle_T, nle_F, neq_T, neq_F, nI_add, pk_mul, nI_clamp, q_inT, ng_lt, ng_tl, ng_le, ng_el, ng_eq, ng_qe, q_b0, q_b1, nar_0, nar_1, b01, b01', q_bn0, q_bn1, nar_n0, nar_n1, si_k, si_i, si_s, si_e, si_2, sl_1, sl_22, sl_k, sl_i, sl_s, sl_e, sp_1, sp_21, sp_22, sc_k, sc_i, sc_e, sc_2, mF_k, mM_k, mF_2, mM_2, mF_0, mM_11, e122]
    refine ev_bd.mpr (ev_reads (f := μ.1 32 i) (L := L) (B := 40 * i) ⟨hL, by rw [show q_al 123 0 = 320 by decide +kernel]; omega, by decide +kernel, by decide, by decide, by decide, e123⟩ (fun u2 g1 g2 => ?_))
    rw [hno, flt_n]
    have cc2 := (cc.tr g1.km).tr (Km.s60 (x := nI 0))
    have hlen := tAl_len (f := μ.1 32 i) (L := L) 41 0 0 (Nat.zero_le L)
    have hb2 : mB (q_si u2 11 0 60 (nI 0)) 6 = v := by rw [mB_o rfl, g1.m6, t3, hub]
    simp (disch := first | omega | decide) only [Nat.reduceAdd, Nat.reduceMul, ↓ev_bd, ↓ev_ck, ↓ev_if, ↓ev_lt, ↓ev_jn, ↓ev_so, ↓reduceIte, ↓ev_within, ↓ev_in, ↓ev_isBoard, ↓ev_isGauge, ↓ev_isNumber, ↓ev_isSix, ↓ev_isEight, ↓ev_foundN, ↓ev_meetsN, ↓ev_found_1, ↓ev_meets_1, ↓ev_found_2, ↓ev_meets_2, ↓ev_found_3, ↓ev_meets_3, ↓ev_found_4, ↓ev_meets_4, ↓ev_found_5, ↓ev_meets_5, true_and, and_true, and_self, eq_self, not_true_eq_false, not_false_eq_true, ite_true, ite_false, true_or, or_true, false_or, or_false, false_and, and_false, ← zi_ni_0, ← zi_ni_1, ← zi_ni_2, ← zi_ni_3, ← zi_ni_4, ← zi_ni_5, ← zi_ni_6, ← zi_ni_7, ← zi_ni_8, ← zi_ni_9, ← zi_ni_10, ← zi_ni_12, ← zi_ni_24, ← zi_ni_25, ← zi_ni_40, ← zi_ni_45, ← zi_ni_47, ← zi_ni_48, ← zi_ni_95, ← zi_ni_96, ← zi_ni_97, ← zi_ni_100, ← zi_ni_144, ← zi_ni_288, nI_ltI, nI_leI, nI_eqI, nlt_T, nlt_F, nle_T, nle_F, neq_T, neq_F, nI_add, pk_mul, nI_clamp, q_inT, ng_lt, ng_tl, ng_le, ng_el, ng_eq, ng_qe, q_b0, q_b1, nar_0, nar_1, b01, b01', q_bn0, q_bn1, nar_n0, nar_n1, si_k, si_i, si_s, si_e, si_2, sl_1, sl_22, sl_k, sl_i, sl_s, sl_e, sp_1, sp_21, sp_22, sc_k, sc_i, sc_e, sc_2, mF_k, mM_k, mF_2, mM_2, mF_0, mM_11, ↓eu_X11_plays]
    refine amL (T := T) (y := y) hq (tAl (μ.1 32 i) L 41 0 0).1 [] (tAl (μ.1 32 i) L 41 0 0).1 0 n 0 (q_si u2 11 0 60 (nI 0)) q_fu _ rfl rfl (by omega) (by rw [show q_fu = 4000 from rfl]; omega) (tAl_ok 41 0 0 (Nat.zero_le L)) (by omega) (by omega) (by rw [hb2]; exact hw) (by rw [show (q_si u2 11 0 60 (nI 0)).1 66 0 = u0.1 66 0 from funext (fun s => cc2.eq (by decide))]; exact hs) (hN.km cc2) (fun n v q1 q2 => by rw [cc2.td]; exact hT n v q1 q2) (MI.it ⟨si_k (by decide), si_k (by decide), si_s (by decide)⟩ g2) si_e (fun u3 d3 k3 e3 h3 => ?_)
    have cc3 := cc2.tr k3
    have IH := ih (i + 1) F u3 (by omega) (by omega) cc3 K
    obtain ⟨L2, hL2, e332, -, -, -, wt2, hwt2, ewt2, e124⟩ := (h7.km cc3).2.2 i (by omega)
    have ew : (tAl (μ.1 32 i) L 41 0 0).1 = wIt μ i := by
      obtain ⟨L3, _, e333, -, e1223, -⟩ := (h7.km cc).2.2 i (by omega)
      have hLL : L3 = L := by
        rw [e122] at e1223
        rwa [nI_eq (by omega) (by omega), eq_comm] at e1223
      unfold wIt
      rw [e333, nI_clamp (by omega), hLL]
    rw [hb2, ew] at e3
    have h9 : d3 < 2 ^ 31 := by omega
    by_cases z2 : alL T q y (wIt μ i) v = true
    · rw [aws_y z2, ewt2] at IH
      rw [if_pos z2] at e3
      simp (disch := first | omega | decide) only [Nat.reduceAdd, Nat.reduceMul, ↓ev_bd, ↓ev_ck, ↓ev_if, ↓ev_lt, ↓ev_jn, ↓ev_so, ↓reduceIte, ↓ev_within, ↓ev_in, ↓ev_isBoard, ↓ev_isGauge, ↓ev_isNumber, ↓ev_isSix, ↓ev_isEight, ↓ev_foundN, ↓ev_meetsN, ↓ev_found_1, ↓ev_meets_1, ↓ev_found_2, ↓ev_meets_2, ↓ev_found_3, ↓ev_meets_3, ↓ev_found_4, ↓ev_meets_4, ↓ev_found_5, ↓ev_meets_5, true_and, and_true, and_self, eq_self, not_true_eq_false, not_false_eq_true, ite_true, ite_false, true_or, or_true, false_or, or_false, false_and, and_false, ← zi_ni_0, ← zi_ni_1, ← zi_ni_2, ← zi_ni_3, ← zi_ni_4, ← zi_ni_5, ← zi_ni_6, ← zi_ni_7, ← zi_ni_8, ← zi_ni_9, ← zi_ni_10, ← zi_ni_12, ← zi_ni_24, ← zi_ni_25, ← zi_ni_40, ← zi_ni_45, ← zi_ni_47, ← zi_ni_48, ← zi_ni_95, ← zi_ni_96, ← zi_ni_97, ← zi_ni_100, ← zi_ni_144, ← zi_ni_288, nI_ltI, nI_leI, nI_eqI, nlt_T, nlt_F, nle_T, nle_F, neq_T, neq_F, nI_add, pk_mul, nI_clamp, q_inT, ng_lt, ng_tl, ng_le, ng_el, ng_eq, ng_qe, q_b0, q_b1, nar_0, nar_1, b01, b01', q_bn0, q_bn1, nar_n0, nar_n1, si_k, si_i, si_s, si_e, si_2, sl_1, sl_22, sl_k, sl_i, sl_s, sl_e, sp_1, sp_21, sp_22, sc_k, sc_i, sc_e, sc_2, mF_k, mM_k, mF_2, mM_2, mF_0, mM_11, e3, e124]
      exact IH
    · rw [aws_n z2] at IH
      rw [if_neg z2] at e3
      simp (disch := first | omega | decide) only [Nat.reduceAdd, Nat.reduceMul, ↓ev_bd, ↓ev_ck, ↓ev_if, ↓ev_lt, ↓ev_jn, ↓ev_so, ↓reduceIte, ↓ev_within, ↓ev_in, ↓ev_isBoard, ↓ev_isGauge, ↓ev_isNumber, ↓ev_isSix, ↓ev_isEight, ↓ev_foundN, ↓ev_meetsN, ↓ev_found_1, ↓ev_meets_1, ↓ev_found_2, ↓ev_meets_2, ↓ev_found_3, ↓ev_meets_3, ↓ev_found_4, ↓ev_meets_4, ↓ev_found_5, ↓ev_meets_5, true_and, and_true, and_self, eq_self, not_true_eq_false, not_false_eq_true, ite_true, ite_false, true_or, or_true, false_or, or_false, false_and, and_false, ← zi_ni_0, ← zi_ni_1, ← zi_ni_2, ← zi_ni_3, ← zi_ni_4, ← zi_ni_5, ← zi_ni_6, ← zi_ni_7, ← zi_ni_8, ← zi_ni_9, ← zi_ni_10, ← zi_ni_12, ← zi_ni_24, ← zi_ni_25, ← zi_ni_40, ← zi_ni_45, ← zi_ni_47, ← zi_ni_48, ← zi_ni_95, ← zi_ni_96, ← zi_ni_97, ← zi_ni_100, ← zi_ni_144, ← zi_ni_288, nI_ltI, nI_leI, nI_eqI, nlt_T, nlt_F, nle_T, nle_F, neq_T, neq_F, nI_add, pk_mul, nI_clamp, q_inT, ng_lt, ng_tl, ng_le, ng_el, ng_eq, ng_qe, q_b0, q_b1, nar_0, nar_1, b01, b01', q_bn0, q_bn1, nar_n0, nar_n1, si_k, si_i, si_s, si_e, si_2, sl_1, sl_22, sl_k, sl_i, sl_s, sl_e, sp_1, sp_21, sp_22, sc_k, sc_i, sc_e, sc_2, mF_k, mM_k, mF_2, mM_2, mF_0, mM_11, e3, e124]
      exact IH
