/-! mirror: the reference turns all cells. -/
theorem zi_ni_864 : nI 864 = (864 : Int32) := rfl
theorem zi_ni_576 : nI 576 = (576 : Int32) := rfl
theorem lp_mturn {b w h : Nat} {v : qB} {u : qM} {e : qM → Option (Int32 × qM)} {P : Int32 → qM → Prop} (hb : b < 6) (hd : DW v w h) (h5 : ∀ s, v 5 s = 0 ∨ v 5 s = 1) (hv6 : mB u 6 = v) (hvb : mB u b = v) (K : ∀ t, MT b w h v u (w * h) (w * h) (3 * (w * h)) (w * h) (w * h) (w * h) (w * h) t → Ev (e t) P) : Ev (L_X11_mirror_74 (nI b) q_fu (nI 0) u e) P := by
  obtain ⟨d1, d2, h1, h2, h3, h4, d7, d8, d9, hN⟩ := id hd
  have u75 : u.1 75 0 b = nI w := (congrFun (congrFun hvb 0) 1).trans d1
  have u76 : u.1 76 0 b = nI h := (congrFun (congrFun hvb 0) 2).trans d2
  refine lpc (fun f x t => L_X11_mirror_74 (nI b) f x t e) (fun c t => MT b w h v u c c (3 * c) c c c c t) (w * h) (by omega) u ⟨fun _ _ _ _ => rfl, rfl, fun s hs => ?_, fun s hs => ?_, fun s hs => ?_, fun s hs _ => ?_, fun s hs _ => ?_, fun s hs _ => ?_, fun s hs _ => ?_⟩ ?_ ?_
  · rw [Ms_0, ← mR_1 hs, hvb]
  · rw [Ms_0, ← mR_2 hs, hvb]
  · rw [Ms_0, ← mR_3 hs, hvb]
  · rw [Ms_0, ← mR_4 hs, hvb]
  · rw [Ms_0, ← mR_4 hs, hvb]
  · rw [Ms_0, ← mR_5 hs, hvb]
  · rw [Ms_0, ← mR_5 hs, hvb]
  · rintro f c t hc hT K2
    have hop := opw_f h1 h2 hc
    have f1 := hT.1
    have e75 : t.1 75 0 b = nI w := (f1 75 0 b (by omega)).trans u75
    have e76 : t.1 76 0 b = nI h := (f1 76 0 b (by omega)).trans u76
    have r1 : t.1 91 0 (288 + c) = v 1 c := by rw [f1 91 0 _ (by omega), show 288 + c = 48 * 6 + c from rfl, ← mR_1 (by omega), hv6]
    have r2 : t.1 92 0 (288 + c) = v 2 c := by rw [f1 92 0 _ (by omega), show 288 + c = 48 * 6 + c from rfl, ← mR_2 (by omega), hv6]
    have r3 : ∀ k, k < 3 → t.1 93 0 (864 + (48 * k + c)) = v 3 (48 * k + c) := fun k hk => by rw [f1 93 0 _ (by omega), show 864 + (48 * k + c) = 144 * 6 + (48 * k + c) from rfl, ← mR_3 (by omega), hv6]
    have r30 : t.1 93 0 (864 + c) = v 3 (48 * 0 + c) := by rw [← r3 0 (by decide), show 864 + (48 * 0 + c) = 864 + c by omega]
    have r31 : t.1 93 0 (912 + c) = v 3 (48 * 1 + c) := by rw [← r3 1 (by decide), show 864 + (48 * 1 + c) = 912 + c by omega]
    have r32 : t.1 93 0 (960 + c) = v 3 (48 * 2 + c) := by rw [← r3 2 (by decide), show 864 + (48 * 2 + c) = 960 + c by omega]
    have r4 : t.1 94 0 (576 + 2 * c + 1) = v 4 (2 * c + 1) := by rw [f1 94 0 _ (by omega), show 576 + 2 * c + 1 = 96 * 6 + (2 * c + 1) by omega, ← mR_4 (by omega), hv6]
    have r4e : t.1 94 0 (576 + 2 * c) = v 4 (2 * c) := by rw [f1 94 0 _ (by omega), show 576 + 2 * c = 96 * 6 + 2 * c from rfl, ← mR_4 (by omega), hv6]
    have r5 : t.1 95 0 (576 + 2 * c + 1) = v 5 (2 * c + 1) := by rw [f1 95 0 _ (by omega), show 576 + 2 * c + 1 = 96 * 6 + (2 * c + 1) by omega, ← mR_5 (by omega), hv6]
    have r5e : t.1 95 0 (576 + 2 * c) = v 5 (2 * c) := by rw [f1 95 0 _ (by omega), show 576 + 2 * c = 96 * 6 + 2 * c from rfl, ← mR_5 (by omega), hv6]
    have n5 : vp_nar .boolean (v 5 (2 * c + 1)) = v 5 (2 * c + 1) := nar_b (h5 _)
    have n5e : vp_nar .boolean (v 5 (2 * c)) = v 5 (2 * c) := nar_b (h5 _)
    have uo := uno (N := w * h) (c := c)
    have DO : Do (w * h) (2 * c + 1) = true := decide_eq_true ⟨by omega, by omega⟩
    have KO : hf2 (2 * c + 1) = c := by unfold hf2; omega
    have KE : hf2 (2 * c) = c := by unfold hf2; omega
    have base : ∀ t1, (∃ s1 s2 s3' s4 s5 s6 s7, s1 = 48 * b + opw w c ∧ s2 = 48 * b + opw w c ∧ s3' = 144 * b + opw w c ∧ s4 = 144 * b + 48 + opw w c ∧ s5 = 144 * b + 96 + opw w c ∧ s6 = 96 * b + 2 * opw w c + 1 ∧ s7 = 96 * b + 2 * opw w c + 1 ∧ t1 = q_si (q_si (q_si (q_si (q_si (q_si (q_si t 91 0 s1 (v 1 c)) 92 0 s2 (v 2 c)) 93 0 s3' (v 3 (48 * 0 + c))) 93 0 s4 (v 3 (48 * 1 + c))) 93 0 s5 (v 3 (48 * 2 + c))) 94 0 s6 (v 4 (2 * c + 1))) 95 0 s7 (v 5 (2 * c + 1))) → MT b w h v u (c + 1) (c + 1) (3 * (c + 1)) (c + 1) c (c + 1) c t1 := by
      rintro t1 ⟨s1, s2, s3', s4, s5, s6, s7, q1, q2, q3, q4, q5, q6, q7, rfl⟩
      have k3' : ∀ k, k < 3 → k3 (48 * k + c) = 3 * c + k := fun k hk => k3_k (by omega)
      have u3 : ∀ k, k < 3 → ∀ s, D3 (w * h) s = true → k3 s = 3 * c + k → s = 48 * k + c := fun k hk => un3 (by omega) hk
      have l3 : ∀ k, k < 3 → s3 w (48 * k + c) = 48 * k + opw w c := fun k hk => s3_k (by omega)
      have d3 : ∀ k, k < 3 → D3 (w * h) (48 * k + c) = true := fun k hk => d3_k hc hN hk
      refine MT.w5o (a := 2 * c + 1) h1 h2 hN hb ?_ DO KO uo (by rw [so_c]; omega) (by rw [so_c]; omega) (by rw [so_c]; omega) rfl
      refine MT.w4o (a := 2 * c + 1) h1 h2 hN hb ?_ DO KO uo (by rw [so_c]; omega) (by rw [so_c]; omega) (by rw [so_c]; omega) rfl
      refine MT.w3 (i3 := 3 * c + 2) (a := 48 * 2 + c) h1 h2 hN hb ?_ (d3 2 (by decide)) (k3' 2 (by decide)) (u3 2 (by decide)) (by rw [l3 2 (by decide)]; omega) trivial (by rw [l3 2 (by decide)]; omega) rfl
      refine MT.w3 (i3 := 3 * c + 1) (a := 48 * 1 + c) h1 h2 hN hb ?_ (d3 1 (by decide)) (k3' 1 (by decide)) (u3 1 (by decide)) (by rw [l3 1 (by decide)]; omega) trivial (by rw [l3 1 (by decide)]; omega) rfl
      refine MT.w3 (i3 := 3 * c) (a := 48 * 0 + c) h1 h2 hN hb ?_ (d3 0 (by decide)) (k3' 0 (by decide)) (u3 0 (by decide)) (by rw [l3 0 (by decide)]; omega) trivial (by rw [l3 0 (by decide)]; omega) rfl
      refine MT.w2 (a := c) h1 h2 hN hb ?_ (decide_eq_true hc) rfl (fun s _ q => q) (by omega) trivial q2 rfl
      exact MT.w1 (a := c) h1 h2 hN hb hT (decide_eq_true hc) rfl (fun s _ q => q) (by omega) trivial q1 rfl
    show Ev (L_X11_mirror_74 (nI b) (f + 1) (nI c) t e) P
    simp (disch := first | omega | decide) only [Nat.reduceAdd, Nat.reduceMul, ↓ev_bd, ↓ev_ck, ↓ev_if, ↓ev_lt, ↓ev_jn, ↓ev_so, ↓reduceIte, ↓ev_within, ↓ev_in, ↓ev_isBoard, ↓ev_isGauge, ↓ev_isNumber, ↓ev_isSix, ↓ev_isEight, ↓ev_foundN, ↓ev_meetsN, ↓ev_found_1, ↓ev_meets_1, ↓ev_found_2, ↓ev_meets_2, ↓ev_found_3, ↓ev_meets_3, ↓ev_found_4, ↓ev_meets_4, ↓ev_found_5, ↓ev_meets_5, true_and, and_true, and_self, eq_self, not_true_eq_false, not_false_eq_true, ite_true, ite_false, true_or, or_true, false_or, or_false, false_and, and_false, ← zi_ni_0, ← zi_ni_1, ← zi_ni_2, ← zi_ni_3, ← zi_ni_4, ← zi_ni_5, ← zi_ni_6, ← zi_ni_7, ← zi_ni_8, ← zi_ni_9, ← zi_ni_10, ← zi_ni_12, ← zi_ni_24, ← zi_ni_25, ← zi_ni_40, ← zi_ni_45, ← zi_ni_47, ← zi_ni_48, ← zi_ni_95, ← zi_ni_96, ← zi_ni_97, ← zi_ni_100, ← zi_ni_144, ← zi_ni_288, nI_ltI, nI_leI, nI_eqI, nlt_T, nlt_F, nle_T, nle_F, neq_T, neq_F, nI_add, pk_mul, nI_clamp, q_inT, ng_lt, ng_tl, ng_le, ng_el, ng_eq, ng_qe, q_b0, q_b1, nar_0, nar_1, b01, b01', q_bn0, q_bn1, nar_n0, nar_n1, si_k, si_i, si_s, si_e, si_2, sl_1, sl_22, sl_k, sl_i, sl_s, sl_e, sp_1, sp_21, sp_22, sc_k, sc_i, sc_e, sc_2, mF_k, mM_k, mF_2, mM_2, mF_0, mM_11, ↓eu_L_X11_mirror_74, ↓eu_X11_cells, e75, e76]
    refine ev_mopp (by omega) h1 h2 (by omega) e75 ?_
    obtain ⟨g, hg⟩ : ∃ g, q_fu = g + 1 + 1 + 1 + 1 := ⟨3996, rfl⟩
    have hmw : c % w < w := Nat.mod_lt _ (by omega)
    by_cases hr : c % w + 1 < w
    · have hop2 := hop.2.2 hr
      have DE : De w (w * h) (2 * c) = true := decide_eq_true ⟨by omega, by rw [show 2 * c / 2 = c by omega]; exact hc, by rw [show 2 * c / 2 = c by omega]; exact hr⟩
      have ue := une (w := w) (N := w * h) (c := c)
      have fin : ∀ t2, (∃ t1 s8 s9, s8 = 96 * b + 2 * opw w c - 2 ∧ s9 = 96 * b + 2 * opw w c - 2 ∧ MT b w h v u (c + 1) (c + 1) (3 * (c + 1)) (c + 1) c (c + 1) c t1 ∧ t2 = q_si (q_si t1 94 0 s8 (-(v 4 (2 * c)))) 95 0 s9 (v 5 (2 * c))) → MT b w h v u (c + 1) (c + 1) (3 * (c + 1)) (c + 1) (c + 1) (c + 1) (c + 1) t2 := by
        rintro t2 ⟨t1, s8, s9, q8, q9, m1, rfl⟩
        refine MT.w5e (a := 2 * c) h1 h2 hN hb ?_ DE KE ue (by rw [se_c]; omega) (by rw [se_c]; omega) (by rw [se_c]; omega) rfl
        exact MT.w4e (a := 2 * c) h1 h2 hN hb m1 DE KE ue (by rw [se_c]; omega) (by rw [se_c]; omega) (by rw [se_c]; omega) rfl
      generalize hm : c % w = m at hmw hr
      rw [hg]
      simp (disch := first | omega | decide) only [Nat.reduceAdd, Nat.reduceMul, ↓ev_bd, ↓ev_ck, ↓ev_if, ↓ev_lt, ↓ev_jn, ↓ev_so, ↓reduceIte, ↓ev_within, ↓ev_in, ↓ev_isBoard, ↓ev_isGauge, ↓ev_isNumber, ↓ev_isSix, ↓ev_isEight, ↓ev_foundN, ↓ev_meetsN, ↓ev_found_1, ↓ev_meets_1, ↓ev_found_2, ↓ev_meets_2, ↓ev_found_3, ↓ev_meets_3, ↓ev_found_4, ↓ev_meets_4, ↓ev_found_5, ↓ev_meets_5, true_and, and_true, and_self, eq_self, not_true_eq_false, not_false_eq_true, ite_true, ite_false, true_or, or_true, false_or, or_false, false_and, and_false, ← zi_ni_0, ← zi_ni_1, ← zi_ni_2, ← zi_ni_3, ← zi_ni_4, ← zi_ni_5, ← zi_ni_6, ← zi_ni_7, ← zi_ni_8, ← zi_ni_9, ← zi_ni_10, ← zi_ni_12, ← zi_ni_24, ← zi_ni_25, ← zi_ni_40, ← zi_ni_45, ← zi_ni_47, ← zi_ni_48, ← zi_ni_95, ← zi_ni_96, ← zi_ni_97, ← zi_ni_100, ← zi_ni_144, ← zi_ni_288, nI_ltI, nI_leI, nI_eqI, nlt_T, nlt_F, nle_T, nle_F, neq_T, neq_F, nI_add, pk_mul, nI_clamp, q_inT, ng_lt, ng_tl, ng_le, ng_el, ng_eq, ng_qe, q_b0, q_b1, nar_0, nar_1, b01, b01', q_bn0, q_bn1, nar_n0, nar_n1, si_k, si_i, si_s, si_e, si_2, sl_1, sl_22, sl_k, sl_i, sl_s, sl_e, sp_1, sp_21, sp_22, sc_k, sc_i, sc_e, sc_2, mF_k, mM_k, mF_2, mM_2, mF_0, mM_11, ← zi_ni_864, ← zi_ni_576, ↓eu_L_X11_mirror_138, r1, r2, r30, r31, r32, r4, r5, r4e, r5e, n5, n5e, e75, pk_div, pk_rem', n_rem, hm, pk_sub, q_nzI]
      refine K2 _ (fin _ ⟨_, _, _, rfl, rfl, base _ ⟨_, _, _, _, _, _, _, rfl, rfl, ?_, rfl, rfl, rfl, rfl, rfl⟩, rfl⟩)
      omega
    · generalize hm : c % w = m at hmw hr
      rw [hg]
      simp (disch := first | omega | decide) only [Nat.reduceAdd, Nat.reduceMul, ↓ev_bd, ↓ev_ck, ↓ev_if, ↓ev_lt, ↓ev_jn, ↓ev_so, ↓reduceIte, ↓ev_within, ↓ev_in, ↓ev_isBoard, ↓ev_isGauge, ↓ev_isNumber, ↓ev_isSix, ↓ev_isEight, ↓ev_foundN, ↓ev_meetsN, ↓ev_found_1, ↓ev_meets_1, ↓ev_found_2, ↓ev_meets_2, ↓ev_found_3, ↓ev_meets_3, ↓ev_found_4, ↓ev_meets_4, ↓ev_found_5, ↓ev_meets_5, true_and, and_true, and_self, eq_self, not_true_eq_false, not_false_eq_true, ite_true, ite_false, true_or, or_true, false_or, or_false, false_and, and_false, ← zi_ni_0, ← zi_ni_1, ← zi_ni_2, ← zi_ni_3, ← zi_ni_4, ← zi_ni_5, ← zi_ni_6, ← zi_ni_7, ← zi_ni_8, ← zi_ni_9, ← zi_ni_10, ← zi_ni_12, ← zi_ni_24, ← zi_ni_25, ← zi_ni_40, ← zi_ni_45, ← zi_ni_47, ← zi_ni_48, ← zi_ni_95, ← zi_ni_96, ← zi_ni_97, ← zi_ni_100, ← zi_ni_144, ← zi_ni_288, nI_ltI, nI_leI, nI_eqI, nlt_T, nlt_F, nle_T, nle_F, neq_T, neq_F, nI_add, pk_mul, nI_clamp, q_inT, ng_lt, ng_tl, ng_le, ng_el, ng_eq, ng_qe, q_b0, q_b1, nar_0, nar_1, b01, b01', q_bn0, q_bn1, nar_n0, nar_n1, si_k, si_i, si_s, si_e, si_2, sl_1, sl_22, sl_k, sl_i, sl_s, sl_e, sp_1, sp_21, sp_22, sc_k, sc_i, sc_e, sc_2, mF_k, mM_k, mF_2, mM_2, mF_0, mM_11, ← zi_ni_864, ← zi_ni_576, ↓eu_L_X11_mirror_138, r1, r2, r30, r31, r32, r4, r5, r4e, r5e, n5, n5e, e75, pk_div, pk_rem', n_rem, hm, pk_sub, q_nzI]
      have sk : ∀ s, De w (w * h) s = true → ¬ hf2 s = c := fun s z z2 => by
        have z3 := une s z z2
        have z4 := (of_decide_eq_true z).2.2
        rw [z3, show 2 * c / 2 = c by omega, hm] at z4
        exact hr z4
      refine K2 _ (MT.k5e h1 h2 (MT.k4e h1 h2 (base _ ⟨_, _, _, _, _, _, _, rfl, rfl, ?_, rfl, rfl, rfl, rfl, rfl⟩) sk) sk)
      omega
  · rintro f t hT
    have e75 : t.1 75 0 b = nI w := (hT.1 75 0 b (by omega)).trans u75
    have e76 : t.1 76 0 b = nI h := (hT.1 76 0 b (by omega)).trans u76
    show Ev (L_X11_mirror_74 (nI b) (f + 1) (nI (w * h)) t e) P
    simp (disch := first | omega | decide) only [Nat.reduceAdd, Nat.reduceMul, ↓ev_bd, ↓ev_ck, ↓ev_if, ↓ev_lt, ↓ev_jn, ↓ev_so, ↓reduceIte, ↓ev_within, ↓ev_in, ↓ev_isBoard, ↓ev_isGauge, ↓ev_isNumber, ↓ev_isSix, ↓ev_isEight, ↓ev_foundN, ↓ev_meetsN, ↓ev_found_1, ↓ev_meets_1, ↓ev_found_2, ↓ev_meets_2, ↓ev_found_3, ↓ev_meets_3, ↓ev_found_4, ↓ev_meets_4, ↓ev_found_5, ↓ev_meets_5, true_and, and_true, and_self, eq_self, not_true_eq_false, not_false_eq_true, ite_true, ite_false, true_or, or_true, false_or, or_false, false_and, and_false, ← zi_ni_0, ← zi_ni_1, ← zi_ni_2, ← zi_ni_3, ← zi_ni_4, ← zi_ni_5, ← zi_ni_6, ← zi_ni_7, ← zi_ni_8, ← zi_ni_9, ← zi_ni_10, ← zi_ni_12, ← zi_ni_24, ← zi_ni_25, ← zi_ni_40, ← zi_ni_45, ← zi_ni_47, ← zi_ni_48, ← zi_ni_95, ← zi_ni_96, ← zi_ni_97, ← zi_ni_100, ← zi_ni_144, ← zi_ni_288, nI_ltI, nI_leI, nI_eqI, nlt_T, nlt_F, nle_T, nle_F, neq_T, neq_F, nI_add, pk_mul, nI_clamp, q_inT, ng_lt, ng_tl, ng_le, ng_el, ng_eq, ng_qe, q_b0, q_b1, nar_0, nar_1, b01, b01', q_bn0, q_bn1, nar_n0, nar_n1, si_k, si_i, si_s, si_e, si_2, sl_1, sl_22, sl_k, sl_i, sl_s, sl_e, sp_1, sp_21, sp_22, sc_k, sc_i, sc_e, sc_2, mF_k, mM_k, mF_2, mM_2, mF_0, mM_11, ↓eu_L_X11_mirror_74, ↓eu_X11_cells, e75, e76]
    exact K t hT
