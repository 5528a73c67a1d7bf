/-! down, the loop and the call. -/
theorem down_sim {n b d wd hg x y W H : Nat} {x1 : Int32} {e : qM → Option (Int32 × qM)} (hb : b < 6) (hd : d < 6) (hbd : d ≠ b) (hw : 1 ≤ wd) (hw4 : wd ≤ 4) (hg3 : hg ≤ 3) (hx : x + wd ≤ W) (hy : y + hg ≤ H) (hWH : W * H ≤ 48) : ∀ j k (c m0 : qM) (F : Nat) (P : Int32 → qM → Prop), k + j = wd * hg → j < F → Rel n (mix c m0) → UF c b d wd hg x y W → c.1 2 d 10 = nI 1 → (∀ c', FC c c' → UF c' b d wd hg x y W → (∀ m, Rel n (mix c m) → UG m b d wd hg x y W → ∀ x3 F' e' P', j < F' → (∀ m', FM m m' → UG m' b d wd hg x y W → Rel n (mix c' m') → Ev (e' m') P') → Ev (L_X11_down_22 (nI b) x3 F' (nI k) m e') P') → Ev (e c') P) → Ev (L_X0_takeDown_12 b d x1 F (nI k) c e) P := by
  intro j
  have hN : wd * hg ≤ 12 := Nat.mul_le_mul hw4 hg3
  have hN4 : 2 * wd * (2 * hg) / 4 = wd * hg := by
    rw [show 2 * wd * (2 * hg) = 4 * (wd * hg) by rw [Nat.mul_mul_mul_comm]]
    omega
  have hN48 : 2 * wd * (2 * hg) ≤ 48 := by
    rw [show 2 * wd * (2 * hg) = 4 * (wd * hg) by rw [Nat.mul_mul_mul_comm]]
    omega
  induction j with
  | zero =>
    intro k c m0 F P hk hF h hu hd1 K
    obtain ⟨F, rfl⟩ : ∃ F', F = F' + 1 := ⟨F - 1, by omega⟩
    obtain rfl : k = wd * hg := by omega
    have hu0 := hu
    obtain ⟨u1, u2, u3, u4, u5, u6, u7⟩ := hu
    simp (disch := first | omega | decide) only [Nat.reduceAdd, Nat.reduceMul, ↓ev_bd, ↓ev_ck, ↓ev_if, ↓ev_lt, ↓ev_jn, ↓ev_so, ↓reduceIte, ↓ev_within, ↓ev_in, ↓ev_isBoard, ↓ev_isGauge, ↓ev_isNumber, ↓ev_isSix, ↓ev_isEight, ↓ev_foundN, ↓ev_meetsN, ↓ev_found_1, ↓ev_meets_1, ↓ev_found_2, ↓ev_meets_2, ↓ev_found_3, ↓ev_meets_3, ↓ev_found_4, ↓ev_meets_4, ↓ev_found_5, ↓ev_meets_5, true_and, and_true, and_self, eq_self, not_true_eq_false, not_false_eq_true, ite_true, ite_false, true_or, or_true, false_or, or_false, false_and, and_false, ← zi_ni_0, ← zi_ni_1, ← zi_ni_2, ← zi_ni_3, ← zi_ni_4, ← zi_ni_5, ← zi_ni_6, ← zi_ni_7, ← zi_ni_8, ← zi_ni_9, ← zi_ni_10, ← zi_ni_12, ← zi_ni_24, ← zi_ni_25, ← zi_ni_40, ← zi_ni_45, ← zi_ni_47, ← zi_ni_48, ← zi_ni_95, ← zi_ni_96, ← zi_ni_97, ← zi_ni_100, ← zi_ni_144, ← zi_ni_288, nI_ltI, nI_leI, nI_eqI, nlt_T, nlt_F, nle_T, nle_F, neq_T, neq_F, nI_add, pk_mul, nI_clamp, q_inT, ng_lt, ng_tl, ng_le, ng_el, ng_eq, ng_qe, q_b0, q_b1, nar_0, nar_1, b01, b01', q_bn0, q_bn1, nar_n0, nar_n1, si_k, si_i, si_s, si_e, si_2, sl_1, sl_22, sl_k, sl_i, sl_s, sl_e, sp_1, sp_21, sp_22, sc_k, sc_i, sc_e, sc_2, mF_k, mM_k, mF_2, mM_2, mF_0, mM_11, ↓eu_L_X0_takeDown_12, ↓eu_X0_cells, u3, u4, pk_div, hN4]
    refine K _ FC.rf hu0 (fun m hm hg x3 F' e' P' hF' K' => ?_)
    obtain ⟨F', rfl⟩ : ∃ F'', F' = F'' + 1 := ⟨F' - 1, by omega⟩
    have hg0 := hg
    obtain ⟨g1, g2, g3, g4, g5, g6⟩ := hg
    simp (disch := first | omega | decide) only [Nat.reduceAdd, Nat.reduceMul, ↓ev_bd, ↓ev_ck, ↓ev_if, ↓ev_lt, ↓ev_jn, ↓ev_so, ↓reduceIte, ↓ev_within, ↓ev_in, ↓ev_isBoard, ↓ev_isGauge, ↓ev_isNumber, ↓ev_isSix, ↓ev_isEight, ↓ev_foundN, ↓ev_meetsN, ↓ev_found_1, ↓ev_meets_1, ↓ev_found_2, ↓ev_meets_2, ↓ev_found_3, ↓ev_meets_3, ↓ev_found_4, ↓ev_meets_4, ↓ev_found_5, ↓ev_meets_5, true_and, and_true, and_self, eq_self, not_true_eq_false, not_false_eq_true, ite_true, ite_false, true_or, or_true, false_or, or_false, false_and, and_false, ← zi_ni_0, ← zi_ni_1, ← zi_ni_2, ← zi_ni_3, ← zi_ni_4, ← zi_ni_5, ← zi_ni_6, ← zi_ni_7, ← zi_ni_8, ← zi_ni_9, ← zi_ni_10, ← zi_ni_12, ← zi_ni_24, ← zi_ni_25, ← zi_ni_40, ← zi_ni_45, ← zi_ni_47, ← zi_ni_48, ← zi_ni_95, ← zi_ni_96, ← zi_ni_97, ← zi_ni_100, ← zi_ni_144, ← zi_ni_288, nI_ltI, nI_leI, nI_eqI, nlt_T, nlt_F, nle_T, nle_F, neq_T, neq_F, nI_add, pk_mul, nI_clamp, q_inT, ng_lt, ng_tl, ng_le, ng_el, ng_eq, ng_qe, q_b0, q_b1, nar_0, nar_1, b01, b01', q_bn0, q_bn1, nar_n0, nar_n1, si_k, si_i, si_s, si_e, si_2, sl_1, sl_22, sl_k, sl_i, sl_s, sl_e, sp_1, sp_21, sp_22, sc_k, sc_i, sc_e, sc_2, mF_k, mM_k, mF_2, mM_2, mF_0, mM_11, ↓eu_L_X11_down_22, ↓eu_X11_cells, g1, g2, pk_div, hN4]
    exact K' m FM.rf hg0 hm
  | succ j ih =>
    intro k c m0 F P hk hF h hu hd1 K
    obtain ⟨F, rfl⟩ : ∃ F', F = F' + 1 := ⟨F - 1, by omega⟩
    have hu0 := hu
    obtain ⟨u1, u2, u3, u4, u5, u6, u7⟩ := hu
    have hk2 : k < 12 := by omega
    have hkN : k < wd * hg := by omega
    have hS : undN wd W x y k < 48 := Nat.lt_of_lt_of_le (undN_lt hw hkN hx hy) hWH
    have hund : ∀ P, Ev (f_X0_underCell b (nI k) d c) P ↔ P (nI (undN wd W x y k)) c := fun P => ev_undC hw hw4 hk2 u3 u5 u6 u7
    have hundM : ∀ m, UG m b d wd hg x y W → ∀ P, Ev (f_X11_beneath (nI b) (nI k) m) P ↔ P (nI (undN wd W x y k)) m := fun m hg P => ev_undM hb hd hw hw4 hk2 hg.1 hg.2.2.1 hg.2.2.2.1 hg.2.2.2.2.1 hg.2.2.2.2.2
    generalize hSd : undN wd W x y k = S at *
    have hlt : ∀ q, q < 4 → fineN wd k q < 48 := fun q hq => Nat.lt_of_lt_of_le (fineN_lt hw hkN hq) hN48
    have wb : ∀ q, q < 4 → 0 ≤ (c.1 38 b (fineN wd k q)).toInt ∧ (c.1 38 b (fineN wd k q)).toInt ≤ 100000 := fun q hq => h.watB hb (show (mix c m0).1 2 b 10 = nI 1 from u1) (hlt q hq)
    have vb : 0 ≤ (c.1 38 d S).toInt ∧ (c.1 38 d S).toInt ≤ 100000 := h.watB hd (show (mix c m0).1 2 d 10 = nI 1 from hd1) hS
    have mb : 0 ≤ (c.1 45 b k).toInt ∧ (c.1 45 b k).toInt ≤ 100000 := h.carryB hb hw4 hg3 u1 u2 u3 u4 hkN
    have xb : (c.1 38 d S - c.1 45 b k).toInt = (c.1 38 d S).toInt - (c.1 45 b k).toInt := z_sub (by omega) (by omega)
    simp (disch := first | omega | decide) only [Nat.reduceAdd, Nat.reduceMul, ↓ev_bd, ↓ev_ck, ↓ev_if, ↓ev_lt, ↓ev_jn, ↓ev_so, ↓reduceIte, ↓ev_within, ↓ev_in, ↓ev_isBoard, ↓ev_isGauge, ↓ev_isNumber, ↓ev_isSix, ↓ev_isEight, ↓ev_foundN, ↓ev_meetsN, ↓ev_found_1, ↓ev_meets_1, ↓ev_found_2, ↓ev_meets_2, ↓ev_found_3, ↓ev_meets_3, ↓ev_found_4, ↓ev_meets_4, ↓ev_found_5, ↓ev_meets_5, true_and, and_true, and_self, eq_self, not_true_eq_false, not_false_eq_true, ite_true, ite_false, true_or, or_true, false_or, or_false, false_and, and_false, ← zi_ni_0, ← zi_ni_1, ← zi_ni_2, ← zi_ni_3, ← zi_ni_4, ← zi_ni_5, ← zi_ni_6, ← zi_ni_7, ← zi_ni_8, ← zi_ni_9, ← zi_ni_10, ← zi_ni_12, ← zi_ni_24, ← zi_ni_25, ← zi_ni_40, ← zi_ni_45, ← zi_ni_47, ← zi_ni_48, ← zi_ni_95, ← zi_ni_96, ← zi_ni_97, ← zi_ni_100, ← zi_ni_144, ← zi_ni_288, nI_ltI, nI_leI, nI_eqI, nlt_T, nlt_F, nle_T, nle_F, neq_T, neq_F, nI_add, pk_mul, nI_clamp, q_inT, ng_lt, ng_tl, ng_le, ng_el, ng_eq, ng_qe, q_b0, q_b1, nar_0, nar_1, b01, b01', q_bn0, q_bn1, nar_n0, nar_n1, si_k, si_i, si_s, si_e, si_2, sl_1, sl_22, sl_k, sl_i, sl_s, sl_e, sp_1, sp_21, sp_22, sc_k, sc_i, sc_e, sc_2, mF_k, mM_k, mF_2, mM_2, mF_0, mM_11, ↓eu_L_X0_takeDown_12, ↓eu_X0_cells, ↓hund, u3, u4, pk_div, hN4]
    refine lp_down52 (hg := hg) (v := fun q => c.1 38 b (fineN wd k q)) hw hw4 hg3 hkN u3 (fun q hq => rfl) (fun t1 a1 a2 a3 => ?_)
    have hBd : Bd (fun q => c.1 38 b (fineN wd k q) + (c.1 38 d S - c.1 45 b k)) := fun t ht => by
      have := wb t ht
      show -200000 ≤ (c.1 38 b (fineN wd k t) + (c.1 38 d S - c.1 45 b k)).toInt ∧ (c.1 38 b (fineN wd k t) + (c.1 38 d S - c.1 45 b k)).toInt ≤ 200000
      rw [z_add (by omega) (by omega), xb]
      omega
    have hdF : ∀ m, Rel n (mix c m) → ∀ t, t < 4 → dF b wd k (c.1 38 d S) m t = c.1 38 b (fineN wd k t) + (c.1 38 d S - c.1 45 b k) := fun m hm t ht => by
      unfold dF
      rw [show m.1 92 0 (48 * b + fineN wd k t) = c.1 38 b (fineN wd k t) from hm.wat hb (hlt t ht), show m.1 99 0 (48 * b + k) = c.1 45 b k from (hm.carry hb hw4 hg3 u1 u2 u3 u4 hkN).1]
      rw [Int32.sub_eq_add_neg, Int32.sub_eq_add_neg, Int32.add_assoc]
    have hAb := fun t ht => dnA_bd (y := c.1 46 b k) hBd t ht
    generalize hvv : (fun q => c.1 38 b (fineN wd k q) + (c.1 38 d S - c.1 45 b k)) = vv at *
    refine dn_all (c := c) (s := (vv, c.1 46 b k)) hw hw4 hg3 hkN u3 ⟨a1, a3, a2⟩ (fun t2 h2 => ?_)
    have e38 : t2.1 38 d S = c.1 38 d S := h2.1.1 38 d S (fun z => hbd z.2.1) (by omega)
    simp (disch := first | omega | decide) only [Nat.reduceAdd, Nat.reduceMul, ↓ev_bd, ↓ev_ck, ↓ev_if, ↓ev_lt, ↓ev_jn, ↓ev_so, ↓reduceIte, ↓ev_within, ↓ev_in, ↓ev_isBoard, ↓ev_isGauge, ↓ev_isNumber, ↓ev_isSix, ↓ev_isEight, ↓ev_foundN, ↓ev_meetsN, ↓ev_found_1, ↓ev_meets_1, ↓ev_found_2, ↓ev_meets_2, ↓ev_found_3, ↓ev_meets_3, ↓ev_found_4, ↓ev_meets_4, ↓ev_found_5, ↓ev_meets_5, true_and, and_true, and_self, eq_self, not_true_eq_false, not_false_eq_true, ite_true, ite_false, true_or, or_true, false_or, or_false, false_and, and_false, ← zi_ni_0, ← zi_ni_1, ← zi_ni_2, ← zi_ni_3, ← zi_ni_4, ← zi_ni_5, ← zi_ni_6, ← zi_ni_7, ← zi_ni_8, ← zi_ni_9, ← zi_ni_10, ← zi_ni_12, ← zi_ni_24, ← zi_ni_25, ← zi_ni_40, ← zi_ni_45, ← zi_ni_47, ← zi_ni_48, ← zi_ni_95, ← zi_ni_96, ← zi_ni_97, ← zi_ni_100, ← zi_ni_144, ← zi_ni_288, nI_ltI, nI_leI, nI_eqI, nlt_T, nlt_F, nle_T, nle_F, neq_T, neq_F, nI_add, pk_mul, nI_clamp, q_inT, ng_lt, ng_tl, ng_le, ng_el, ng_eq, ng_qe, q_b0, q_b1, nar_0, nar_1, b01, b01', q_bn0, q_bn1, nar_n0, nar_n1, si_k, si_i, si_s, si_e, si_2, sl_1, sl_22, sl_k, sl_i, sl_s, sl_e, sp_1, sp_21, sp_22, sc_k, sc_i, sc_e, sc_2, mF_k, mM_k, mF_2, mM_2, mF_0, mM_11, e38]
    have upd : ∀ m m2, Rel n (mix c m) → DM b wd k (c.1 38 d S) (dnA (vv, c.1 46 b k)) m m2 → Rel n (mix (q_si t2 45 b k (c.1 38 d S)) m2) := fun m m2 hm q => dn_rel hb hk2 hlt hAb vb hm h2 q
    obtain ⟨m1, hm1⟩ := DM.ex (b := b) (wd := wd) (k := k) (V := c.1 38 d S) (s := dnA (vv, c.1 46 b k)) (m := m0) hw
    have fr2 : ∀ a i j, a ≠ 38 → a ≠ 45 → a ≠ 46 → (q_si t2 45 b k (c.1 38 d S)).1 a i j = c.1 a i j := fun a i j q1 q2 q3 => (congrFun (congrFun (si_k q2) i) j).trans (h2.1.1 a i j (by omega) (by omega))
    have hfc0 : FC c (q_si t2 45 b k (c.1 38 d S)) := FC.of (fun a i j z => fr2 a i j (by have := isM_t z; omega) (by have := isM_t z; omega) (by have := isM_t z; omega)) h2.1.2
    refine ih (k + 1) _ m1 F P (by omega) (by omega) (upd m0 m1 h hm1) ⟨(fr2 2 b 10 (by decide) (by decide) (by decide)).trans u1, (fr2 2 b 11 (by decide) (by decide) (by decide)).trans u2, (fr2 2 b 12 (by decide) (by decide) (by decide)).trans u3, (fr2 2 b 13 (by decide) (by decide) (by decide)).trans u4, (fr2 2 d 12 (by decide) (by decide) (by decide)).trans u5, (fr2 5 b 3 (by decide) (by decide) (by decide)).trans u6, (fr2 5 b 4 (by decide) (by decide) (by decide)).trans u7⟩ ((fr2 2 d 10 (by decide) (by decide) (by decide)).trans hd1) (fun c' hfc huc hm2 => K c' (hfc0.tr hfc) huc (fun m hm hg' x3 F' e' P' hF' K' => ?_))
    obtain ⟨F', rfl⟩ : ∃ F'', F' = F'' + 1 := ⟨F' - 1, by omega⟩
    have hg0 := hg'
    have hund2 := hundM m hg'
    obtain ⟨g1, g2, g3, g4, g5, g6⟩ := hg'
    have hwd : m.1 92 0 (48 * d + S) = c.1 38 d S := hm.wat hd hS
    have hca : m.1 100 0 (48 * b + k) = c.1 46 b k := (hm.carry (k := k) hb hw4 hg3 u1 u2 u3 u4 hkN).2
    simp (disch := first | omega | decide) only [Nat.reduceAdd, Nat.reduceMul, ↓ev_bd, ↓ev_ck, ↓ev_if, ↓ev_lt, ↓ev_jn, ↓ev_so, ↓reduceIte, ↓ev_within, ↓ev_in, ↓ev_isBoard, ↓ev_isGauge, ↓ev_isNumber, ↓ev_isSix, ↓ev_isEight, ↓ev_foundN, ↓ev_meetsN, ↓ev_found_1, ↓ev_meets_1, ↓ev_found_2, ↓ev_meets_2, ↓ev_found_3, ↓ev_meets_3, ↓ev_found_4, ↓ev_meets_4, ↓ev_found_5, ↓ev_meets_5, true_and, and_true, and_self, eq_self, not_true_eq_false, not_false_eq_true, ite_true, ite_false, true_or, or_true, false_or, or_false, false_and, and_false, ← zi_ni_0, ← zi_ni_1, ← zi_ni_2, ← zi_ni_3, ← zi_ni_4, ← zi_ni_5, ← zi_ni_6, ← zi_ni_7, ← zi_ni_8, ← zi_ni_9, ← zi_ni_10, ← zi_ni_12, ← zi_ni_24, ← zi_ni_25, ← zi_ni_40, ← zi_ni_45, ← zi_ni_47, ← zi_ni_48, ← zi_ni_95, ← zi_ni_96, ← zi_ni_97, ← zi_ni_100, ← zi_ni_144, ← zi_ni_288, nI_ltI, nI_leI, nI_eqI, nlt_T, nlt_F, nle_T, nle_F, neq_T, neq_F, nI_add, pk_mul, nI_clamp, q_inT, ng_lt, ng_tl, ng_le, ng_el, ng_eq, ng_qe, q_b0, q_b1, nar_0, nar_1, b01, b01', q_bn0, q_bn1, nar_n0, nar_n1, si_k, si_i, si_s, si_e, si_2, sl_1, sl_22, sl_k, sl_i, sl_s, sl_e, sp_1, sp_21, sp_22, sc_k, sc_i, sc_e, sc_2, mF_k, mM_k, mF_2, mM_2, mF_0, mM_11, ↓eu_L_X11_down_22, ↓eu_X11_cells, g1, g2, pk_div, hN4, ↓hund2, g6, hwd, hca]
    refine m75_all (hg := hg) hb hw hw4 hg3 hkN g1 (fun m2 p1 p2 => ?_)
    have p3 : WC m2 vv := fun q hq => by
      rw [p2 q hq, hdF m hm q hq, ← hvv]
    refine m132_all (m0 := m) p1 p3 hBd (fun m3 r1 r2 => ?_)
    have e3 : m3.1 75 0 b = nI (2 * wd) := by rw [r1.1 75 (by decide)]; exact g1
    have b4 := (dn4_bd (y := c.1 46 b k) hBd).2.2.2
    refine m269_all (hg := hg) (s := dn4 (vv, c.1 46 b k)) hb hw hw4 hg3 hkN e3 r2 (fun t ht => by have := (b4 t ht).1; exact Int.le_trans (by decide) this) (fun m4 s1 s2 => ?_)
    have eA : cp4 (dn4 (vv, c.1 46 b k)) = dnA (vv, c.1 46 b k) := rfl
    rw [eA] at s2 ⊢
    generalize hAA : dnA (vv, c.1 46 b k) = AA at *
    simp (disch := first | omega | decide) only [Nat.reduceAdd, Nat.reduceMul, ↓ev_bd, ↓ev_ck, ↓ev_if, ↓ev_lt, ↓ev_jn, ↓ev_so, ↓reduceIte, ↓ev_within, ↓ev_in, ↓ev_isBoard, ↓ev_isGauge, ↓ev_isNumber, ↓ev_isSix, ↓ev_isEight, ↓ev_foundN, ↓ev_meetsN, ↓ev_found_1, ↓ev_meets_1, ↓ev_found_2, ↓ev_meets_2, ↓ev_found_3, ↓ev_meets_3, ↓ev_found_4, ↓ev_meets_4, ↓ev_found_5, ↓ev_meets_5, true_and, and_true, and_self, eq_self, not_true_eq_false, not_false_eq_true, ite_true, ite_false, true_or, or_true, false_or, or_false, false_and, and_false, ← zi_ni_0, ← zi_ni_1, ← zi_ni_2, ← zi_ni_3, ← zi_ni_4, ← zi_ni_5, ← zi_ni_6, ← zi_ni_7, ← zi_ni_8, ← zi_ni_9, ← zi_ni_10, ← zi_ni_12, ← zi_ni_24, ← zi_ni_25, ← zi_ni_40, ← zi_ni_45, ← zi_ni_47, ← zi_ni_48, ← zi_ni_95, ← zi_ni_96, ← zi_ni_97, ← zi_ni_100, ← zi_ni_144, ← zi_ni_288, nI_ltI, nI_leI, nI_eqI, nlt_T, nlt_F, nle_T, nle_F, neq_T, neq_F, nI_add, pk_mul, nI_clamp, q_inT, ng_lt, ng_tl, ng_le, ng_el, ng_eq, ng_qe, q_b0, q_b1, nar_0, nar_1, b01, b01', q_bn0, q_bn1, nar_n0, nar_n1, si_k, si_i, si_s, si_e, si_2, sl_1, sl_22, sl_k, sl_i, sl_s, sl_e, sp_1, sp_21, sp_22, sc_k, sc_i, sc_e, sc_2, mF_k, mM_k, mF_2, mM_2, mF_0, mM_11]
    have hDM : DM b wd k (c.1 38 d S) AA m (q_si (q_si m4 100 0 (48 * b + k) AA.2) 99 0 (48 * b + k) (c.1 38 d S)) := by
      refine ⟨fun a i j q1 q2 q3 q4 => ?_, ?_, fun t ht => ?_, ?_, si_e⟩
      · rw [si_n q4, si_n q3, s1.1 a i j q2, r1.1 a q1]
      · exact s1.2.trans r1.2
      · rw [si_k (by decide), si_k (by decide)]
        exact s2 t ht
      · rw [si_k (by decide), si_e]
    have fm : ∀ a i j, a ≠ 118 → a ≠ 92 → a ≠ 100 → a ≠ 99 → (q_si (q_si m4 100 0 (48 * b + k) AA.2) 99 0 (48 * b + k) (c.1 38 d S)).1 a i j = m.1 a i j := fun a i j q1 q2 q3 q4 => hDM.1 a i j q1 (by omega) (by omega) (by omega)
    refine hm2 _ (upd m _ hm hDM) ⟨(fm 75 0 b (by decide) (by decide) (by decide) (by decide)).trans g1, (fm 76 0 b (by decide) (by decide) (by decide) (by decide)).trans g2, (fm 75 0 d (by decide) (by decide) (by decide) (by decide)).trans g3, (fm 97 0 b (by decide) (by decide) (by decide) (by decide)).trans g4, (fm 98 0 b (by decide) (by decide) (by decide) (by decide)).trans g5, (fm 96 0 b (by decide) (by decide) (by decide) (by decide)).trans g6⟩ x3 F' e' P' (by omega) (fun m' hfm hgm hr => K' m' (FM.tr (FM.of (fun a i j q => ?_) hDM.2.1) hfm) hgm hr)
    have := isM_f q
    exact fm a i j (by omega) (by omega) (by omega) (by omega)
