def QB (k c : Nat) (u t : qM) : Prop := (∀ a b s, ¬ (a = 8 ∧ b = k ∧ s = 1) → t.1 a b s = u.1 a b s) ∧ t.2 = u.2 ∧ t.1 8 k 1 = nI c
theorem QB.put {k c c' : Nat} {u t : qM} (h : QB k c u t) : QB k c' u (q_si t 8 k 1 (nI c')) := ⟨fun a b s q => (si_n q).trans (h.1 a b s q), h.2.1, si_e⟩
theorem QB.sn {v : qB} {k c o : Nat} {u t : qM} (h : QB k c u t) (hn : SN v u o) : SN v t o := by
  have e : ∀ a, a ≠ 8 → t.1 a = u.1 a := fun a q => funext (fun b => funext (fun s => h.1 a b s (fun z => q z.1)))
  unfold SN
  rw [e 2 (by decide), e 3 (by decide), e 37 (by decide), e 38 (by decide), e 40 (by decide), e 41 (by decide)]
  exact hn

theorem ev_hasSideN {o : Nat} {x : Int32} {u : qM} {P : Int32 → qM → Prop} (hx : x < nI 0) (K : P 0 u) : Ev (f_X0_hasSide o x u) P := by
  have hx' : x < 0 := hx
  refine eu_X0_hasSide.mpr (ev_jn.mpr ?_)
  rw [ev_if, if_pos hx']
  exact ev_so.mpr K
theorem dr_none {o : Nat} {x7 g : Int32} {t : qM} {κ : Int32 → qM → Option (Unit × qM)} {B : qM → (Int32 → qM → Option (Unit × qM)) → Option (Unit × qM)} {P : Unit → qM → Prop} (hs : Ev (f_X0_hasSide o x7 t) (fun x u => x = 0 ∧ u = t)) (K0 : Ev (κ g t) P) : Ev (q_bd (f_X0_hasSide o x7 t) (fun x8 u5 => q_jn κ (fun j3 => if x8 = 0 then j3 g u5 else B u5 j3))) P := by
  refine ev_bd.mpr (hs.mono (fun x u h => ?_))
  obtain ⟨rfl, rfl⟩ := h
  refine ev_jn.mpr ?_
  rw [ev_if, if_pos rfl]
  exact K0
theorem dr_pos {v : qB} {o k s w h : Nat} {x7 g : Int32} {t : qM} {C : qM → Int32} {κ : Int32 → qM → Option (Unit × qM)} {P : Unit → qM → Prop} (hd : DW v w h) (hs : s < 96) (hx : x7 = nI s) (hn : SN v t o) (K0 : (sd w (w * h) s = false ∨ v 4 s ≤ g) → Ev (κ g t) P) (K1 : sd w (w * h) s = true → ¬ v 4 s ≤ g → Ev (κ (v 4 s) (q_si t 8 k 1 (C t))) P) : Ev (q_bd (f_X0_hasSide o x7 t) (fun x3 u1 => q_jn κ (fun j1 => if x3 = 0 then j1 g u1 else q_ck (q_in x7 96) (if (u1.1 40 o (Int32.toNatClampNeg x7)) ≤ g then j1 g u1 else q_ck (q_in x7 96) (q_lt (u1.1 40 o (Int32.toNatClampNeg x7)) (fun x14 => q_lt (q_si u1 8 k 1 (C u1)) (fun u12 => j1 x14 u12))))))) P := by
  subst hx
  have r := hn.2.2.2.2.2.2.2.2.2.1 s hs
  refine ev_bd.mpr (ev_hasSide hd hs hn (fun h1 => ?_) (fun h0 => ?_))
  · by_cases q : v 4 s ≤ g
    · simp (disch := first | omega | decide) only [Nat.reduceAdd, Nat.reduceMul, ↓ev_ck, ↓ev_if, ↓ev_lt, ↓ev_jn, ↓ev_so, ↓reduceIte, ↓ev_within, ↓ev_isBoard, ↓ev_isNumber, ↓ev_foundN, ↓ev_found_1, ↓ev_found_2, ↓ev_found_3, ↓ev_found_4, ↓ev_found_5, true_and, and_true, and_self, eq_self, not_true_eq_false, not_false_eq_true, ite_true, ite_false, true_or, or_true, false_or, or_false, false_and, and_false, ← zi_ni_0, ← zi_ni_1, ← zi_ni_2, ← zi_ni_3, ← zi_ni_4, ← zi_ni_5, ← zi_ni_6, ← zi_ni_7, ← zi_ni_8, ← zi_ni_9, ← zi_ni_10, ← zi_ni_12, ← zi_ni_24, ← zi_ni_25, ← zi_ni_40, ← zi_ni_45, ← zi_ni_47, ← zi_ni_48, ← zi_ni_95, ← zi_ni_96, ← zi_ni_97, ← zi_ni_100, ← zi_ni_144, ← zi_ni_288, nI_ltI, nI_leI, nI_eqI, nlt_T, nlt_F, nle_T, nle_F, neq_T, neq_F, nI_add, pk_mul, nI_clamp, q_inT, ng_lt, ng_tl, ng_le, ng_el, ng_eq, ng_qe, q_b0, q_b1, nar_0, nar_1, b01, b01', q_bn0, q_bn1, nar_n0, nar_n1, si_k, si_i, si_s, si_e, si_2, sl_1, sl_22, sl_k, sl_i, sl_s, sl_e, sp_1, sp_21, sp_22, sc_k, sc_i, sc_e, sc_2, mF_k, mF_2, mF_0, r, q]
      exact K0 (.inr q)
    · simp (disch := first | omega | decide) only [Nat.reduceAdd, Nat.reduceMul, ↓ev_ck, ↓ev_if, ↓ev_lt, ↓ev_jn, ↓ev_so, ↓reduceIte, ↓ev_within, ↓ev_isBoard, ↓ev_isNumber, ↓ev_foundN, ↓ev_found_1, ↓ev_found_2, ↓ev_found_3, ↓ev_found_4, ↓ev_found_5, true_and, and_true, and_self, eq_self, not_true_eq_false, not_false_eq_true, ite_true, ite_false, true_or, or_true, false_or, or_false, false_and, and_false, ← zi_ni_0, ← zi_ni_1, ← zi_ni_2, ← zi_ni_3, ← zi_ni_4, ← zi_ni_5, ← zi_ni_6, ← zi_ni_7, ← zi_ni_8, ← zi_ni_9, ← zi_ni_10, ← zi_ni_12, ← zi_ni_24, ← zi_ni_25, ← zi_ni_40, ← zi_ni_45, ← zi_ni_47, ← zi_ni_48, ← zi_ni_95, ← zi_ni_96, ← zi_ni_97, ← zi_ni_100, ← zi_ni_144, ← zi_ni_288, nI_ltI, nI_leI, nI_eqI, nlt_T, nlt_F, nle_T, nle_F, neq_T, neq_F, nI_add, pk_mul, nI_clamp, q_inT, ng_lt, ng_tl, ng_le, ng_el, ng_eq, ng_qe, q_b0, q_b1, nar_0, nar_1, b01, b01', q_bn0, q_bn1, nar_n0, nar_n1, si_k, si_i, si_s, si_e, si_2, sl_1, sl_22, sl_k, sl_i, sl_s, sl_e, sp_1, sp_21, sp_22, sc_k, sc_i, sc_e, sc_2, mF_k, mF_2, mF_0, r, q]
      exact K1 h1 q
  · simp (disch := first | omega | decide) only [Nat.reduceAdd, Nat.reduceMul, ↓ev_ck, ↓ev_if, ↓ev_lt, ↓ev_jn, ↓ev_so, ↓reduceIte, ↓ev_within, ↓ev_isBoard, ↓ev_isNumber, ↓ev_foundN, ↓ev_found_1, ↓ev_found_2, ↓ev_found_3, ↓ev_found_4, ↓ev_found_5, true_and, and_true, and_self, eq_self, not_true_eq_false, not_false_eq_true, ite_true, ite_false, true_or, or_true, false_or, or_false, false_and, and_false, ← zi_ni_0, ← zi_ni_1, ← zi_ni_2, ← zi_ni_3, ← zi_ni_4, ← zi_ni_5, ← zi_ni_6, ← zi_ni_7, ← zi_ni_8, ← zi_ni_9, ← zi_ni_10, ← zi_ni_12, ← zi_ni_24, ← zi_ni_25, ← zi_ni_40, ← zi_ni_45, ← zi_ni_47, ← zi_ni_48, ← zi_ni_95, ← zi_ni_96, ← zi_ni_97, ← zi_ni_100, ← zi_ni_144, ← zi_ni_288, nI_ltI, nI_leI, nI_eqI, nlt_T, nlt_F, nle_T, nle_F, neq_T, neq_F, nI_add, pk_mul, nI_clamp, q_inT, ng_lt, ng_tl, ng_le, ng_el, ng_eq, ng_qe, q_b0, q_b1, nar_0, nar_1, b01, b01', q_bn0, q_bn1, nar_n0, nar_n1, si_k, si_i, si_s, si_e, si_2, sl_1, sl_22, sl_k, sl_i, sl_s, sl_e, sp_1, sp_21, sp_22, sc_k, sc_i, sc_e, sc_2, mF_k, mF_2, mF_0]
    exact K0 (.inl h0)
theorem dr_neg {v : qB} {o k s w h : Nat} {x7 g : Int32} {t : qM} {C : qM → Int32} {κ : Int32 → qM → Option (Unit × qM)} {P : Unit → qM → Prop} (hd : DW v w h) (hs : s < 96) (hx : x7 = nI s) (hn : SN v t o) (h1 : sd w (w * h) s = true) (K0 : -(v 4 s) ≤ g → Ev (κ g t) P) (K1 : ¬ -(v 4 s) ≤ g → Ev (κ (-(v 4 s)) (q_si t 8 k 1 (C t))) P) : Ev (q_bd (f_X0_hasSide o x7 t) (fun x8 u5 => q_jn κ (fun j3 => if x8 = 0 then j3 g u5 else q_ck (q_in x7 96) (if (-(u5.1 40 o (Int32.toNatClampNeg x7))) ≤ g then j3 g u5 else q_ck (q_in x7 96) (q_lt (-(u5.1 40 o (Int32.toNatClampNeg x7))) (fun x12 => q_lt (q_si u5 8 k 1 (C u5)) (fun u10 => j3 x12 u10))))))) P := by
  subst hx
  have r := hn.2.2.2.2.2.2.2.2.2.1 s hs
  refine ev_bd.mpr (ev_hasSide hd hs hn (fun _ => ?_) (fun h0 => by rw [h1] at h0; cases h0))
  by_cases q : -(v 4 s) ≤ g
  · simp (disch := first | omega | decide) only [Nat.reduceAdd, Nat.reduceMul, ↓ev_ck, ↓ev_if, ↓ev_lt, ↓ev_jn, ↓ev_so, ↓reduceIte, ↓ev_within, ↓ev_isBoard, ↓ev_isNumber, ↓ev_foundN, ↓ev_found_1, ↓ev_found_2, ↓ev_found_3, ↓ev_found_4, ↓ev_found_5, true_and, and_true, and_self, eq_self, not_true_eq_false, not_false_eq_true, ite_true, ite_false, true_or, or_true, false_or, or_false, false_and, and_false, ← zi_ni_0, ← zi_ni_1, ← zi_ni_2, ← zi_ni_3, ← zi_ni_4, ← zi_ni_5, ← zi_ni_6, ← zi_ni_7, ← zi_ni_8, ← zi_ni_9, ← zi_ni_10, ← zi_ni_12, ← zi_ni_24, ← zi_ni_25, ← zi_ni_40, ← zi_ni_45, ← zi_ni_47, ← zi_ni_48, ← zi_ni_95, ← zi_ni_96, ← zi_ni_97, ← zi_ni_100, ← zi_ni_144, ← zi_ni_288, nI_ltI, nI_leI, nI_eqI, nlt_T, nlt_F, nle_T, nle_F, neq_T, neq_F, nI_add, pk_mul, nI_clamp, q_inT, ng_lt, ng_tl, ng_le, ng_el, ng_eq, ng_qe, q_b0, q_b1, nar_0, nar_1, b01, b01', q_bn0, q_bn1, nar_n0, nar_n1, si_k, si_i, si_s, si_e, si_2, sl_1, sl_22, sl_k, sl_i, sl_s, sl_e, sp_1, sp_21, sp_22, sc_k, sc_i, sc_e, sc_2, mF_k, mF_2, mF_0, r, q]
    exact K0 q
  · simp (disch := first | omega | decide) only [Nat.reduceAdd, Nat.reduceMul, ↓ev_ck, ↓ev_if, ↓ev_lt, ↓ev_jn, ↓ev_so, ↓reduceIte, ↓ev_within, ↓ev_isBoard, ↓ev_isNumber, ↓ev_foundN, ↓ev_found_1, ↓ev_found_2, ↓ev_found_3, ↓ev_found_4, ↓ev_found_5, true_and, and_true, and_self, eq_self, not_true_eq_false, not_false_eq_true, ite_true, ite_false, true_or, or_true, false_or, or_false, false_and, and_false, ← zi_ni_0, ← zi_ni_1, ← zi_ni_2, ← zi_ni_3, ← zi_ni_4, ← zi_ni_5, ← zi_ni_6, ← zi_ni_7, ← zi_ni_8, ← zi_ni_9, ← zi_ni_10, ← zi_ni_12, ← zi_ni_24, ← zi_ni_25, ← zi_ni_40, ← zi_ni_45, ← zi_ni_47, ← zi_ni_48, ← zi_ni_95, ← zi_ni_96, ← zi_ni_97, ← zi_ni_100, ← zi_ni_144, ← zi_ni_288, nI_ltI, nI_leI, nI_eqI, nlt_T, nlt_F, nle_T, nle_F, neq_T, neq_F, nI_add, pk_mul, nI_clamp, q_inT, ng_lt, ng_tl, ng_le, ng_el, ng_eq, ng_qe, q_b0, q_b1, nar_0, nar_1, b01, b01', q_bn0, q_bn1, nar_n0, nar_n1, si_k, si_i, si_s, si_e, si_2, sl_1, sl_22, sl_k, sl_i, sl_s, sl_e, sp_1, sp_21, sp_22, sc_k, sc_i, sc_e, sc_2, mF_k, mF_2, mF_0, r, q]
    exact K1 q
theorem dr_end {v : qB} {o k s w h : Nat} {x7 g : Int32} {t : qM} {C : qM → Int32} {P : Unit → qM → Prop} (hd : DW v w h) (hs : s < 96) (hx : x7 = nI s) (hn : SN v t o) (h1 : sd w (w * h) s = true) (K0 : -(v 4 s) ≤ g → P () t) (K1 : ¬ -(v 4 s) ≤ g → P () (q_si t 8 k 1 (C t))) : Ev (q_bd (f_X0_hasSide o x7 t) (fun (x11 : Int32) (u7 : qM) => q_jn (fun (u8 : qM) => some ((), u8)) (fun j4 => if x11 = 0 then j4 u7 else q_ck (q_in x7 96) (if (-(u7.1 40 o (Int32.toNatClampNeg x7))) ≤ g then j4 u7 else q_lt (q_si u7 8 k 1 (C u7)) (fun (u9 : qM) => j4 u9))))) P := by
  subst hx
  have r := hn.2.2.2.2.2.2.2.2.2.1 s hs
  refine ev_bd.mpr (ev_hasSide hd hs hn (fun _ => ?_) (fun h0 => by rw [h1] at h0; cases h0))
  by_cases q : -(v 4 s) ≤ g
  · simp (disch := first | omega | decide) only [Nat.reduceAdd, Nat.reduceMul, ↓ev_ck, ↓ev_if, ↓ev_lt, ↓ev_jn, ↓ev_so, ↓reduceIte, ↓ev_within, ↓ev_isBoard, ↓ev_isNumber, ↓ev_foundN, ↓ev_found_1, ↓ev_found_2, ↓ev_found_3, ↓ev_found_4, ↓ev_found_5, true_and, and_true, and_self, eq_self, not_true_eq_false, not_false_eq_true, ite_true, ite_false, true_or, or_true, false_or, or_false, false_and, and_false, ← zi_ni_0, ← zi_ni_1, ← zi_ni_2, ← zi_ni_3, ← zi_ni_4, ← zi_ni_5, ← zi_ni_6, ← zi_ni_7, ← zi_ni_8, ← zi_ni_9, ← zi_ni_10, ← zi_ni_12, ← zi_ni_24, ← zi_ni_25, ← zi_ni_40, ← zi_ni_45, ← zi_ni_47, ← zi_ni_48, ← zi_ni_95, ← zi_ni_96, ← zi_ni_97, ← zi_ni_100, ← zi_ni_144, ← zi_ni_288, nI_ltI, nI_leI, nI_eqI, nlt_T, nlt_F, nle_T, nle_F, neq_T, neq_F, nI_add, pk_mul, nI_clamp, q_inT, ng_lt, ng_tl, ng_le, ng_el, ng_eq, ng_qe, q_b0, q_b1, nar_0, nar_1, b01, b01', q_bn0, q_bn1, nar_n0, nar_n1, si_k, si_i, si_s, si_e, si_2, sl_1, sl_22, sl_k, sl_i, sl_s, sl_e, sp_1, sp_21, sp_22, sc_k, sc_i, sc_e, sc_2, mF_k, mF_2, mF_0, r, q]
    exact K0 q
  · simp (disch := first | omega | decide) only [Nat.reduceAdd, Nat.reduceMul, ↓ev_ck, ↓ev_if, ↓ev_lt, ↓ev_jn, ↓ev_so, ↓reduceIte, ↓ev_within, ↓ev_isBoard, ↓ev_isNumber, ↓ev_foundN, ↓ev_found_1, ↓ev_found_2, ↓ev_found_3, ↓ev_found_4, ↓ev_found_5, true_and, and_true, and_self, eq_self, not_true_eq_false, not_false_eq_true, ite_true, ite_false, true_or, or_true, false_or, or_false, false_and, and_false, ← zi_ni_0, ← zi_ni_1, ← zi_ni_2, ← zi_ni_3, ← zi_ni_4, ← zi_ni_5, ← zi_ni_6, ← zi_ni_7, ← zi_ni_8, ← zi_ni_9, ← zi_ni_10, ← zi_ni_12, ← zi_ni_24, ← zi_ni_25, ← zi_ni_40, ← zi_ni_45, ← zi_ni_47, ← zi_ni_48, ← zi_ni_95, ← zi_ni_96, ← zi_ni_97, ← zi_ni_100, ← zi_ni_144, ← zi_ni_288, nI_ltI, nI_leI, nI_eqI, nlt_T, nlt_F, nle_T, nle_F, neq_T, neq_F, nI_add, pk_mul, nI_clamp, q_inT, ng_lt, ng_tl, ng_le, ng_el, ng_eq, ng_qe, q_b0, q_b1, nar_0, nar_1, b01, b01', q_bn0, q_bn1, nar_n0, nar_n1, si_k, si_i, si_s, si_e, si_2, sl_1, sl_22, sl_k, sl_i, sl_s, sl_e, sp_1, sp_21, sp_22, sc_k, sc_i, sc_e, sc_2, mF_k, mF_2, mF_0, r, q]
    exact K1 q
theorem dr_endN {o : Nat} {x7 : Int32} {t : qM} {B : qM → (qM → Option (Unit × qM)) → Option (Unit × qM)} {P : Unit → qM → Prop} (hx : x7 < nI 0) (K0 : P () t) : Ev (q_bd (f_X0_hasSide o x7 t) (fun (x11 : Int32) (u7 : qM) => q_jn (fun (u8 : qM) => some ((), u8)) (fun j4 => if x11 = 0 then j4 u7 else B u7 j4))) P := by
  refine ev_bd.mpr (ev_hasSideN hx ?_)
  refine ev_jn.mpr ?_
  rw [ev_if, if_pos rfl]
  exact ev_so.mpr K0
theorem neg_low : ∀ w, w < 9 → ∀ c, c < w → (nI 2 * (nI c - nI w) + nI 1) < nI 0 := by decide +kernel

theorem ev_drift {v : qB} {o k c d w h : Nat} {u : qM} {P : Unit → qM → Prop} (hd : DW v w h) (hfl : ∀ s, -100000 ≤ (v 4 s).toInt ∧ (v 4 s).toInt ≤ 100000) (hn : SN v u o) (hc : c < w * h) (h1 : u.1 8 k 1 = nI c) (h2 : u.1 8 k 2 = nI d) (hd1 : 1 ≤ d) (hd2 : d ≤ 1000) (K : ∀ u', (∀ a b s, ¬ (a = 8 ∧ b = k ∧ s = 1) → u'.1 a b s = u.1 a b s) → u'.2 = u.2 → u'.1 8 k 1 = nI (drF v w (w * h) c d) → P () u') : Ev (f_X1_drift k o u) P := by
  have hd' := hd
  obtain ⟨e1, e2, e3, e4, e5, e6, e7, e8, e9, e10⟩ := hd'
  have hQ0 : QB k c u u := ⟨fun _ _ _ _ => rfl, rfl, h1⟩
  have cw : ∀ t c', QB k c' u t → t.1 2 o 12 = nI w := fun t c' q => (q.sn hn).2.1.trans e1
  have n2 : ∀ s, (-(v 4 s)).toInt = -(v 4 s).toInt := fun s => neg_toInt (hfl s)
  have fin : ∀ t c' i, QB k c' u t → c' = goF w c i → dir4 (fA v w (w * h) c 0) (fA v w (w * h) c 1) (fA v w (w * h) c 2) (fA v w (w * h) c 3) d = i → P () t := by
    intro t c' i q hc' hi
    refine K t q.1 q.2.1 ?_
    rw [q.2.2, hc']
    unfold drF
    rw [hi]
  have a0t : sd w (w * h) (2 * c) = true → fA v w (w * h) c 0 = (v 4 (2 * c)).toInt := fun q => by unfold fA; rw [if_pos rfl, if_pos q]
  have a0f : sd w (w * h) (2 * c) = false → fA v w (w * h) c 0 = 0 := fun q => by unfold fA; rw [if_pos rfl, if_neg (by rw [q]; decide)]
  have a1t : sd w (w * h) (2 * c + 1) = true → fA v w (w * h) c 1 = (v 4 (2 * c + 1)).toInt := fun q => by unfold fA; rw [if_neg (by decide), if_pos rfl, if_pos q]
  have a1f : sd w (w * h) (2 * c + 1) = false → fA v w (w * h) c 1 = 0 := fun q => by unfold fA; rw [if_neg (by decide), if_pos rfl, if_neg (by rw [q]; decide)]
  have a2t : ¬ c % w = 0 → fA v w (w * h) c 2 = -(v 4 (2 * (c - 1))).toInt := fun q => by unfold fA; rw [if_neg (by decide), if_neg (by decide), if_pos rfl, if_neg q]
  have a2f : c % w = 0 → fA v w (w * h) c 2 = 0 := fun q => by unfold fA; rw [if_neg (by decide), if_neg (by decide), if_pos rfl, if_pos q]
  have a3t : ¬ c < w → fA v w (w * h) c 3 = -(v 4 (2 * (c - w) + 1)).toInt := fun q => by unfold fA; rw [if_neg (by decide), if_neg (by decide), if_neg (by decide), if_neg q]
  have a3f : c < w → fA v w (w * h) c 3 = 0 := fun q => by unfold fA; rw [if_neg (by decide), if_neg (by decide), if_neg (by decide), if_pos q]
  have hdd : (nI d - 1).toInt = (d : Int) - 1 := by
    rw [show nI d - 1 = nI (d - 1) from pk_sub (b := 1) hd1, nI_toInt (by omega)]
    omega
  generalize fA v w (w * h) c 0 = a0 at *
  generalize fA v w (w * h) c 1 = a1 at *
  generalize fA v w (w * h) c 2 = a2 at *
  generalize fA v w (w * h) c 3 = a3 at *
  have x1 : 2 * nI c = nI (2 * c) := pk_mul 2 c
  have x2 : 2 * nI c + 1 = nI (2 * c + 1) := by rw [x1]; exact nI_add _ 1
  refine eu_X1_drift.mpr (ev_lt.mpr (ev_lt.mpr ?_))
  rw [h1, h2]
  have hnone : ∀ t c', QB k c' u t → c % w = 0 → Ev (f_X0_hasSide o (2 * (nI c - 1)) t) (fun x u => x = 0 ∧ u = t) := by
    intro t c' q hl
    rcases Nat.eq_zero_or_pos c with hz | hz
    · subst hz
      exact ev_hasSideN (by decide +kernel) ⟨rfl, rfl⟩
    · rw [show nI c - 1 = nI (c - 1) from pk_sub (b := 1) hz, show (2 : Int32) * nI (c - 1) = nI (2 * (c - 1)) from pk_mul 2 _]
      exact ev_hasSide hd (by omega) (q.sn hn) (fun z => by rw [sd_left0 (by omega) hz hl] at z; cases z) (fun _ => ⟨rfl, rfl⟩)
  refine dr_pos (s := 2 * c) hd (by omega) x1 (hQ0.sn hn) (fun z0 => ?_) (fun s0 z0 => ?_)
  · have b0 : a0 ≤ (d : Int) - 1 := by
      rcases z0 with z0 | z0
      · have := a0f z0
        omega
      · rw [x_le, hdd] at z0
        cases hsd : sd w (w * h) (2 * c)
        · have := a0f hsd
          omega
        · have := a0t hsd
          omega
    refine dr_pos (s := 2 * c + 1) hd (by omega) x2 (hQ0.sn hn) (fun z1 => ?_) (fun s1 z1 => ?_)
    · have b1 : a1 ≤ (d : Int) - 1 := by
        rcases z1 with z1 | z1
        · have := a1f z1
          omega
        · rw [x_le, hdd] at z1
          cases hsd : sd w (w * h) (2 * c + 1)
          · have := a1f hsd
            omega
          · have := a1t hsd
            omega
      refine ev_lt.mpr ?_
      by_cases hl2 : c % w = 0
      · have b2 := a2f hl2
        refine dr_none (hnone u _ hQ0 hl2) ?_
        refine ev_lt.mpr ?_
        by_cases hl : c < w
        · refine dr_endN (by rw [cw u _ hQ0]; exact neg_low w (by omega) c hl) ?_
          have b3 := a3f hl
          refine fin u (c) 4 hQ0 (by unfold goF; rw [if_neg (by decide), if_neg (by decide), if_neg (by decide), if_neg (by decide)]) ?_
          unfold dir4 mx
          repeat' split
          all_goals omega
        · have b3 := a3t hl
          refine dr_end (s := 2 * (c - w) + 1) hd (by omega) (by rw [cw u _ hQ0, pk_sub (by omega)]; rw [show (2 : Int32) * nI (c - w) = nI (2 * (c - w)) from pk_mul 2 _]; exact nI_add _ 1) (hQ0.sn hn) (sd_low hc (by omega)) (fun z3 => ?_) (fun z3 => ?_)
          · rw [x_le, n2, hdd] at z3
            refine fin u (c) 4 hQ0 (by unfold goF; rw [if_neg (by decide), if_neg (by decide), if_neg (by decide), if_neg (by decide)]) ?_
            unfold dir4 mx
            repeat' split
            all_goals omega
          · rw [x_le, n2, hdd] at z3
            have hQ4 : QB k (c - w) u (q_si u 8 k 1 (nI c - u.1 2 o 12)) := by rw [cw u _ hQ0, pk_sub (by omega)]; exact hQ0.put
            refine fin _ (c - w) 3 hQ4 (by unfold goF; rw [if_neg (by decide), if_neg (by decide), if_neg (by decide), if_pos rfl]) ?_
            unfold dir4 mx
            repeat' split
            all_goals omega
      · have b2 := a2t hl2
        have hc1 : 1 ≤ c := Nat.pos_of_ne_zero (fun z => hl2 (by rw [z, Nat.zero_mod]))
        refine dr_neg (s := 2 * (c - 1)) hd (by omega) (by rw [show nI c - 1 = nI (c - 1) from pk_sub (b := 1) hc1]; exact pk_mul 2 _) (hQ0.sn hn) (sd_left (by omega) hc hl2) (fun z2 => ?_) (fun z2 => ?_)
        · rw [x_le, n2, hdd] at z2
          refine ev_lt.mpr ?_
          by_cases hl : c < w
          · refine dr_endN (by rw [cw u _ hQ0]; exact neg_low w (by omega) c hl) ?_
            have b3 := a3f hl
            refine fin u (c) 4 hQ0 (by unfold goF; rw [if_neg (by decide), if_neg (by decide), if_neg (by decide), if_neg (by decide)]) ?_
            unfold dir4 mx
            repeat' split
            all_goals omega
          · have b3 := a3t hl
            refine dr_end (s := 2 * (c - w) + 1) hd (by omega) (by rw [cw u _ hQ0, pk_sub (by omega)]; rw [show (2 : Int32) * nI (c - w) = nI (2 * (c - w)) from pk_mul 2 _]; exact nI_add _ 1) (hQ0.sn hn) (sd_low hc (by omega)) (fun z3 => ?_) (fun z3 => ?_)
            · rw [x_le, n2, hdd] at z3
              refine fin u (c) 4 hQ0 (by unfold goF; rw [if_neg (by decide), if_neg (by decide), if_neg (by decide), if_neg (by decide)]) ?_
              unfold dir4 mx
              repeat' split
              all_goals omega
            · rw [x_le, n2, hdd] at z3
              have hQ4 : QB k (c - w) u (q_si u 8 k 1 (nI c - u.1 2 o 12)) := by rw [cw u _ hQ0, pk_sub (by omega)]; exact hQ0.put
              refine fin _ (c - w) 3 hQ4 (by unfold goF; rw [if_neg (by decide), if_neg (by decide), if_neg (by decide), if_pos rfl]) ?_
              unfold dir4 mx
              repeat' split
              all_goals omega
        · rw [x_le, n2, hdd] at z2
          have hQ3 : QB k (c - 1) u (q_si u 8 k 1 (nI c - 1)) := by rw [show nI c - 1 = nI (c - 1) from pk_sub (b := 1) hc1]; exact hQ0.put
          generalize q_si u 8 k 1 (nI c - 1) = t3 at hQ3 ⊢
          refine ev_lt.mpr ?_
          by_cases hl : c < w
          · refine dr_endN (by rw [cw t3 _ hQ3]; exact neg_low w (by omega) c hl) ?_
            have b3 := a3f hl
            refine fin t3 (c - 1) 2 hQ3 (by unfold goF; rw [if_neg (by decide), if_neg (by decide), if_pos rfl]) ?_
            unfold dir4 mx
            repeat' split
            all_goals omega
          · have b3 := a3t hl
            refine dr_end (s := 2 * (c - w) + 1) hd (by omega) (by rw [cw t3 _ hQ3, pk_sub (by omega)]; rw [show (2 : Int32) * nI (c - w) = nI (2 * (c - w)) from pk_mul 2 _]; exact nI_add _ 1) (hQ3.sn hn) (sd_low hc (by omega)) (fun z3 => ?_) (fun z3 => ?_)
            · rw [x_le, n2, n2] at z3
              refine fin t3 (c - 1) 2 hQ3 (by unfold goF; rw [if_neg (by decide), if_neg (by decide), if_pos rfl]) ?_
              unfold dir4 mx
              repeat' split
              all_goals omega
            · rw [x_le, n2, n2] at z3
              have hQ4 : QB k (c - w) u (q_si t3 8 k 1 (nI c - t3.1 2 o 12)) := by rw [cw t3 _ hQ3, pk_sub (by omega)]; exact hQ3.put
              refine fin _ (c - w) 3 hQ4 (by unfold goF; rw [if_neg (by decide), if_neg (by decide), if_neg (by decide), if_pos rfl]) ?_
              unfold dir4 mx
              repeat' split
              all_goals omega
    · have b1 := a1t s1
      rw [x_le, hdd] at z1
      have hQ2 : QB k (c + w) u (q_si u 8 k 1 (nI c + u.1 2 o 12)) := by rw [cw u _ hQ0, nI_add]; exact hQ0.put
      generalize q_si u 8 k 1 (nI c + u.1 2 o 12) = t2 at hQ2 ⊢
      refine ev_lt.mpr ?_
      by_cases hl2 : c % w = 0
      · have b2 := a2f hl2
        refine dr_none (hnone t2 _ hQ2 hl2) ?_
        refine ev_lt.mpr ?_
        by_cases hl : c < w
        · refine dr_endN (by rw [cw t2 _ hQ2]; exact neg_low w (by omega) c hl) ?_
          have b3 := a3f hl
          refine fin t2 (c + w) 1 hQ2 (by unfold goF; rw [if_neg (by decide), if_pos rfl]) ?_
          unfold dir4 mx
          repeat' split
          all_goals omega
        · have b3 := a3t hl
          refine dr_end (s := 2 * (c - w) + 1) hd (by omega) (by rw [cw t2 _ hQ2, pk_sub (by omega)]; rw [show (2 : Int32) * nI (c - w) = nI (2 * (c - w)) from pk_mul 2 _]; exact nI_add _ 1) (hQ2.sn hn) (sd_low hc (by omega)) (fun z3 => ?_) (fun z3 => ?_)
          · rw [x_le, n2] at z3
            refine fin t2 (c + w) 1 hQ2 (by unfold goF; rw [if_neg (by decide), if_pos rfl]) ?_
            unfold dir4 mx
            repeat' split
            all_goals omega
          · rw [x_le, n2] at z3
            have hQ4 : QB k (c - w) u (q_si t2 8 k 1 (nI c - t2.1 2 o 12)) := by rw [cw t2 _ hQ2, pk_sub (by omega)]; exact hQ2.put
            refine fin _ (c - w) 3 hQ4 (by unfold goF; rw [if_neg (by decide), if_neg (by decide), if_neg (by decide), if_pos rfl]) ?_
            unfold dir4 mx
            repeat' split
            all_goals omega
      · have b2 := a2t hl2
        have hc1 : 1 ≤ c := Nat.pos_of_ne_zero (fun z => hl2 (by rw [z, Nat.zero_mod]))
        refine dr_neg (s := 2 * (c - 1)) hd (by omega) (by rw [show nI c - 1 = nI (c - 1) from pk_sub (b := 1) hc1]; exact pk_mul 2 _) (hQ2.sn hn) (sd_left (by omega) hc hl2) (fun z2 => ?_) (fun z2 => ?_)
        · rw [x_le, n2] at z2
          refine ev_lt.mpr ?_
          by_cases hl : c < w
          · refine dr_endN (by rw [cw t2 _ hQ2]; exact neg_low w (by omega) c hl) ?_
            have b3 := a3f hl
            refine fin t2 (c + w) 1 hQ2 (by unfold goF; rw [if_neg (by decide), if_pos rfl]) ?_
            unfold dir4 mx
            repeat' split
            all_goals omega
          · have b3 := a3t hl
            refine dr_end (s := 2 * (c - w) + 1) hd (by omega) (by rw [cw t2 _ hQ2, pk_sub (by omega)]; rw [show (2 : Int32) * nI (c - w) = nI (2 * (c - w)) from pk_mul 2 _]; exact nI_add _ 1) (hQ2.sn hn) (sd_low hc (by omega)) (fun z3 => ?_) (fun z3 => ?_)
            · rw [x_le, n2] at z3
              refine fin t2 (c + w) 1 hQ2 (by unfold goF; rw [if_neg (by decide), if_pos rfl]) ?_
              unfold dir4 mx
              repeat' split
              all_goals omega
            · rw [x_le, n2] at z3
              have hQ4 : QB k (c - w) u (q_si t2 8 k 1 (nI c - t2.1 2 o 12)) := by rw [cw t2 _ hQ2, pk_sub (by omega)]; exact hQ2.put
              refine fin _ (c - w) 3 hQ4 (by unfold goF; rw [if_neg (by decide), if_neg (by decide), if_neg (by decide), if_pos rfl]) ?_
              unfold dir4 mx
              repeat' split
              all_goals omega
        · rw [x_le, n2] at z2
          have hQ3 : QB k (c - 1) u (q_si t2 8 k 1 (nI c - 1)) := by rw [show nI c - 1 = nI (c - 1) from pk_sub (b := 1) hc1]; exact hQ2.put
          generalize q_si t2 8 k 1 (nI c - 1) = t3 at hQ3 ⊢
          refine ev_lt.mpr ?_
          by_cases hl : c < w
          · refine dr_endN (by rw [cw t3 _ hQ3]; exact neg_low w (by omega) c hl) ?_
            have b3 := a3f hl
            refine fin t3 (c - 1) 2 hQ3 (by unfold goF; rw [if_neg (by decide), if_neg (by decide), if_pos rfl]) ?_
            unfold dir4 mx
            repeat' split
            all_goals omega
          · have b3 := a3t hl
            refine dr_end (s := 2 * (c - w) + 1) hd (by omega) (by rw [cw t3 _ hQ3, pk_sub (by omega)]; rw [show (2 : Int32) * nI (c - w) = nI (2 * (c - w)) from pk_mul 2 _]; exact nI_add _ 1) (hQ3.sn hn) (sd_low hc (by omega)) (fun z3 => ?_) (fun z3 => ?_)
            · rw [x_le, n2, n2] at z3
              refine fin t3 (c - 1) 2 hQ3 (by unfold goF; rw [if_neg (by decide), if_neg (by decide), if_pos rfl]) ?_
              unfold dir4 mx
              repeat' split
              all_goals omega
            · rw [x_le, n2, n2] at z3
              have hQ4 : QB k (c - w) u (q_si t3 8 k 1 (nI c - t3.1 2 o 12)) := by rw [cw t3 _ hQ3, pk_sub (by omega)]; exact hQ3.put
              refine fin _ (c - w) 3 hQ4 (by unfold goF; rw [if_neg (by decide), if_neg (by decide), if_neg (by decide), if_pos rfl]) ?_
              unfold dir4 mx
              repeat' split
              all_goals omega
  · have b0 := a0t s0
    rw [x_le, hdd] at z0
    have hQ1 : QB k (c + 1) u (q_si u 8 k 1 (nI c + 1)) := by rw [show nI c + 1 = nI (c + 1) from nI_add c 1]; exact hQ0.put
    generalize q_si u 8 k 1 (nI c + 1) = t1 at hQ1 ⊢
    refine dr_pos (s := 2 * c + 1) hd (by omega) x2 (hQ1.sn hn) (fun z1 => ?_) (fun s1 z1 => ?_)
    · have b1 : a1 ≤ (v 4 (2 * c)).toInt := by
        rcases z1 with z1 | z1
        · have := a1f z1
          omega
        · rw [x_le] at z1
          cases hsd : sd w (w * h) (2 * c + 1)
          · have := a1f hsd
            omega
          · have := a1t hsd
            omega
      refine ev_lt.mpr ?_
      by_cases hl2 : c % w = 0
      · have b2 := a2f hl2
        refine dr_none (hnone t1 _ hQ1 hl2) ?_
        refine ev_lt.mpr ?_
        by_cases hl : c < w
        · refine dr_endN (by rw [cw t1 _ hQ1]; exact neg_low w (by omega) c hl) ?_
          have b3 := a3f hl
          refine fin t1 (c + 1) 0 hQ1 (by unfold goF; rw [if_pos rfl]) ?_
          unfold dir4 mx
          repeat' split
          all_goals omega
        · have b3 := a3t hl
          refine dr_end (s := 2 * (c - w) + 1) hd (by omega) (by rw [cw t1 _ hQ1, pk_sub (by omega)]; rw [show (2 : Int32) * nI (c - w) = nI (2 * (c - w)) from pk_mul 2 _]; exact nI_add _ 1) (hQ1.sn hn) (sd_low hc (by omega)) (fun z3 => ?_) (fun z3 => ?_)
          · rw [x_le, n2] at z3
            refine fin t1 (c + 1) 0 hQ1 (by unfold goF; rw [if_pos rfl]) ?_
            unfold dir4 mx
            repeat' split
            all_goals omega
          · rw [x_le, n2] at z3
            have hQ4 : QB k (c - w) u (q_si t1 8 k 1 (nI c - t1.1 2 o 12)) := by rw [cw t1 _ hQ1, pk_sub (by omega)]; exact hQ1.put
            refine fin _ (c - w) 3 hQ4 (by unfold goF; rw [if_neg (by decide), if_neg (by decide), if_neg (by decide), if_pos rfl]) ?_
            unfold dir4 mx
            repeat' split
            all_goals omega
      · have b2 := a2t hl2
        have hc1 : 1 ≤ c := Nat.pos_of_ne_zero (fun z => hl2 (by rw [z, Nat.zero_mod]))
        refine dr_neg (s := 2 * (c - 1)) hd (by omega) (by rw [show nI c - 1 = nI (c - 1) from pk_sub (b := 1) hc1]; exact pk_mul 2 _) (hQ1.sn hn) (sd_left (by omega) hc hl2) (fun z2 => ?_) (fun z2 => ?_)
        · rw [x_le, n2] at z2
          refine ev_lt.mpr ?_
          by_cases hl : c < w
          · refine dr_endN (by rw [cw t1 _ hQ1]; exact neg_low w (by omega) c hl) ?_
            have b3 := a3f hl
            refine fin t1 (c + 1) 0 hQ1 (by unfold goF; rw [if_pos rfl]) ?_
            unfold dir4 mx
            repeat' split
            all_goals omega
          · have b3 := a3t hl
            refine dr_end (s := 2 * (c - w) + 1) hd (by omega) (by rw [cw t1 _ hQ1, pk_sub (by omega)]; rw [show (2 : Int32) * nI (c - w) = nI (2 * (c - w)) from pk_mul 2 _]; exact nI_add _ 1) (hQ1.sn hn) (sd_low hc (by omega)) (fun z3 => ?_) (fun z3 => ?_)
            · rw [x_le, n2] at z3
              refine fin t1 (c + 1) 0 hQ1 (by unfold goF; rw [if_pos rfl]) ?_
              unfold dir4 mx
              repeat' split
              all_goals omega
            · rw [x_le, n2] at z3
              have hQ4 : QB k (c - w) u (q_si t1 8 k 1 (nI c - t1.1 2 o 12)) := by rw [cw t1 _ hQ1, pk_sub (by omega)]; exact hQ1.put
              refine fin _ (c - w) 3 hQ4 (by unfold goF; rw [if_neg (by decide), if_neg (by decide), if_neg (by decide), if_pos rfl]) ?_
              unfold dir4 mx
              repeat' split
              all_goals omega
        · rw [x_le, n2] at z2
          have hQ3 : QB k (c - 1) u (q_si t1 8 k 1 (nI c - 1)) := by rw [show nI c - 1 = nI (c - 1) from pk_sub (b := 1) hc1]; exact hQ1.put
          generalize q_si t1 8 k 1 (nI c - 1) = t3 at hQ3 ⊢
          refine ev_lt.mpr ?_
          by_cases hl : c < w
          · refine dr_endN (by rw [cw t3 _ hQ3]; exact neg_low w (by omega) c hl) ?_
            have b3 := a3f hl
            refine fin t3 (c - 1) 2 hQ3 (by unfold goF; rw [if_neg (by decide), if_neg (by decide), if_pos rfl]) ?_
            unfold dir4 mx
            repeat' split
            all_goals omega
          · have b3 := a3t hl
            refine dr_end (s := 2 * (c - w) + 1) hd (by omega) (by rw [cw t3 _ hQ3, pk_sub (by omega)]; rw [show (2 : Int32) * nI (c - w) = nI (2 * (c - w)) from pk_mul 2 _]; exact nI_add _ 1) (hQ3.sn hn) (sd_low hc (by omega)) (fun z3 => ?_) (fun z3 => ?_)
            · rw [x_le, n2, n2] at z3
              refine fin t3 (c - 1) 2 hQ3 (by unfold goF; rw [if_neg (by decide), if_neg (by decide), if_pos rfl]) ?_
              unfold dir4 mx
              repeat' split
              all_goals omega
            · rw [x_le, n2, n2] at z3
              have hQ4 : QB k (c - w) u (q_si t3 8 k 1 (nI c - t3.1 2 o 12)) := by rw [cw t3 _ hQ3, pk_sub (by omega)]; exact hQ3.put
              refine fin _ (c - w) 3 hQ4 (by unfold goF; rw [if_neg (by decide), if_neg (by decide), if_neg (by decide), if_pos rfl]) ?_
              unfold dir4 mx
              repeat' split
              all_goals omega
    · have b1 := a1t s1
      rw [x_le] at z1
      have hQ2 : QB k (c + w) u (q_si t1 8 k 1 (nI c + t1.1 2 o 12)) := by rw [cw t1 _ hQ1, nI_add]; exact hQ1.put
      generalize q_si t1 8 k 1 (nI c + t1.1 2 o 12) = t2 at hQ2 ⊢
      refine ev_lt.mpr ?_
      by_cases hl2 : c % w = 0
      · have b2 := a2f hl2
        refine dr_none (hnone t2 _ hQ2 hl2) ?_
        refine ev_lt.mpr ?_
        by_cases hl : c < w
        · refine dr_endN (by rw [cw t2 _ hQ2]; exact neg_low w (by omega) c hl) ?_
          have b3 := a3f hl
          refine fin t2 (c + w) 1 hQ2 (by unfold goF; rw [if_neg (by decide), if_pos rfl]) ?_
          unfold dir4 mx
          repeat' split
          all_goals omega
        · have b3 := a3t hl
          refine dr_end (s := 2 * (c - w) + 1) hd (by omega) (by rw [cw t2 _ hQ2, pk_sub (by omega)]; rw [show (2 : Int32) * nI (c - w) = nI (2 * (c - w)) from pk_mul 2 _]; exact nI_add _ 1) (hQ2.sn hn) (sd_low hc (by omega)) (fun z3 => ?_) (fun z3 => ?_)
          · rw [x_le, n2] at z3
            refine fin t2 (c + w) 1 hQ2 (by unfold goF; rw [if_neg (by decide), if_pos rfl]) ?_
            unfold dir4 mx
            repeat' split
            all_goals omega
          · rw [x_le, n2] at z3
            have hQ4 : QB k (c - w) u (q_si t2 8 k 1 (nI c - t2.1 2 o 12)) := by rw [cw t2 _ hQ2, pk_sub (by omega)]; exact hQ2.put
            refine fin _ (c - w) 3 hQ4 (by unfold goF; rw [if_neg (by decide), if_neg (by decide), if_neg (by decide), if_pos rfl]) ?_
            unfold dir4 mx
            repeat' split
            all_goals omega
      · have b2 := a2t hl2
        have hc1 : 1 ≤ c := Nat.pos_of_ne_zero (fun z => hl2 (by rw [z, Nat.zero_mod]))
        refine dr_neg (s := 2 * (c - 1)) hd (by omega) (by rw [show nI c - 1 = nI (c - 1) from pk_sub (b := 1) hc1]; exact pk_mul 2 _) (hQ2.sn hn) (sd_left (by omega) hc hl2) (fun z2 => ?_) (fun z2 => ?_)
        · rw [x_le, n2] at z2
          refine ev_lt.mpr ?_
          by_cases hl : c < w
          · refine dr_endN (by rw [cw t2 _ hQ2]; exact neg_low w (by omega) c hl) ?_
            have b3 := a3f hl
            refine fin t2 (c + w) 1 hQ2 (by unfold goF; rw [if_neg (by decide), if_pos rfl]) ?_
            unfold dir4 mx
            repeat' split
            all_goals omega
          · have b3 := a3t hl
            refine dr_end (s := 2 * (c - w) + 1) hd (by omega) (by rw [cw t2 _ hQ2, pk_sub (by omega)]; rw [show (2 : Int32) * nI (c - w) = nI (2 * (c - w)) from pk_mul 2 _]; exact nI_add _ 1) (hQ2.sn hn) (sd_low hc (by omega)) (fun z3 => ?_) (fun z3 => ?_)
            · rw [x_le, n2] at z3
              refine fin t2 (c + w) 1 hQ2 (by unfold goF; rw [if_neg (by decide), if_pos rfl]) ?_
              unfold dir4 mx
              repeat' split
              all_goals omega
            · rw [x_le, n2] at z3
              have hQ4 : QB k (c - w) u (q_si t2 8 k 1 (nI c - t2.1 2 o 12)) := by rw [cw t2 _ hQ2, pk_sub (by omega)]; exact hQ2.put
              refine fin _ (c - w) 3 hQ4 (by unfold goF; rw [if_neg (by decide), if_neg (by decide), if_neg (by decide), if_pos rfl]) ?_
              unfold dir4 mx
              repeat' split
              all_goals omega
        · rw [x_le, n2] at z2
          have hQ3 : QB k (c - 1) u (q_si t2 8 k 1 (nI c - 1)) := by rw [show nI c - 1 = nI (c - 1) from pk_sub (b := 1) hc1]; exact hQ2.put
          generalize q_si t2 8 k 1 (nI c - 1) = t3 at hQ3 ⊢
          refine ev_lt.mpr ?_
          by_cases hl : c < w
          · refine dr_endN (by rw [cw t3 _ hQ3]; exact neg_low w (by omega) c hl) ?_
            have b3 := a3f hl
            refine fin t3 (c - 1) 2 hQ3 (by unfold goF; rw [if_neg (by decide), if_neg (by decide), if_pos rfl]) ?_
            unfold dir4 mx
            repeat' split
            all_goals omega
          · have b3 := a3t hl
            refine dr_end (s := 2 * (c - w) + 1) hd (by omega) (by rw [cw t3 _ hQ3, pk_sub (by omega)]; rw [show (2 : Int32) * nI (c - w) = nI (2 * (c - w)) from pk_mul 2 _]; exact nI_add _ 1) (hQ3.sn hn) (sd_low hc (by omega)) (fun z3 => ?_) (fun z3 => ?_)
            · rw [x_le, n2, n2] at z3
              refine fin t3 (c - 1) 2 hQ3 (by unfold goF; rw [if_neg (by decide), if_neg (by decide), if_pos rfl]) ?_
              unfold dir4 mx
              repeat' split
              all_goals omega
            · rw [x_le, n2, n2] at z3
              have hQ4 : QB k (c - w) u (q_si t3 8 k 1 (nI c - t3.1 2 o 12)) := by rw [cw t3 _ hQ3, pk_sub (by omega)]; exact hQ3.put
              refine fin _ (c - w) 3 hQ4 (by unfold goF; rw [if_neg (by decide), if_neg (by decide), if_neg (by decide), if_pos rfl]) ?_
              unfold dir4 mx
              repeat' split
              all_goals omega


