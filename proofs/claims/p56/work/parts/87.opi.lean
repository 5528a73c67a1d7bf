def lz (ne : Nat → Bool) (on : Nat → Nat) (n : Nat) : Nat → Nat → Bool
  | 0, _ => false
  | d + 1, x => if ne x = true then (if on x = n then true else lz ne on n d (on x)) else false
theorem lp_lies {n : Nat} {th ne : Nat → Bool} {on dep : Nat → Nat} {u : qM} {e1 e2 e3 : qM → Option (Int32 × qM)} {P : Int32 → qM → Prop} (hn6 : n < 6) (hf : CF u th ne on) (hn : NF th ne on dep) : ∀ d f k x, k + d = 6 → d < f → x < 6 → th x = true → (lz ne on n d x = true → Ev (e3 u) P) → (lz ne on n d x = false → Ev (e1 u) P ∧ Ev (e2 u) P) → Ev (L_X10_liesIn_5 (nI n) f (nI x) (nI k) u e1 e2 e3) P := by
  intro d
  induction d with
  | zero =>
    intro f k x hk hf1 hx ht K1 K0
    obtain ⟨g, rfl⟩ : ∃ g, f = g + 1 := ⟨f - 1, by omega⟩
    obtain rfl : k = 6 := hk
    simp (disch := first | omega | decide) only [Nat.reduceAdd, Nat.reduceMul, ↓ev_bd, ↓ev_ck, ↓ev_if, ↓ev_lt, ↓ev_jn, ↓ev_so, ↓reduceIte, ↓ev_within, ↓ev_isBoard, ↓ev_isNumber, ↓ev_foundN, ↓ev_found_1, ↓ev_found_2, ↓ev_found_3, ↓ev_found_4, ↓ev_found_5, true_and, and_true, and_self, eq_self, not_true_eq_false, not_false_eq_true, ite_true, ite_false, true_or, or_true, false_or, or_false, false_and, and_false, ← zi_ni_0, ← zi_ni_1, ← zi_ni_2, ← zi_ni_3, ← zi_ni_4, ← zi_ni_5, ← zi_ni_6, ← zi_ni_7, ← zi_ni_8, ← zi_ni_9, ← zi_ni_10, ← zi_ni_12, ← zi_ni_24, ← zi_ni_25, ← zi_ni_40, ← zi_ni_45, ← zi_ni_47, ← zi_ni_48, ← zi_ni_95, ← zi_ni_96, ← zi_ni_97, ← zi_ni_100, ← zi_ni_144, ← zi_ni_288, nI_ltI, nI_leI, nI_eqI, nlt_T, nlt_F, nle_T, nle_F, neq_T, neq_F, nI_add, pk_mul, nI_clamp, q_inT, ng_lt, ng_tl, ng_le, ng_el, ng_eq, ng_qe, q_b0, q_b1, nar_0, nar_1, b01, b01', q_bn0, q_bn1, nar_n0, nar_n1, si_k, si_i, si_s, si_e, si_2, sl_1, sl_22, sl_k, sl_i, sl_s, sl_e, sp_1, sp_21, sp_22, sc_k, sc_i, sc_e, sc_2, mF_k, mF_2, mF_0, ↓eu_L_X10_liesIn_5]
    exact (K0 rfl).1
  | succ d ih =>
    intro f k x hk hf1 hx ht K1 K0
    obtain ⟨g, rfl⟩ : ∃ g, f = g + 1 := ⟨f - 1, by omega⟩
    have c1 := hf.1 x hx
    rw [ht, if_pos rfl] at c1
    have hlz : lz ne on n (d + 1) x = (if ne x = true then (if on x = n then true else lz ne on n d (on x)) else false) := rfl
    by_cases h : ne x = true
    · have c2 : u.1 2 x 11 = nI 2 := (hf.2.1 x hx ht).mpr h
      have c3 := hf.2.2 x hx ht h
      obtain ⟨h1, h2, h3, h4, h5⟩ := hn x hx ht h
      rw [if_pos h] at hlz
      by_cases h6 : on x = n
      · rw [if_pos h6] at hlz
        simp (disch := first | omega | decide) only [Nat.reduceAdd, Nat.reduceMul, ↓ev_bd, ↓ev_ck, ↓ev_if, ↓ev_lt, ↓ev_jn, ↓ev_so, ↓reduceIte, ↓ev_within, ↓ev_isBoard, ↓ev_isNumber, ↓ev_foundN, ↓ev_found_1, ↓ev_found_2, ↓ev_found_3, ↓ev_found_4, ↓ev_found_5, true_and, and_true, and_self, eq_self, not_true_eq_false, not_false_eq_true, ite_true, ite_false, true_or, or_true, false_or, or_false, false_and, and_false, ← zi_ni_0, ← zi_ni_1, ← zi_ni_2, ← zi_ni_3, ← zi_ni_4, ← zi_ni_5, ← zi_ni_6, ← zi_ni_7, ← zi_ni_8, ← zi_ni_9, ← zi_ni_10, ← zi_ni_12, ← zi_ni_24, ← zi_ni_25, ← zi_ni_40, ← zi_ni_45, ← zi_ni_47, ← zi_ni_48, ← zi_ni_95, ← zi_ni_96, ← zi_ni_97, ← zi_ni_100, ← zi_ni_144, ← zi_ni_288, nI_ltI, nI_leI, nI_eqI, nlt_T, nlt_F, nle_T, nle_F, neq_T, neq_F, nI_add, pk_mul, nI_clamp, q_inT, ng_lt, ng_tl, ng_le, ng_el, ng_eq, ng_qe, q_b0, q_b1, nar_0, nar_1, b01, b01', q_bn0, q_bn1, nar_n0, nar_n1, si_k, si_i, si_s, si_e, si_2, sl_1, sl_22, sl_k, sl_i, sl_s, sl_e, sp_1, sp_21, sp_22, sc_k, sc_i, sc_e, sc_2, mF_k, mF_2, mF_0, ↓eu_L_X10_liesIn_5, c1, c2, c3]
        exact K1 hlz
      · rw [if_neg h6] at hlz
        simp (disch := first | omega | decide) only [Nat.reduceAdd, Nat.reduceMul, ↓ev_bd, ↓ev_ck, ↓ev_if, ↓ev_lt, ↓ev_jn, ↓ev_so, ↓reduceIte, ↓ev_within, ↓ev_isBoard, ↓ev_isNumber, ↓ev_foundN, ↓ev_found_1, ↓ev_found_2, ↓ev_found_3, ↓ev_found_4, ↓ev_found_5, true_and, and_true, and_self, eq_self, not_true_eq_false, not_false_eq_true, ite_true, ite_false, true_or, or_true, false_or, or_false, false_and, and_false, ← zi_ni_0, ← zi_ni_1, ← zi_ni_2, ← zi_ni_3, ← zi_ni_4, ← zi_ni_5, ← zi_ni_6, ← zi_ni_7, ← zi_ni_8, ← zi_ni_9, ← zi_ni_10, ← zi_ni_12, ← zi_ni_24, ← zi_ni_25, ← zi_ni_40, ← zi_ni_45, ← zi_ni_47, ← zi_ni_48, ← zi_ni_95, ← zi_ni_96, ← zi_ni_97, ← zi_ni_100, ← zi_ni_144, ← zi_ni_288, nI_ltI, nI_leI, nI_eqI, nlt_T, nlt_F, nle_T, nle_F, neq_T, neq_F, nI_add, pk_mul, nI_clamp, q_inT, ng_lt, ng_tl, ng_le, ng_el, ng_eq, ng_qe, q_b0, q_b1, nar_0, nar_1, b01, b01', q_bn0, q_bn1, nar_n0, nar_n1, si_k, si_i, si_s, si_e, si_2, sl_1, sl_22, sl_k, sl_i, sl_s, sl_e, sp_1, sp_21, sp_22, sc_k, sc_i, sc_e, sc_2, mF_k, mF_2, mF_0, ↓eu_L_X10_liesIn_5, c1, c2, c3]
        exact ih g (k + 1) (on x) (by omega) (by omega) h1 h3 (fun q => K1 (hlz.trans q)) (fun q => K0 (hlz.trans q))
    · have c2 : ¬ u.1 2 x 11 = nI 2 := fun q => h ((hf.2.1 x hx ht).mp q)
      rw [if_neg h] at hlz
      simp (disch := first | omega | decide) only [Nat.reduceAdd, Nat.reduceMul, ↓ev_bd, ↓ev_ck, ↓ev_if, ↓ev_lt, ↓ev_jn, ↓ev_so, ↓reduceIte, ↓ev_within, ↓ev_isBoard, ↓ev_isNumber, ↓ev_foundN, ↓ev_found_1, ↓ev_found_2, ↓ev_found_3, ↓ev_found_4, ↓ev_found_5, true_and, and_true, and_self, eq_self, not_true_eq_false, not_false_eq_true, ite_true, ite_false, true_or, or_true, false_or, or_false, false_and, and_false, ← zi_ni_0, ← zi_ni_1, ← zi_ni_2, ← zi_ni_3, ← zi_ni_4, ← zi_ni_5, ← zi_ni_6, ← zi_ni_7, ← zi_ni_8, ← zi_ni_9, ← zi_ni_10, ← zi_ni_12, ← zi_ni_24, ← zi_ni_25, ← zi_ni_40, ← zi_ni_45, ← zi_ni_47, ← zi_ni_48, ← zi_ni_95, ← zi_ni_96, ← zi_ni_97, ← zi_ni_100, ← zi_ni_144, ← zi_ni_288, nI_ltI, nI_leI, nI_eqI, nlt_T, nlt_F, nle_T, nle_F, neq_T, neq_F, nI_add, pk_mul, nI_clamp, q_inT, ng_lt, ng_tl, ng_le, ng_el, ng_eq, ng_qe, q_b0, q_b1, nar_0, nar_1, b01, b01', q_bn0, q_bn1, nar_n0, nar_n1, si_k, si_i, si_s, si_e, si_2, sl_1, sl_22, sl_k, sl_i, sl_s, sl_e, sp_1, sp_21, sp_22, sc_k, sc_i, sc_e, sc_2, mF_k, mF_2, mF_0, ↓eu_L_X10_liesIn_5, c1, c2]
      exact (K0 hlz).2
theorem ev_liesIn {b n : Nat} {th ne : Nat → Bool} {on dep : Nat → Nat} {u : qM} {P : Int32 → qM → Prop} (hn6 : n < 6) (hb : b < 6) (ht : th b = true) (hf : CF u th ne on) (hn : NF th ne on dep) (K1 : lz ne on n 6 b = true → P 1 u) (K0 : lz ne on n 6 b = false → P 0 u) : Ev (f_X10_liesIn (nI b) (nI n) u) P := by
  simp (disch := first | omega | decide) only [Nat.reduceAdd, Nat.reduceMul, ↓ev_bd, ↓ev_ck, ↓ev_if, ↓ev_lt, ↓ev_jn, ↓ev_so, ↓reduceIte, ↓ev_within, ↓ev_isBoard, ↓ev_isNumber, ↓ev_foundN, ↓ev_found_1, ↓ev_found_2, ↓ev_found_3, ↓ev_found_4, ↓ev_found_5, true_and, and_true, and_self, eq_self, not_true_eq_false, not_false_eq_true, ite_true, ite_false, true_or, or_true, false_or, or_false, false_and, and_false, ← zi_ni_0, ← zi_ni_1, ← zi_ni_2, ← zi_ni_3, ← zi_ni_4, ← zi_ni_5, ← zi_ni_6, ← zi_ni_7, ← zi_ni_8, ← zi_ni_9, ← zi_ni_10, ← zi_ni_12, ← zi_ni_24, ← zi_ni_25, ← zi_ni_40, ← zi_ni_45, ← zi_ni_47, ← zi_ni_48, ← zi_ni_95, ← zi_ni_96, ← zi_ni_97, ← zi_ni_100, ← zi_ni_144, ← zi_ni_288, nI_ltI, nI_leI, nI_eqI, nlt_T, nlt_F, nle_T, nle_F, neq_T, neq_F, nI_add, pk_mul, nI_clamp, q_inT, ng_lt, ng_tl, ng_le, ng_el, ng_eq, ng_qe, q_b0, q_b1, nar_0, nar_1, b01, b01', q_bn0, q_bn1, nar_n0, nar_n1, si_k, si_i, si_s, si_e, si_2, sl_1, sl_22, sl_k, sl_i, sl_s, sl_e, sp_1, sp_21, sp_22, sc_k, sc_i, sc_e, sc_2, mF_k, mF_2, mF_0, ↓eu_X10_liesIn]
  exact lp_lies hn6 hf hn 6 q_fu 0 b rfl (by decide) hb ht (fun q => ev_so.mpr (K1 q)) (fun q => ⟨ev_so.mpr (K0 q), ev_so.mpr (K0 q)⟩)
theorem bset_self {v : qB} {t s : Nat} : bset v t s (v t s) = v := by
  funext t' s'
  unfold bset
  by_cases h : t' = t ∧ s' = s
  · rw [if_pos h, h.1, h.2]
  · rw [if_neg h]
