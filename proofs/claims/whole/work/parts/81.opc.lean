/-! The reference: what goes with a board. -/
theorem cnt_del {U : Nat → Bool} {k : Nat} (hk : U k = true) : ∀ N, (k < N → cnt (del U k) N + 1 = cnt U N) ∧ (N ≤ k → cnt (del U k) N = cnt U N)
  | 0 => ⟨fun h => absurd h (Nat.not_lt_zero _), fun _ => rfl⟩
  | N + 1 => by
    obtain ⟨h1, h2⟩ := cnt_del (U := U) (k := k) hk N
    constructor
    · intro h
      by_cases q : N = k
      · subst q
        rw [cnt_f (by rw [del_self]; decide), cnt_t hk, h2 (Nat.le_refl _)]
      · have h3 := h1 (by omega)
        by_cases hu : U N = true
        · rw [cnt_t hu, cnt_t (by rw [del_ne q]; exact hu), ← h3]
        · rw [cnt_f hu, cnt_f (by rw [del_ne q]; exact hu), ← h3]
    · intro h
      have h3 := h2 (by omega)
      by_cases hu : U N = true
      · rw [cnt_t hu, cnt_t (by rw [del_ne (by omega)]; exact hu), h3]
      · rw [cnt_f hu, cnt_f (by rw [del_ne (by omega)]; exact hu), h3]
theorem lp_rm3 {b : Nat} {y : Int32} {u : qM} {e : qM → Option (Unit × qM)} {P : Unit → qM → Prop} (hb : b < 6) (K0 : ∀ u', (∀ k i s, ¬ (k = 105 ∧ i = 0 ∧ s < 8) → ¬ (k = 108 ∧ i = 0 ∧ s < 8) → u'.1 k i s = u.1 k i s) ∧ u'.2 = u.2 ∧ (∀ k, k < 8 → u'.1 105 0 k = if u.1 105 0 k = nI b then -nI 9 else u.1 105 0 k) ∧ (∀ k, k < 8 → u'.1 108 0 k = if u.1 108 0 k = nI b then -nI 9 else u.1 108 0 k) → Ev (e u') P) : Ev (L_X11_clear_96 y (nI b) q_fu 0 u e) P := by
  refine lpc (fun f x t => L_X11_clear_96 y (nI b) f x t e) (fun j t => (∀ k i s, ¬ (k = 105 ∧ i = 0 ∧ s < j) → ¬ (k = 108 ∧ i = 0 ∧ s < j) → t.1 k i s = u.1 k i s) ∧ t.2 = u.2 ∧ (∀ k, k < j → t.1 105 0 k = if u.1 105 0 k = nI b then -nI 9 else u.1 105 0 k) ∧ (∀ k, k < j → t.1 108 0 k = if u.1 108 0 k = nI b then -nI 9 else u.1 108 0 k)) 8 (by decide) u ⟨fun _ _ _ _ _ => rfl, rfl, fun k hk => absurd hk (Nat.not_lt_zero _), fun k hk => absurd hk (Nat.not_lt_zero _)⟩ ?_ ?_
  · rintro f j w hj ⟨g1, g2, g3, g3'⟩ K
    show Ev (L_X11_clear_96 y (nI b) (f + 1) (nI j) w e) P
    have g4 : w.1 105 0 j = u.1 105 0 j := g1 105 0 j (by omega) (by omega)
    have g5 : w.1 108 0 j = u.1 108 0 j := g1 108 0 j (by omega) (by omega)
    have fin : ∀ x y : Int32, x = (if u.1 105 0 j = nI b then -nI 9 else u.1 105 0 j) → y = (if u.1 108 0 j = nI b then -nI 9 else u.1 108 0 j) → (∀ k i s, ¬ (k = 105 ∧ i = 0 ∧ s < j + 1) → ¬ (k = 108 ∧ i = 0 ∧ s < j + 1) → (q_si (q_si w 105 0 j x) 108 0 j y).1 k i s = u.1 k i s) ∧ (q_si (q_si w 105 0 j x) 108 0 j y).2 = u.2 ∧ (∀ k, k < j + 1 → (q_si (q_si w 105 0 j x) 108 0 j y).1 105 0 k = if u.1 105 0 k = nI b then -nI 9 else u.1 105 0 k) ∧ (∀ k, k < j + 1 → (q_si (q_si w 105 0 j x) 108 0 j y).1 108 0 k = if u.1 108 0 k = nI b then -nI 9 else u.1 108 0 k) := by
      intro x y hx hy
      refine ⟨fun k i s h1 h2 => ?_, g2, fun k hk => ?_, fun k hk => ?_⟩
      · rw [show (q_si (q_si w 105 0 j x) 108 0 j y).1 k i s = (q_si w 105 0 j x).1 k i s from if_neg (by omega), show (q_si w 105 0 j x).1 k i s = w.1 k i s from if_neg (by omega)]
        exact g1 k i s (by omega) (by omega)
      · rw [si_k (by decide), si_c]
        by_cases q : k = j
        · subst q
          rw [if_pos rfl, hx]
        · rw [if_neg q]
          exact g3 k (by omega)
      · rw [si_c]
        by_cases q : k = j
        · subst q
          rw [if_pos rfl, hy]
        · rw [if_neg q, si_k (by decide)]
          exact g3' k (by omega)
    by_cases hc : u.1 105 0 j = nI b
    · by_cases hd : u.1 108 0 j = nI b
      · simp (disch := first | omega | decide) only [Nat.reduceAdd, Nat.reduceMul, ↓ev_bd, ↓ev_ck, ↓ev_if, ↓ev_lt, ↓ev_jn, ↓ev_so, ↓reduceIte, ↓ev_within, ↓ev_in, ↓ev_isBoard, ↓ev_isGauge, ↓ev_isNumber, ↓ev_isSix, ↓ev_isEight, ↓ev_foundN, ↓ev_meetsN, ↓ev_found_1, ↓ev_meets_1, ↓ev_found_2, ↓ev_meets_2, ↓ev_found_3, ↓ev_meets_3, ↓ev_found_4, ↓ev_meets_4, ↓ev_found_5, ↓ev_meets_5, true_and, and_true, and_self, eq_self, not_true_eq_false, not_false_eq_true, ite_true, ite_false, true_or, or_true, false_or, or_false, false_and, and_false, ← zi_ni_0, ← zi_ni_1, ← zi_ni_2, ← zi_ni_3, ← zi_ni_4, ← zi_ni_5, ← zi_ni_6, ← zi_ni_7, ← zi_ni_8, ← zi_ni_9, ← zi_ni_10, ← zi_ni_12, ← zi_ni_24, ← zi_ni_25, ← zi_ni_40, ← zi_ni_45, ← zi_ni_47, ← zi_ni_48, ← zi_ni_95, ← zi_ni_96, ← zi_ni_97, ← zi_ni_100, ← zi_ni_144, ← zi_ni_288, nI_ltI, nI_leI, nI_eqI, nlt_T, nlt_F, nle_T, nle_F, neq_T, neq_F, nI_add, pk_mul, nI_clamp, q_inT, ng_lt, ng_tl, ng_le, ng_el, ng_eq, ng_qe, q_b0, q_b1, nar_0, nar_1, b01, b01', q_bn0, q_bn1, nar_n0, nar_n1, si_k, si_i, si_s, si_e, si_2, sl_1, sl_22, sl_k, sl_i, sl_s, sl_e, sp_1, sp_21, sp_22, sc_k, sc_i, sc_e, sc_2, mF_k, mM_k, mF_2, mM_2, mF_0, mM_11, ↓eu_L_X11_clear_96, g4, g5, hc, hd]
        exact K _ (fin _ _ (by rw [if_pos hc]) (by rw [if_pos hd]))
      · simp (disch := first | omega | decide) only [Nat.reduceAdd, Nat.reduceMul, ↓ev_bd, ↓ev_ck, ↓ev_if, ↓ev_lt, ↓ev_jn, ↓ev_so, ↓reduceIte, ↓ev_within, ↓ev_in, ↓ev_isBoard, ↓ev_isGauge, ↓ev_isNumber, ↓ev_isSix, ↓ev_isEight, ↓ev_foundN, ↓ev_meetsN, ↓ev_found_1, ↓ev_meets_1, ↓ev_found_2, ↓ev_meets_2, ↓ev_found_3, ↓ev_meets_3, ↓ev_found_4, ↓ev_meets_4, ↓ev_found_5, ↓ev_meets_5, true_and, and_true, and_self, eq_self, not_true_eq_false, not_false_eq_true, ite_true, ite_false, true_or, or_true, false_or, or_false, false_and, and_false, ← zi_ni_0, ← zi_ni_1, ← zi_ni_2, ← zi_ni_3, ← zi_ni_4, ← zi_ni_5, ← zi_ni_6, ← zi_ni_7, ← zi_ni_8, ← zi_ni_9, ← zi_ni_10, ← zi_ni_12, ← zi_ni_24, ← zi_ni_25, ← zi_ni_40, ← zi_ni_45, ← zi_ni_47, ← zi_ni_48, ← zi_ni_95, ← zi_ni_96, ← zi_ni_97, ← zi_ni_100, ← zi_ni_144, ← zi_ni_288, nI_ltI, nI_leI, nI_eqI, nlt_T, nlt_F, nle_T, nle_F, neq_T, neq_F, nI_add, pk_mul, nI_clamp, q_inT, ng_lt, ng_tl, ng_le, ng_el, ng_eq, ng_qe, q_b0, q_b1, nar_0, nar_1, b01, b01', q_bn0, q_bn1, nar_n0, nar_n1, si_k, si_i, si_s, si_e, si_2, sl_1, sl_22, sl_k, sl_i, sl_s, sl_e, sp_1, sp_21, sp_22, sc_k, sc_i, sc_e, sc_2, mF_k, mM_k, mF_2, mM_2, mF_0, mM_11, ↓eu_L_X11_clear_96, g4, g5, hc, hd]
        exact K _ (fin _ _ (by rw [if_pos hc]) (by rw [if_neg hd]))
    · by_cases hd : u.1 108 0 j = nI b
      · simp (disch := first | omega | decide) only [Nat.reduceAdd, Nat.reduceMul, ↓ev_bd, ↓ev_ck, ↓ev_if, ↓ev_lt, ↓ev_jn, ↓ev_so, ↓reduceIte, ↓ev_within, ↓ev_in, ↓ev_isBoard, ↓ev_isGauge, ↓ev_isNumber, ↓ev_isSix, ↓ev_isEight, ↓ev_foundN, ↓ev_meetsN, ↓ev_found_1, ↓ev_meets_1, ↓ev_found_2, ↓ev_meets_2, ↓ev_found_3, ↓ev_meets_3, ↓ev_found_4, ↓ev_meets_4, ↓ev_found_5, ↓ev_meets_5, true_and, and_true, and_self, eq_self, not_true_eq_false, not_false_eq_true, ite_true, ite_false, true_or, or_true, false_or, or_false, false_and, and_false, ← zi_ni_0, ← zi_ni_1, ← zi_ni_2, ← zi_ni_3, ← zi_ni_4, ← zi_ni_5, ← zi_ni_6, ← zi_ni_7, ← zi_ni_8, ← zi_ni_9, ← zi_ni_10, ← zi_ni_12, ← zi_ni_24, ← zi_ni_25, ← zi_ni_40, ← zi_ni_45, ← zi_ni_47, ← zi_ni_48, ← zi_ni_95, ← zi_ni_96, ← zi_ni_97, ← zi_ni_100, ← zi_ni_144, ← zi_ni_288, nI_ltI, nI_leI, nI_eqI, nlt_T, nlt_F, nle_T, nle_F, neq_T, neq_F, nI_add, pk_mul, nI_clamp, q_inT, ng_lt, ng_tl, ng_le, ng_el, ng_eq, ng_qe, q_b0, q_b1, nar_0, nar_1, b01, b01', q_bn0, q_bn1, nar_n0, nar_n1, si_k, si_i, si_s, si_e, si_2, sl_1, sl_22, sl_k, sl_i, sl_s, sl_e, sp_1, sp_21, sp_22, sc_k, sc_i, sc_e, sc_2, mF_k, mM_k, mF_2, mM_2, mF_0, mM_11, ↓eu_L_X11_clear_96, g4, g5, hc, hd]
        exact K _ (fin _ _ (by rw [if_neg hc]) (by rw [if_pos hd]))
      · simp (disch := first | omega | decide) only [Nat.reduceAdd, Nat.reduceMul, ↓ev_bd, ↓ev_ck, ↓ev_if, ↓ev_lt, ↓ev_jn, ↓ev_so, ↓reduceIte, ↓ev_within, ↓ev_in, ↓ev_isBoard, ↓ev_isGauge, ↓ev_isNumber, ↓ev_isSix, ↓ev_isEight, ↓ev_foundN, ↓ev_meetsN, ↓ev_found_1, ↓ev_meets_1, ↓ev_found_2, ↓ev_meets_2, ↓ev_found_3, ↓ev_meets_3, ↓ev_found_4, ↓ev_meets_4, ↓ev_found_5, ↓ev_meets_5, true_and, and_true, and_self, eq_self, not_true_eq_false, not_false_eq_true, ite_true, ite_false, true_or, or_true, false_or, or_false, false_and, and_false, ← zi_ni_0, ← zi_ni_1, ← zi_ni_2, ← zi_ni_3, ← zi_ni_4, ← zi_ni_5, ← zi_ni_6, ← zi_ni_7, ← zi_ni_8, ← zi_ni_9, ← zi_ni_10, ← zi_ni_12, ← zi_ni_24, ← zi_ni_25, ← zi_ni_40, ← zi_ni_45, ← zi_ni_47, ← zi_ni_48, ← zi_ni_95, ← zi_ni_96, ← zi_ni_97, ← zi_ni_100, ← zi_ni_144, ← zi_ni_288, nI_ltI, nI_leI, nI_eqI, nlt_T, nlt_F, nle_T, nle_F, neq_T, neq_F, nI_add, pk_mul, nI_clamp, q_inT, ng_lt, ng_tl, ng_le, ng_el, ng_eq, ng_qe, q_b0, q_b1, nar_0, nar_1, b01, b01', q_bn0, q_bn1, nar_n0, nar_n1, si_k, si_i, si_s, si_e, si_2, sl_1, sl_22, sl_k, sl_i, sl_s, sl_e, sp_1, sp_21, sp_22, sc_k, sc_i, sc_e, sc_2, mF_k, mM_k, mF_2, mM_2, mF_0, mM_11, ↓eu_L_X11_clear_96, g4, g5, hc, hd]
        exact K _ (fin _ _ (by rw [if_neg hc]) (by rw [if_neg hd]))
  · rintro f w g
    show Ev (L_X11_clear_96 y (nI b) (f + 1) (nI 8) w e) P
    simp (disch := first | omega | decide) only [Nat.reduceAdd, Nat.reduceMul, ↓ev_bd, ↓ev_ck, ↓ev_if, ↓ev_lt, ↓ev_jn, ↓ev_so, ↓reduceIte, ↓ev_within, ↓ev_in, ↓ev_isBoard, ↓ev_isGauge, ↓ev_isNumber, ↓ev_isSix, ↓ev_isEight, ↓ev_foundN, ↓ev_meetsN, ↓ev_found_1, ↓ev_meets_1, ↓ev_found_2, ↓ev_meets_2, ↓ev_found_3, ↓ev_meets_3, ↓ev_found_4, ↓ev_meets_4, ↓ev_found_5, ↓ev_meets_5, true_and, and_true, and_self, eq_self, not_true_eq_false, not_false_eq_true, ite_true, ite_false, true_or, or_true, false_or, or_false, false_and, and_false, ← zi_ni_0, ← zi_ni_1, ← zi_ni_2, ← zi_ni_3, ← zi_ni_4, ← zi_ni_5, ← zi_ni_6, ← zi_ni_7, ← zi_ni_8, ← zi_ni_9, ← zi_ni_10, ← zi_ni_12, ← zi_ni_24, ← zi_ni_25, ← zi_ni_40, ← zi_ni_45, ← zi_ni_47, ← zi_ni_48, ← zi_ni_95, ← zi_ni_96, ← zi_ni_97, ← zi_ni_100, ← zi_ni_144, ← zi_ni_288, nI_ltI, nI_leI, nI_eqI, nlt_T, nlt_F, nle_T, nle_F, neq_T, neq_F, nI_add, pk_mul, nI_clamp, q_inT, ng_lt, ng_tl, ng_le, ng_el, ng_eq, ng_qe, q_b0, q_b1, nar_0, nar_1, b01, b01', q_bn0, q_bn1, nar_n0, nar_n1, si_k, si_i, si_s, si_e, si_2, sl_1, sl_22, sl_k, sl_i, sl_s, sl_e, sp_1, sp_21, sp_22, sc_k, sc_i, sc_e, sc_2, mF_k, mM_k, mF_2, mM_2, mF_0, mM_11, ↓eu_L_X11_clear_96]
    exact K0 _ g
theorem ClM_del {μ0 u u' : qM} {U : Nat → Bool} {b : Nat} (hb : b < 6) (h : ClM μ0 U u) (g1 : ∀ k i s, ¬ (k = 105 ∧ i = 0 ∧ s < 8) → ¬ (k = 108 ∧ i = 0 ∧ s < 8) → u'.1 k i s = (q_si u 74 0 b (-nI 9)).1 k i s) (g2 : u'.2 = u.2) (g3 : ∀ k, k < 8 → u'.1 105 0 k = if u.1 105 0 k = nI b then -nI 9 else u.1 105 0 k) (g4 : ∀ k, k < 8 → u'.1 108 0 k = if u.1 108 0 k = nI b then -nI 9 else u.1 108 0 k) : ClM μ0 (del U b) u' := by
  obtain ⟨a1, a2, a3, a4, a5⟩ := h
  refine ⟨fun k i s h1 h2 h3 => ?_, g2.trans a2, fun x hx => ?_, fun k hk => ?_, fun k hk => ?_⟩
  · rw [g1 k i s (fun z => h2 ⟨z.1, z.2.1⟩) (fun z => h3 ⟨z.1, z.2.1⟩), show (q_si u 74 0 b (-nI 9)).1 k i s = u.1 k i s from if_neg (by omega)]
    exact a1 k i s h1 h2 h3
  · rw [g1 74 0 x (by omega) (by omega), si_c]
    by_cases q : x = b
    · subst q
      rw [if_pos rfl, del_self, if_neg (by decide)]
    · rw [if_neg q, del_ne q]
      exact a3 x hx
  · rw [g3 k hk, a4 k hk, bo_del hb]
  · rw [g4 k hk, a5 k hk, bo_del hb]
/-- the search for a nest without ground -/
theorem lp_find {x : Int32} {th ne : Nat → Bool} {on dep : Nat → Nat} {U : Nat → Bool} {μ0 u : qM} {e : Int32 → qM → Option (Unit × qM)} {P : Unit → qM → Prop} (hn : NF th ne on dep) (hf : MF μ0 th ne on) (hu : ClM μ0 U u) (hU : ∀ x, x < 6 → U x = true → th x = true) (K0 : (∀ x, x < 6 → U x = true → ne x = true → U (on x) = true) → Ev (e (-nI 9) u) P) (K1 : ∀ k, k < 6 → U k = true → ne k = true → U (on k) = false → Ev (e (nI k) u) P) : Ev (L_X11_clear_25 x (nI 0) q_fu (-nI 9) 0 u e) P := by
  refine lpa (fun f b x' t => L_X11_clear_25 x (nI 0) f b x' t e) (fun i b t => t = u ∧ ((b = -nI 9 ∧ ∀ x, x < i → U x = true → ne x = true → U (on x) = true) ∨ ∃ k, k < 6 ∧ b = nI k ∧ U k = true ∧ ne k = true ∧ U (on k) = false)) 6 (by decide) (-nI 9) u ⟨rfl, .inl ⟨rfl, fun x h => absurd h (Nat.not_lt_zero _)⟩⟩ ?_ ?_
  · rintro f i b w hi ⟨rfl, hb⟩ K
    show Ev (L_X11_clear_25 x (nI 0) (f + 1) b (nI i) w e) P
    obtain ⟨a1, a2, a3, a4, a5⟩ := hu
    have c1 := a3 i hi
    have keep : (U i = true → ne i = true → U (on i) = true) → (b = -nI 9 ∧ ∀ x, x < i + 1 → U x = true → ne x = true → U (on x) = true) ∨ ∃ k, k < 6 ∧ b = nI k ∧ U k = true ∧ ne k = true ∧ U (on k) = false := by
      intro hk
      rcases hb with ⟨h1, h2⟩ | h1
      · refine .inl ⟨h1, fun x hx => ?_⟩
        rcases Nat.lt_or_ge x i with q | q
        · exact h2 x q
        · obtain rfl : x = i := by omega
          exact hk
      · exact .inr h1
    by_cases h1 : U i = true
    · have ht := hU i hi h1
      obtain ⟨kk, hk3, c2, c3⟩ := hf.2.1 i hi ht
      rw [h1, if_pos rfl, c2] at c1
      by_cases h2 : ne i = true
      · obtain rfl : kk = 2 := c3.mpr h2
        obtain ⟨g1, g2, g3, g4, g5⟩ := hn i hi ht h2
        have c4 : w.1 96 0 i = nI (on i) := (a1 96 0 i (by omega) (by omega) (by omega)).trans (hf.2.2 i hi ht h2)
        have c5 := a3 (on i) g1
        by_cases h3 : U (on i) = true
        · obtain ⟨k2, hk2, c6, c7⟩ := hf.2.1 (on i) g1 g3
          rw [h3, if_pos rfl, c6] at c5
          simp (disch := first | omega | decide) only [Nat.reduceAdd, Nat.reduceMul, ↓ev_bd, ↓ev_ck, ↓ev_if, ↓ev_lt, ↓ev_jn, ↓ev_so, ↓reduceIte, ↓ev_within, ↓ev_in, ↓ev_isBoard, ↓ev_isGauge, ↓ev_isNumber, ↓ev_isSix, ↓ev_isEight, ↓ev_foundN, ↓ev_meetsN, ↓ev_found_1, ↓ev_meets_1, ↓ev_found_2, ↓ev_meets_2, ↓ev_found_3, ↓ev_meets_3, ↓ev_found_4, ↓ev_meets_4, ↓ev_found_5, ↓ev_meets_5, true_and, and_true, and_self, eq_self, not_true_eq_false, not_false_eq_true, ite_true, ite_false, true_or, or_true, false_or, or_false, false_and, and_false, ← zi_ni_0, ← zi_ni_1, ← zi_ni_2, ← zi_ni_3, ← zi_ni_4, ← zi_ni_5, ← zi_ni_6, ← zi_ni_7, ← zi_ni_8, ← zi_ni_9, ← zi_ni_10, ← zi_ni_12, ← zi_ni_24, ← zi_ni_25, ← zi_ni_40, ← zi_ni_45, ← zi_ni_47, ← zi_ni_48, ← zi_ni_95, ← zi_ni_96, ← zi_ni_97, ← zi_ni_100, ← zi_ni_144, ← zi_ni_288, nI_ltI, nI_leI, nI_eqI, nlt_T, nlt_F, nle_T, nle_F, neq_T, neq_F, nI_add, pk_mul, nI_clamp, q_inT, ng_lt, ng_tl, ng_le, ng_el, ng_eq, ng_qe, q_b0, q_b1, nar_0, nar_1, b01, b01', q_bn0, q_bn1, nar_n0, nar_n1, si_k, si_i, si_s, si_e, si_2, sl_1, sl_22, sl_k, sl_i, sl_s, sl_e, sp_1, sp_21, sp_22, sc_k, sc_i, sc_e, sc_2, mF_k, mM_k, mF_2, mM_2, mF_0, mM_11, ↓eu_L_X11_clear_25, c1, c4, c5]
          exact K _ _ ⟨rfl, keep (fun _ _ => h3)⟩
        · rw [nf h3, if_neg (by decide)] at c5
          simp (disch := first | omega | decide) only [Nat.reduceAdd, Nat.reduceMul, ↓ev_bd, ↓ev_ck, ↓ev_if, ↓ev_lt, ↓ev_jn, ↓ev_so, ↓reduceIte, ↓ev_within, ↓ev_in, ↓ev_isBoard, ↓ev_isGauge, ↓ev_isNumber, ↓ev_isSix, ↓ev_isEight, ↓ev_foundN, ↓ev_meetsN, ↓ev_found_1, ↓ev_meets_1, ↓ev_found_2, ↓ev_meets_2, ↓ev_found_3, ↓ev_meets_3, ↓ev_found_4, ↓ev_meets_4, ↓ev_found_5, ↓ev_meets_5, true_and, and_true, and_self, eq_self, not_true_eq_false, not_false_eq_true, ite_true, ite_false, true_or, or_true, false_or, or_false, false_and, and_false, ← zi_ni_0, ← zi_ni_1, ← zi_ni_2, ← zi_ni_3, ← zi_ni_4, ← zi_ni_5, ← zi_ni_6, ← zi_ni_7, ← zi_ni_8, ← zi_ni_9, ← zi_ni_10, ← zi_ni_12, ← zi_ni_24, ← zi_ni_25, ← zi_ni_40, ← zi_ni_45, ← zi_ni_47, ← zi_ni_48, ← zi_ni_95, ← zi_ni_96, ← zi_ni_97, ← zi_ni_100, ← zi_ni_144, ← zi_ni_288, nI_ltI, nI_leI, nI_eqI, nlt_T, nlt_F, nle_T, nle_F, neq_T, neq_F, nI_add, pk_mul, nI_clamp, q_inT, ng_lt, ng_tl, ng_le, ng_el, ng_eq, ng_qe, q_b0, q_b1, nar_0, nar_1, b01, b01', q_bn0, q_bn1, nar_n0, nar_n1, si_k, si_i, si_s, si_e, si_2, sl_1, sl_22, sl_k, sl_i, sl_s, sl_e, sp_1, sp_21, sp_22, sc_k, sc_i, sc_e, sc_2, mF_k, mM_k, mF_2, mM_2, mF_0, mM_11, ↓eu_L_X11_clear_25, c1, c4, c5]
          exact K _ _ ⟨rfl, .inr ⟨i, hi, rfl, h1, h2, nf h3⟩⟩
      · have hk2 : ¬ kk = 2 := fun q => h2 (c3.mp q)
        simp (disch := first | omega | decide) only [Nat.reduceAdd, Nat.reduceMul, ↓ev_bd, ↓ev_ck, ↓ev_if, ↓ev_lt, ↓ev_jn, ↓ev_so, ↓reduceIte, ↓ev_within, ↓ev_in, ↓ev_isBoard, ↓ev_isGauge, ↓ev_isNumber, ↓ev_isSix, ↓ev_isEight, ↓ev_foundN, ↓ev_meetsN, ↓ev_found_1, ↓ev_meets_1, ↓ev_found_2, ↓ev_meets_2, ↓ev_found_3, ↓ev_meets_3, ↓ev_found_4, ↓ev_meets_4, ↓ev_found_5, ↓ev_meets_5, true_and, and_true, and_self, eq_self, not_true_eq_false, not_false_eq_true, ite_true, ite_false, true_or, or_true, false_or, or_false, false_and, and_false, ← zi_ni_0, ← zi_ni_1, ← zi_ni_2, ← zi_ni_3, ← zi_ni_4, ← zi_ni_5, ← zi_ni_6, ← zi_ni_7, ← zi_ni_8, ← zi_ni_9, ← zi_ni_10, ← zi_ni_12, ← zi_ni_24, ← zi_ni_25, ← zi_ni_40, ← zi_ni_45, ← zi_ni_47, ← zi_ni_48, ← zi_ni_95, ← zi_ni_96, ← zi_ni_97, ← zi_ni_100, ← zi_ni_144, ← zi_ni_288, nI_ltI, nI_leI, nI_eqI, nlt_T, nlt_F, nle_T, nle_F, neq_T, neq_F, nI_add, pk_mul, nI_clamp, q_inT, ng_lt, ng_tl, ng_le, ng_el, ng_eq, ng_qe, q_b0, q_b1, nar_0, nar_1, b01, b01', q_bn0, q_bn1, nar_n0, nar_n1, si_k, si_i, si_s, si_e, si_2, sl_1, sl_22, sl_k, sl_i, sl_s, sl_e, sp_1, sp_21, sp_22, sc_k, sc_i, sc_e, sc_2, mF_k, mM_k, mF_2, mM_2, mF_0, mM_11, ↓eu_L_X11_clear_25, c1]
        exact K _ _ ⟨rfl, keep (fun _ q => absurd q h2)⟩
    · rw [nf h1, if_neg (by decide)] at c1
      simp (disch := first | omega | decide) only [Nat.reduceAdd, Nat.reduceMul, ↓ev_bd, ↓ev_ck, ↓ev_if, ↓ev_lt, ↓ev_jn, ↓ev_so, ↓reduceIte, ↓ev_within, ↓ev_in, ↓ev_isBoard, ↓ev_isGauge, ↓ev_isNumber, ↓ev_isSix, ↓ev_isEight, ↓ev_foundN, ↓ev_meetsN, ↓ev_found_1, ↓ev_meets_1, ↓ev_found_2, ↓ev_meets_2, ↓ev_found_3, ↓ev_meets_3, ↓ev_found_4, ↓ev_meets_4, ↓ev_found_5, ↓ev_meets_5, true_and, and_true, and_self, eq_self, not_true_eq_false, not_false_eq_true, ite_true, ite_false, true_or, or_true, false_or, or_false, false_and, and_false, ← zi_ni_0, ← zi_ni_1, ← zi_ni_2, ← zi_ni_3, ← zi_ni_4, ← zi_ni_5, ← zi_ni_6, ← zi_ni_7, ← zi_ni_8, ← zi_ni_9, ← zi_ni_10, ← zi_ni_12, ← zi_ni_24, ← zi_ni_25, ← zi_ni_40, ← zi_ni_45, ← zi_ni_47, ← zi_ni_48, ← zi_ni_95, ← zi_ni_96, ← zi_ni_97, ← zi_ni_100, ← zi_ni_144, ← zi_ni_288, nI_ltI, nI_leI, nI_eqI, nlt_T, nlt_F, nle_T, nle_F, neq_T, neq_F, nI_add, pk_mul, nI_clamp, q_inT, ng_lt, ng_tl, ng_le, ng_el, ng_eq, ng_qe, q_b0, q_b1, nar_0, nar_1, b01, b01', q_bn0, q_bn1, nar_n0, nar_n1, si_k, si_i, si_s, si_e, si_2, sl_1, sl_22, sl_k, sl_i, sl_s, sl_e, sp_1, sp_21, sp_22, sc_k, sc_i, sc_e, sc_2, mF_k, mM_k, mF_2, mM_2, mF_0, mM_11, ↓eu_L_X11_clear_25, c1]
      exact K _ _ ⟨rfl, keep (fun q => absurd q h1)⟩
  · rintro f b w ⟨rfl, hb⟩
    show Ev (L_X11_clear_25 x (nI 0) (f + 1) b (nI 6) w e) P
    simp (disch := first | omega | decide) only [Nat.reduceAdd, Nat.reduceMul, ↓ev_bd, ↓ev_ck, ↓ev_if, ↓ev_lt, ↓ev_jn, ↓ev_so, ↓reduceIte, ↓ev_within, ↓ev_in, ↓ev_isBoard, ↓ev_isGauge, ↓ev_isNumber, ↓ev_isSix, ↓ev_isEight, ↓ev_foundN, ↓ev_meetsN, ↓ev_found_1, ↓ev_meets_1, ↓ev_found_2, ↓ev_meets_2, ↓ev_found_3, ↓ev_meets_3, ↓ev_found_4, ↓ev_meets_4, ↓ev_found_5, ↓ev_meets_5, true_and, and_true, and_self, eq_self, not_true_eq_false, not_false_eq_true, ite_true, ite_false, true_or, or_true, false_or, or_false, false_and, and_false, ← zi_ni_0, ← zi_ni_1, ← zi_ni_2, ← zi_ni_3, ← zi_ni_4, ← zi_ni_5, ← zi_ni_6, ← zi_ni_7, ← zi_ni_8, ← zi_ni_9, ← zi_ni_10, ← zi_ni_12, ← zi_ni_24, ← zi_ni_25, ← zi_ni_40, ← zi_ni_45, ← zi_ni_47, ← zi_ni_48, ← zi_ni_95, ← zi_ni_96, ← zi_ni_97, ← zi_ni_100, ← zi_ni_144, ← zi_ni_288, nI_ltI, nI_leI, nI_eqI, nlt_T, nlt_F, nle_T, nle_F, neq_T, neq_F, nI_add, pk_mul, nI_clamp, q_inT, ng_lt, ng_tl, ng_le, ng_el, ng_eq, ng_qe, q_b0, q_b1, nar_0, nar_1, b01, b01', q_bn0, q_bn1, nar_n0, nar_n1, si_k, si_i, si_s, si_e, si_2, sl_1, sl_22, sl_k, sl_i, sl_s, sl_e, sp_1, sp_21, sp_22, sc_k, sc_i, sc_e, sc_2, mF_k, mM_k, mF_2, mM_2, mF_0, mM_11, ↓eu_L_X11_clear_25]
    rcases hb with ⟨rfl, h2⟩ | ⟨k, h1, rfl, h2, h3, h4⟩
    · exact K0 h2
    · exact K1 k h1 h2 h3 h4
theorem lp_mclear {b : Nat} {th ne : Nat → Bool} {on dep : Nat → Nat} {μ0 : qM} {e : qM → Option (Unit × qM)} {P : Unit → qM → Prop} (hb : b < 6) (hn : NF th ne on dep) (hf : MF μ0 th ne on) (K0 : ∀ U u', ClM μ0 U u' → EU th ne on b U → Ev (e u') P) : ∀ c f U u, cnt U 6 ≤ c → c + 1 < f → ClM μ0 U u → (∀ x, x < 6 → U x = true → th x = true ∧ x ≠ b) → (∀ x, x < 6 → th x = true → x ≠ b → U x = false → ne x = true ∧ U (on x) = false) → Ev (L_X11_clear_4 (nI b) f (nI 1) (nI 0) u e) P := by
  intro c
  induction c with
  | zero =>
    intro f U u hc hf1 hu j1 j2
    obtain ⟨g, rfl⟩ : ∃ g, f = g + 2 := ⟨f - 2, by omega⟩
    simp (disch := first | omega | decide) only [Nat.reduceAdd, Nat.reduceMul, ↓ev_bd, ↓ev_ck, ↓ev_if, ↓ev_lt, ↓ev_jn, ↓ev_so, ↓reduceIte, ↓ev_within, ↓ev_in, ↓ev_isBoard, ↓ev_isGauge, ↓ev_isNumber, ↓ev_isSix, ↓ev_isEight, ↓ev_foundN, ↓ev_meetsN, ↓ev_found_1, ↓ev_meets_1, ↓ev_found_2, ↓ev_meets_2, ↓ev_found_3, ↓ev_meets_3, ↓ev_found_4, ↓ev_meets_4, ↓ev_found_5, ↓ev_meets_5, true_and, and_true, and_self, eq_self, not_true_eq_false, not_false_eq_true, ite_true, ite_false, true_or, or_true, false_or, or_false, false_and, and_false, ← zi_ni_0, ← zi_ni_1, ← zi_ni_2, ← zi_ni_3, ← zi_ni_4, ← zi_ni_5, ← zi_ni_6, ← zi_ni_7, ← zi_ni_8, ← zi_ni_9, ← zi_ni_10, ← zi_ni_12, ← zi_ni_24, ← zi_ni_25, ← zi_ni_40, ← zi_ni_45, ← zi_ni_47, ← zi_ni_48, ← zi_ni_95, ← zi_ni_96, ← zi_ni_97, ← zi_ni_100, ← zi_ni_144, ← zi_ni_288, nI_ltI, nI_leI, nI_eqI, nlt_T, nlt_F, nle_T, nle_F, neq_T, neq_F, nI_add, pk_mul, nI_clamp, q_inT, ng_lt, ng_tl, ng_le, ng_el, ng_eq, ng_qe, q_b0, q_b1, nar_0, nar_1, b01, b01', q_bn0, q_bn1, nar_n0, nar_n1, si_k, si_i, si_s, si_e, si_2, sl_1, sl_22, sl_k, sl_i, sl_s, sl_e, sp_1, sp_21, sp_22, sc_k, sc_i, sc_e, sc_2, mF_k, mM_k, mF_2, mM_2, mF_0, mM_11, ↓eu_L_X11_clear_4]
    refine lp_find hn hf hu (fun x hx h => (j1 x hx h).1) (fun hall => ?_) (fun k hk h1 h2 h3 => ?_)
    · simp (disch := first | omega | decide) only [Nat.reduceAdd, Nat.reduceMul, ↓ev_bd, ↓ev_ck, ↓ev_if, ↓ev_lt, ↓ev_jn, ↓ev_so, ↓reduceIte, ↓ev_within, ↓ev_in, ↓ev_isBoard, ↓ev_isGauge, ↓ev_isNumber, ↓ev_isSix, ↓ev_isEight, ↓ev_foundN, ↓ev_meetsN, ↓ev_found_1, ↓ev_meets_1, ↓ev_found_2, ↓ev_meets_2, ↓ev_found_3, ↓ev_meets_3, ↓ev_found_4, ↓ev_meets_4, ↓ev_found_5, ↓ev_meets_5, true_and, and_true, and_self, eq_self, not_true_eq_false, not_false_eq_true, ite_true, ite_false, true_or, or_true, false_or, or_false, false_and, and_false, ← zi_ni_0, ← zi_ni_1, ← zi_ni_2, ← zi_ni_3, ← zi_ni_4, ← zi_ni_5, ← zi_ni_6, ← zi_ni_7, ← zi_ni_8, ← zi_ni_9, ← zi_ni_10, ← zi_ni_12, ← zi_ni_24, ← zi_ni_25, ← zi_ni_40, ← zi_ni_45, ← zi_ni_47, ← zi_ni_48, ← zi_ni_95, ← zi_ni_96, ← zi_ni_97, ← zi_ni_100, ← zi_ni_144, ← zi_ni_288, nI_ltI, nI_leI, nI_eqI, nlt_T, nlt_F, nle_T, nle_F, neq_T, neq_F, nI_add, pk_mul, nI_clamp, q_inT, ng_lt, ng_tl, ng_le, ng_el, ng_eq, ng_qe, q_b0, q_b1, nar_0, nar_1, b01, b01', q_bn0, q_bn1, nar_n0, nar_n1, si_k, si_i, si_s, si_e, si_2, sl_1, sl_22, sl_k, sl_i, sl_s, sl_e, sp_1, sp_21, sp_22, sc_k, sc_i, sc_e, sc_2, mF_k, mM_k, mF_2, mM_2, mF_0, mM_11, ↓eu_L_X11_clear_4]
      refine K0 U _ hu (fun x hx => ⟨fun h => ⟨(j1 x hx h).1, (j1 x hx h).2, fun hq => hall x hx h hq⟩, fun h => ?_⟩)
      cases hux : U x
      · obtain ⟨z1, z2⟩ := j2 x hx h.1 h.2.1 hux
        rw [h.2.2 z1] at z2
        cases z2
      · rfl
    · have := (cnt_del (U := U) h1 6).1 hk
      omega
  | succ c ih =>
    intro f U u hc hf1 hu j1 j2
    obtain ⟨g, rfl⟩ : ∃ g, f = g + 2 := ⟨f - 2, by omega⟩
    simp (disch := first | omega | decide) only [Nat.reduceAdd, Nat.reduceMul, ↓ev_bd, ↓ev_ck, ↓ev_if, ↓ev_lt, ↓ev_jn, ↓ev_so, ↓reduceIte, ↓ev_within, ↓ev_in, ↓ev_isBoard, ↓ev_isGauge, ↓ev_isNumber, ↓ev_isSix, ↓ev_isEight, ↓ev_foundN, ↓ev_meetsN, ↓ev_found_1, ↓ev_meets_1, ↓ev_found_2, ↓ev_meets_2, ↓ev_found_3, ↓ev_meets_3, ↓ev_found_4, ↓ev_meets_4, ↓ev_found_5, ↓ev_meets_5, true_and, and_true, and_self, eq_self, not_true_eq_false, not_false_eq_true, ite_true, ite_false, true_or, or_true, false_or, or_false, false_and, and_false, ← zi_ni_0, ← zi_ni_1, ← zi_ni_2, ← zi_ni_3, ← zi_ni_4, ← zi_ni_5, ← zi_ni_6, ← zi_ni_7, ← zi_ni_8, ← zi_ni_9, ← zi_ni_10, ← zi_ni_12, ← zi_ni_24, ← zi_ni_25, ← zi_ni_40, ← zi_ni_45, ← zi_ni_47, ← zi_ni_48, ← zi_ni_95, ← zi_ni_96, ← zi_ni_97, ← zi_ni_100, ← zi_ni_144, ← zi_ni_288, nI_ltI, nI_leI, nI_eqI, nlt_T, nlt_F, nle_T, nle_F, neq_T, neq_F, nI_add, pk_mul, nI_clamp, q_inT, ng_lt, ng_tl, ng_le, ng_el, ng_eq, ng_qe, q_b0, q_b1, nar_0, nar_1, b01, b01', q_bn0, q_bn1, nar_n0, nar_n1, si_k, si_i, si_s, si_e, si_2, sl_1, sl_22, sl_k, sl_i, sl_s, sl_e, sp_1, sp_21, sp_22, sc_k, sc_i, sc_e, sc_2, mF_k, mM_k, mF_2, mM_2, mF_0, mM_11, ↓eu_L_X11_clear_4]
    refine lp_find hn hf hu (fun x hx h => (j1 x hx h).1) (fun hall => ?_) (fun k hk h1 h2 h3 => ?_)
    · simp (disch := first | omega | decide) only [Nat.reduceAdd, Nat.reduceMul, ↓ev_bd, ↓ev_ck, ↓ev_if, ↓ev_lt, ↓ev_jn, ↓ev_so, ↓reduceIte, ↓ev_within, ↓ev_in, ↓ev_isBoard, ↓ev_isGauge, ↓ev_isNumber, ↓ev_isSix, ↓ev_isEight, ↓ev_foundN, ↓ev_meetsN, ↓ev_found_1, ↓ev_meets_1, ↓ev_found_2, ↓ev_meets_2, ↓ev_found_3, ↓ev_meets_3, ↓ev_found_4, ↓ev_meets_4, ↓ev_found_5, ↓ev_meets_5, true_and, and_true, and_self, eq_self, not_true_eq_false, not_false_eq_true, ite_true, ite_false, true_or, or_true, false_or, or_false, false_and, and_false, ← zi_ni_0, ← zi_ni_1, ← zi_ni_2, ← zi_ni_3, ← zi_ni_4, ← zi_ni_5, ← zi_ni_6, ← zi_ni_7, ← zi_ni_8, ← zi_ni_9, ← zi_ni_10, ← zi_ni_12, ← zi_ni_24, ← zi_ni_25, ← zi_ni_40, ← zi_ni_45, ← zi_ni_47, ← zi_ni_48, ← zi_ni_95, ← zi_ni_96, ← zi_ni_97, ← zi_ni_100, ← zi_ni_144, ← zi_ni_288, nI_ltI, nI_leI, nI_eqI, nlt_T, nlt_F, nle_T, nle_F, neq_T, neq_F, nI_add, pk_mul, nI_clamp, q_inT, ng_lt, ng_tl, ng_le, ng_el, ng_eq, ng_qe, q_b0, q_b1, nar_0, nar_1, b01, b01', q_bn0, q_bn1, nar_n0, nar_n1, si_k, si_i, si_s, si_e, si_2, sl_1, sl_22, sl_k, sl_i, sl_s, sl_e, sp_1, sp_21, sp_22, sc_k, sc_i, sc_e, sc_2, mF_k, mM_k, mF_2, mM_2, mF_0, mM_11, ↓eu_L_X11_clear_4]
      refine K0 U _ hu (fun x hx => ⟨fun h => ⟨(j1 x hx h).1, (j1 x hx h).2, fun hq => hall x hx h hq⟩, fun h => ?_⟩)
      cases hux : U x
      · obtain ⟨z1, z2⟩ := j2 x hx h.1 h.2.1 hux
        rw [h.2.2 z1] at z2
        cases z2
      · rfl
    · simp (disch := first | omega | decide) only [Nat.reduceAdd, Nat.reduceMul, ↓ev_bd, ↓ev_ck, ↓ev_if, ↓ev_lt, ↓ev_jn, ↓ev_so, ↓reduceIte, ↓ev_within, ↓ev_in, ↓ev_isBoard, ↓ev_isGauge, ↓ev_isNumber, ↓ev_isSix, ↓ev_isEight, ↓ev_foundN, ↓ev_meetsN, ↓ev_found_1, ↓ev_meets_1, ↓ev_found_2, ↓ev_meets_2, ↓ev_found_3, ↓ev_meets_3, ↓ev_found_4, ↓ev_meets_4, ↓ev_found_5, ↓ev_meets_5, true_and, and_true, and_self, eq_self, not_true_eq_false, not_false_eq_true, ite_true, ite_false, true_or, or_true, false_or, or_false, false_and, and_false, ← zi_ni_0, ← zi_ni_1, ← zi_ni_2, ← zi_ni_3, ← zi_ni_4, ← zi_ni_5, ← zi_ni_6, ← zi_ni_7, ← zi_ni_8, ← zi_ni_9, ← zi_ni_10, ← zi_ni_12, ← zi_ni_24, ← zi_ni_25, ← zi_ni_40, ← zi_ni_45, ← zi_ni_47, ← zi_ni_48, ← zi_ni_95, ← zi_ni_96, ← zi_ni_97, ← zi_ni_100, ← zi_ni_144, ← zi_ni_288, nI_ltI, nI_leI, nI_eqI, nlt_T, nlt_F, nle_T, nle_F, neq_T, neq_F, nI_add, pk_mul, nI_clamp, q_inT, ng_lt, ng_tl, ng_le, ng_el, ng_eq, ng_qe, q_b0, q_b1, nar_0, nar_1, b01, b01', q_bn0, q_bn1, nar_n0, nar_n1, si_k, si_i, si_s, si_e, si_2, sl_1, sl_22, sl_k, sl_i, sl_s, sl_e, sp_1, sp_21, sp_22, sc_k, sc_i, sc_e, sc_2, mF_k, mM_k, mF_2, mM_2, mF_0, mM_11, ↓eu_L_X11_clear_4]
      refine lp_rm3 hk (fun u' hu' => ?_)
      obtain ⟨p1, p2, p3, p4⟩ := hu'
      try simp (disch := first | omega | decide) only [Nat.reduceAdd, Nat.reduceMul, ↓ev_bd, ↓ev_ck, ↓ev_if, ↓ev_lt, ↓ev_jn, ↓ev_so, ↓reduceIte, ↓ev_within, ↓ev_in, ↓ev_isBoard, ↓ev_isGauge, ↓ev_isNumber, ↓ev_isSix, ↓ev_isEight, ↓ev_foundN, ↓ev_meetsN, ↓ev_found_1, ↓ev_meets_1, ↓ev_found_2, ↓ev_meets_2, ↓ev_found_3, ↓ev_meets_3, ↓ev_found_4, ↓ev_meets_4, ↓ev_found_5, ↓ev_meets_5, true_and, and_true, and_self, eq_self, not_true_eq_false, not_false_eq_true, ite_true, ite_false, true_or, or_true, false_or, or_false, false_and, and_false, ← zi_ni_0, ← zi_ni_1, ← zi_ni_2, ← zi_ni_3, ← zi_ni_4, ← zi_ni_5, ← zi_ni_6, ← zi_ni_7, ← zi_ni_8, ← zi_ni_9, ← zi_ni_10, ← zi_ni_12, ← zi_ni_24, ← zi_ni_25, ← zi_ni_40, ← zi_ni_45, ← zi_ni_47, ← zi_ni_48, ← zi_ni_95, ← zi_ni_96, ← zi_ni_97, ← zi_ni_100, ← zi_ni_144, ← zi_ni_288, nI_ltI, nI_leI, nI_eqI, nlt_T, nlt_F, nle_T, nle_F, neq_T, neq_F, nI_add, pk_mul, nI_clamp, q_inT, ng_lt, ng_tl, ng_le, ng_el, ng_eq, ng_qe, q_b0, q_b1, nar_0, nar_1, b01, b01', q_bn0, q_bn1, nar_n0, nar_n1, si_k, si_i, si_s, si_e, si_2, sl_1, sl_22, sl_k, sl_i, sl_s, sl_e, sp_1, sp_21, sp_22, sc_k, sc_i, sc_e, sc_2, mF_k, mM_k, mF_2, mM_2, mF_0, mM_11]
      have hd := (cnt_del (U := U) h1 6).1 hk
      obtain ⟨g1, g2, g3, g4, g5⟩ := hn k hk (j1 k hk h1).1 h2
      refine ih (g + 1) (del U k) u' (by omega) (by omega) (ClM_del hk hu p1 p2 (fun x hx => by rw [p3 x hx, si_k (by decide)]) (fun x hx => by rw [p4 x hx, si_k (by decide)])) (fun x hx h => j1 x hx (del_le h)) (fun x hx h1' h2' h3' => ?_)
      by_cases q : x = k
      · subst q
        exact ⟨h2, by rw [del_ne g2]; exact h3⟩
      · rw [del_ne q] at h3'
        obtain ⟨z1, z2⟩ := j2 x hx h1' h2' h3'
        refine ⟨z1, nf (fun z => ?_)⟩
        rw [del_le z] at z2
        cases z2
theorem ev_mclear {b : Nat} {th ne : Nat → Bool} {on dep : Nat → Nat} {u : qM} {P : Unit → qM → Prop} (hb : b < 6) (hn : NF th ne on dep) (hf : MF u th ne on) (hB : ∀ k, k < 8 → bo th (u.1 105 0 k) = u.1 105 0 k) (hG : ∀ k, k < 8 → bo th (u.1 108 0 k) = u.1 108 0 k) (K : ∀ U u', EU th ne on b U → ClM u U u' → P () u') : Ev (f_X11_clear (nI b) u) P := by
  have h0 : ClM u th u := by
    refine ⟨fun _ _ _ _ _ _ => rfl, rfl, fun x hx => ?_, fun k hk => (hB k hk).symm, fun k hk => (hG k hk).symm⟩
    cases ht : th x
    · rw [if_neg (by decide), hf.1 x hx ht]
    · rw [if_pos rfl]
  simp (disch := first | omega | decide) only [Nat.reduceAdd, Nat.reduceMul, ↓ev_bd, ↓ev_ck, ↓ev_if, ↓ev_lt, ↓ev_jn, ↓ev_so, ↓reduceIte, ↓ev_within, ↓ev_in, ↓ev_isBoard, ↓ev_isGauge, ↓ev_isNumber, ↓ev_isSix, ↓ev_isEight, ↓ev_foundN, ↓ev_meetsN, ↓ev_found_1, ↓ev_meets_1, ↓ev_found_2, ↓ev_meets_2, ↓ev_found_3, ↓ev_meets_3, ↓ev_found_4, ↓ev_meets_4, ↓ev_found_5, ↓ev_meets_5, true_and, and_true, and_self, eq_self, not_true_eq_false, not_false_eq_true, ite_true, ite_false, true_or, or_true, false_or, or_false, false_and, and_false, ← zi_ni_0, ← zi_ni_1, ← zi_ni_2, ← zi_ni_3, ← zi_ni_4, ← zi_ni_5, ← zi_ni_6, ← zi_ni_7, ← zi_ni_8, ← zi_ni_9, ← zi_ni_10, ← zi_ni_12, ← zi_ni_24, ← zi_ni_25, ← zi_ni_40, ← zi_ni_45, ← zi_ni_47, ← zi_ni_48, ← zi_ni_95, ← zi_ni_96, ← zi_ni_97, ← zi_ni_100, ← zi_ni_144, ← zi_ni_288, nI_ltI, nI_leI, nI_eqI, nlt_T, nlt_F, nle_T, nle_F, neq_T, neq_F, nI_add, pk_mul, nI_clamp, q_inT, ng_lt, ng_tl, ng_le, ng_el, ng_eq, ng_qe, q_b0, q_b1, nar_0, nar_1, b01, b01', q_bn0, q_bn1, nar_n0, nar_n1, si_k, si_i, si_s, si_e, si_2, sl_1, sl_22, sl_k, sl_i, sl_s, sl_e, sp_1, sp_21, sp_22, sc_k, sc_i, sc_e, sc_2, mF_k, mM_k, mF_2, mM_2, mF_0, mM_11, ↓eu_X11_clear]
  refine Ev.eq (show L_X11_clear_4 (nI b) q_fu (nI 1) (nI 1) u _ = L_X11_clear_4 (nI b) (3999 + 1) (nI 1) (nI 1) u _ from rfl) ?_
  simp (disch := first | omega | decide) only [Nat.reduceAdd, Nat.reduceMul, ↓ev_bd, ↓ev_ck, ↓ev_if, ↓ev_lt, ↓ev_jn, ↓ev_so, ↓reduceIte, ↓ev_within, ↓ev_in, ↓ev_isBoard, ↓ev_isGauge, ↓ev_isNumber, ↓ev_isSix, ↓ev_isEight, ↓ev_foundN, ↓ev_meetsN, ↓ev_found_1, ↓ev_meets_1, ↓ev_found_2, ↓ev_meets_2, ↓ev_found_3, ↓ev_meets_3, ↓ev_found_4, ↓ev_meets_4, ↓ev_found_5, ↓ev_meets_5, true_and, and_true, and_self, eq_self, not_true_eq_false, not_false_eq_true, ite_true, ite_false, true_or, or_true, false_or, or_false, false_and, and_false, ← zi_ni_0, ← zi_ni_1, ← zi_ni_2, ← zi_ni_3, ← zi_ni_4, ← zi_ni_5, ← zi_ni_6, ← zi_ni_7, ← zi_ni_8, ← zi_ni_9, ← zi_ni_10, ← zi_ni_12, ← zi_ni_24, ← zi_ni_25, ← zi_ni_40, ← zi_ni_45, ← zi_ni_47, ← zi_ni_48, ← zi_ni_95, ← zi_ni_96, ← zi_ni_97, ← zi_ni_100, ← zi_ni_144, ← zi_ni_288, nI_ltI, nI_leI, nI_eqI, nlt_T, nlt_F, nle_T, nle_F, neq_T, neq_F, nI_add, pk_mul, nI_clamp, q_inT, ng_lt, ng_tl, ng_le, ng_el, ng_eq, ng_qe, q_b0, q_b1, nar_0, nar_1, b01, b01', q_bn0, q_bn1, nar_n0, nar_n1, si_k, si_i, si_s, si_e, si_2, sl_1, sl_22, sl_k, sl_i, sl_s, sl_e, sp_1, sp_21, sp_22, sc_k, sc_i, sc_e, sc_2, mF_k, mM_k, mF_2, mM_2, mF_0, mM_11, ↓eu_L_X11_clear_4]
  refine Ev.eq (show L_X11_clear_25 (nI b) (nI 1) q_fu (nI b) (nI 0) u _ = L_X11_clear_25 (nI b) (nI 1) (3999 + 1) (nI b) (nI 0) u _ from rfl) ?_
  simp (disch := first | omega | decide) only [Nat.reduceAdd, Nat.reduceMul, ↓ev_bd, ↓ev_ck, ↓ev_if, ↓ev_lt, ↓ev_jn, ↓ev_so, ↓reduceIte, ↓ev_within, ↓ev_in, ↓ev_isBoard, ↓ev_isGauge, ↓ev_isNumber, ↓ev_isSix, ↓ev_isEight, ↓ev_foundN, ↓ev_meetsN, ↓ev_found_1, ↓ev_meets_1, ↓ev_found_2, ↓ev_meets_2, ↓ev_found_3, ↓ev_meets_3, ↓ev_found_4, ↓ev_meets_4, ↓ev_found_5, ↓ev_meets_5, true_and, and_true, and_self, eq_self, not_true_eq_false, not_false_eq_true, ite_true, ite_false, true_or, or_true, false_or, or_false, false_and, and_false, ← zi_ni_0, ← zi_ni_1, ← zi_ni_2, ← zi_ni_3, ← zi_ni_4, ← zi_ni_5, ← zi_ni_6, ← zi_ni_7, ← zi_ni_8, ← zi_ni_9, ← zi_ni_10, ← zi_ni_12, ← zi_ni_24, ← zi_ni_25, ← zi_ni_40, ← zi_ni_45, ← zi_ni_47, ← zi_ni_48, ← zi_ni_95, ← zi_ni_96, ← zi_ni_97, ← zi_ni_100, ← zi_ni_144, ← zi_ni_288, nI_ltI, nI_leI, nI_eqI, nlt_T, nlt_F, nle_T, nle_F, neq_T, neq_F, nI_add, pk_mul, nI_clamp, q_inT, ng_lt, ng_tl, ng_le, ng_el, ng_eq, ng_qe, q_b0, q_b1, nar_0, nar_1, b01, b01', q_bn0, q_bn1, nar_n0, nar_n1, si_k, si_i, si_s, si_e, si_2, sl_1, sl_22, sl_k, sl_i, sl_s, sl_e, sp_1, sp_21, sp_22, sc_k, sc_i, sc_e, sc_2, mF_k, mM_k, mF_2, mM_2, mF_0, mM_11, ↓eu_L_X11_clear_25]
  refine lp_rm3 hb (fun u' hu' => ?_)
  obtain ⟨p1, p2, p3, p4⟩ := hu'
  try simp (disch := first | omega | decide) only [Nat.reduceAdd, Nat.reduceMul, ↓ev_bd, ↓ev_ck, ↓ev_if, ↓ev_lt, ↓ev_jn, ↓ev_so, ↓reduceIte, ↓ev_within, ↓ev_in, ↓ev_isBoard, ↓ev_isGauge, ↓ev_isNumber, ↓ev_isSix, ↓ev_isEight, ↓ev_foundN, ↓ev_meetsN, ↓ev_found_1, ↓ev_meets_1, ↓ev_found_2, ↓ev_meets_2, ↓ev_found_3, ↓ev_meets_3, ↓ev_found_4, ↓ev_meets_4, ↓ev_found_5, ↓ev_meets_5, true_and, and_true, and_self, eq_self, not_true_eq_false, not_false_eq_true, ite_true, ite_false, true_or, or_true, false_or, or_false, false_and, and_false, ← zi_ni_0, ← zi_ni_1, ← zi_ni_2, ← zi_ni_3, ← zi_ni_4, ← zi_ni_5, ← zi_ni_6, ← zi_ni_7, ← zi_ni_8, ← zi_ni_9, ← zi_ni_10, ← zi_ni_12, ← zi_ni_24, ← zi_ni_25, ← zi_ni_40, ← zi_ni_45, ← zi_ni_47, ← zi_ni_48, ← zi_ni_95, ← zi_ni_96, ← zi_ni_97, ← zi_ni_100, ← zi_ni_144, ← zi_ni_288, nI_ltI, nI_leI, nI_eqI, nlt_T, nlt_F, nle_T, nle_F, neq_T, neq_F, nI_add, pk_mul, nI_clamp, q_inT, ng_lt, ng_tl, ng_le, ng_el, ng_eq, ng_qe, q_b0, q_b1, nar_0, nar_1, b01, b01', q_bn0, q_bn1, nar_n0, nar_n1, si_k, si_i, si_s, si_e, si_2, sl_1, sl_22, sl_k, sl_i, sl_s, sl_e, sp_1, sp_21, sp_22, sc_k, sc_i, sc_e, sc_2, mF_k, mM_k, mF_2, mM_2, mF_0, mM_11]
  refine lp_mclear hb hn hf (fun U u'' hU hE => ?_) 6 3999 (del th b) u' (cnt_le 6) (by decide) (ClM_del hb h0 p1 p2 (fun x hx => by rw [p3 x hx, si_k (by decide)]) (fun x hx => by rw [p4 x hx, si_k (by decide)])) (fun x hx h => ⟨del_le h, fun q => ?_⟩) (fun x hx h1 h2 h3 => ?_)
  · exact ev_so.mpr (K U u'' hE hU)
  · subst q
    rw [del_self] at h
    cases h
  · rw [del_ne h2, h1] at h3
    cases h3

