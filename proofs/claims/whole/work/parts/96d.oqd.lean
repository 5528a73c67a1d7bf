/-! Gauges read. -/
theorem lp_shift {g : Nat} {x : Int32} {u : qM} {e : qM → Option (Unit × qM)} {P : Unit → qM → Prop} (hg : g < 8) (hb : ∀ s, s < 48 → u.1 112 0 (48 * g + s) = 0 ∨ u.1 112 0 (48 * g + s) = 1) (K0 : ∀ u', (∀ a i s, ¬ ((a = 111 ∨ a = 112) ∧ i = 0 ∧ 48 * g ≤ s ∧ s < 48 * g + 47) → u'.1 a i s = u.1 a i s) → u'.2 = u.2 → (∀ s, s < 47 → u'.1 111 0 (48 * g + s) = u.1 111 0 (48 * g + s + 1) ∧ u'.1 112 0 (48 * g + s) = u.1 112 0 (48 * g + s + 1)) → Ev (e u') P) : Ev (L_X11_write_13 (nI g) x q_fu 0 u e) P := by
  refine lpc (fun f y t => L_X11_write_13 (nI g) x f y t e) (fun i t => (∀ a i' s, ¬ ((a = 111 ∨ a = 112) ∧ i' = 0 ∧ 48 * g ≤ s ∧ s < 48 * g + i) → t.1 a i' s = u.1 a i' s) ∧ t.2 = u.2 ∧ (∀ s, s < i → t.1 111 0 (48 * g + s) = u.1 111 0 (48 * g + s + 1) ∧ t.1 112 0 (48 * g + s) = u.1 112 0 (48 * g + s + 1))) 47 (by decide) u ⟨fun _ _ _ _ => rfl, rfl, fun s hs => absurd hs (Nat.not_lt_zero _)⟩ ?_ ?_
  · rintro f i t hi ⟨g1, g2, g3⟩ K
    show Ev (L_X11_write_13 (nI g) x (f + 1) (nI i) t e) P
    have c1 : t.1 111 0 (48 * g + i + 1) = u.1 111 0 (48 * g + i + 1) := g1 111 0 _ (by omega)
    have c2 : t.1 112 0 (48 * g + i + 1) = u.1 112 0 (48 * g + i + 1) := g1 112 0 _ (by omega)
    have c3 : vp_nar .boolean (u.1 112 0 (48 * g + i + 1)) = u.1 112 0 (48 * g + i + 1) := nar_b (hb (i + 1) (by omega))
    simp (disch := first | omega | decide) only [Nat.reduceAdd, Nat.reduceMul, ↓ev_bd, ↓ev_ck, ↓ev_if, ↓ev_lt, ↓ev_jn, ↓ev_so, ↓reduceIte, ↓ev_within, ↓ev_in, ↓ev_isBoard, ↓ev_isGauge, ↓ev_isNumber, ↓ev_isSix, ↓ev_isEight, ↓ev_foundN, ↓ev_meetsN, ↓ev_found_1, ↓ev_meets_1, ↓ev_found_2, ↓ev_meets_2, ↓ev_found_3, ↓ev_meets_3, ↓ev_found_4, ↓ev_meets_4, ↓ev_found_5, ↓ev_meets_5, true_and, and_true, and_self, eq_self, not_true_eq_false, not_false_eq_true, ite_true, ite_false, true_or, or_true, false_or, or_false, false_and, and_false, ← zi_ni_0, ← zi_ni_1, ← zi_ni_2, ← zi_ni_3, ← zi_ni_4, ← zi_ni_5, ← zi_ni_6, ← zi_ni_7, ← zi_ni_8, ← zi_ni_9, ← zi_ni_10, ← zi_ni_12, ← zi_ni_24, ← zi_ni_25, ← zi_ni_40, ← zi_ni_45, ← zi_ni_47, ← zi_ni_48, ← zi_ni_95, ← zi_ni_96, ← zi_ni_97, ← zi_ni_100, ← zi_ni_144, ← zi_ni_288, nI_ltI, nI_leI, nI_eqI, nlt_T, nlt_F, nle_T, nle_F, neq_T, neq_F, nI_add, pk_mul, nI_clamp, q_inT, ng_lt, ng_tl, ng_le, ng_el, ng_eq, ng_qe, q_b0, q_b1, nar_0, nar_1, b01, b01', q_bn0, q_bn1, nar_n0, nar_n1, si_k, si_i, si_s, si_e, si_2, sl_1, sl_22, sl_k, sl_i, sl_s, sl_e, sp_1, sp_21, sp_22, sc_k, sc_i, sc_e, sc_2, mF_k, mM_k, mF_2, mM_2, mF_0, mM_11, ↓eu_L_X11_write_13, c1, c2, c3]
    refine K _ ⟨fun a i' s z => by rw [si_n (by omega), si_n (by omega)]; exact g1 a i' s (by omega), g2, fun s hs => ?_⟩
    by_cases z : s = i
    · subst z
      refine ⟨?_, ?_⟩
      · rw [si_k (by decide), si_e]
      · rw [si_e]
    · obtain ⟨y1, y2⟩ := g3 s (by omega)
      refine ⟨?_, ?_⟩
      · rw [si_n (by omega), si_n (by omega)]; exact y1
      · rw [si_n (by omega), si_n (by omega)]; exact y2
  · rintro f t ⟨g1, g2, g3⟩
    show Ev (L_X11_write_13 (nI g) x (f + 1) (nI 47) t e) P
    simp (disch := first | omega | decide) only [Nat.reduceAdd, Nat.reduceMul, ↓ev_bd, ↓ev_ck, ↓ev_if, ↓ev_lt, ↓ev_jn, ↓ev_so, ↓reduceIte, ↓ev_within, ↓ev_in, ↓ev_isBoard, ↓ev_isGauge, ↓ev_isNumber, ↓ev_isSix, ↓ev_isEight, ↓ev_foundN, ↓ev_meetsN, ↓ev_found_1, ↓ev_meets_1, ↓ev_found_2, ↓ev_meets_2, ↓ev_found_3, ↓ev_meets_3, ↓ev_found_4, ↓ev_meets_4, ↓ev_found_5, ↓ev_meets_5, true_and, and_true, and_self, eq_self, not_true_eq_false, not_false_eq_true, ite_true, ite_false, true_or, or_true, false_or, or_false, false_and, and_false, ← zi_ni_0, ← zi_ni_1, ← zi_ni_2, ← zi_ni_3, ← zi_ni_4, ← zi_ni_5, ← zi_ni_6, ← zi_ni_7, ← zi_ni_8, ← zi_ni_9, ← zi_ni_10, ← zi_ni_12, ← zi_ni_24, ← zi_ni_25, ← zi_ni_40, ← zi_ni_45, ← zi_ni_47, ← zi_ni_48, ← zi_ni_95, ← zi_ni_96, ← zi_ni_97, ← zi_ni_100, ← zi_ni_144, ← zi_ni_288, nI_ltI, nI_leI, nI_eqI, nlt_T, nlt_F, nle_T, nle_F, neq_T, neq_F, nI_add, pk_mul, nI_clamp, q_inT, ng_lt, ng_tl, ng_le, ng_el, ng_eq, ng_qe, q_b0, q_b1, nar_0, nar_1, b01, b01', q_bn0, q_bn1, nar_n0, nar_n1, si_k, si_i, si_s, si_e, si_2, sl_1, sl_22, sl_k, sl_i, sl_s, sl_e, sp_1, sp_21, sp_22, sc_k, sc_i, sc_e, sc_2, mF_k, mM_k, mF_2, mM_2, mF_0, mM_11, ↓eu_L_X11_write_13]
    exact K0 _ g1 g2 g3
theorem ev_write {g n : Nat} {x : Int32} {u : qM} {P : Unit → qM → Prop} (hg : g < 8) (h1 : u.1 110 0 g = nI n) (hn : n ≤ 48) (hb : n = 48 → ∀ s, s < 48 → u.1 112 0 (48 * g + s) = 0 ∨ u.1 112 0 (48 * g + s) = 1) (K : ∀ u', (∀ a i s, ¬ (i = 0 ∧ ((a = 110 ∧ s = g) ∨ ((a = 111 ∨ a = 112) ∧ 48 * g ≤ s ∧ s < 48 * g + 48))) → u'.1 a i s = u.1 a i s) → u'.2 = u.2 → GMp u u' g n x → P () u') : Ev (f_X11_write (nI g) x u) P := by
  by_cases hq : n = 48
  · subst hq
    simp (disch := first | omega | decide) only [Nat.reduceAdd, Nat.reduceMul, ↓ev_bd, ↓ev_ck, ↓ev_if, ↓ev_lt, ↓ev_jn, ↓ev_so, ↓reduceIte, ↓ev_within, ↓ev_in, ↓ev_isBoard, ↓ev_isGauge, ↓ev_isNumber, ↓ev_isSix, ↓ev_isEight, ↓ev_foundN, ↓ev_meetsN, ↓ev_found_1, ↓ev_meets_1, ↓ev_found_2, ↓ev_meets_2, ↓ev_found_3, ↓ev_meets_3, ↓ev_found_4, ↓ev_meets_4, ↓ev_found_5, ↓ev_meets_5, true_and, and_true, and_self, eq_self, not_true_eq_false, not_false_eq_true, ite_true, ite_false, true_or, or_true, false_or, or_false, false_and, and_false, ← zi_ni_0, ← zi_ni_1, ← zi_ni_2, ← zi_ni_3, ← zi_ni_4, ← zi_ni_5, ← zi_ni_6, ← zi_ni_7, ← zi_ni_8, ← zi_ni_9, ← zi_ni_10, ← zi_ni_12, ← zi_ni_24, ← zi_ni_25, ← zi_ni_40, ← zi_ni_45, ← zi_ni_47, ← zi_ni_48, ← zi_ni_95, ← zi_ni_96, ← zi_ni_97, ← zi_ni_100, ← zi_ni_144, ← zi_ni_288, nI_ltI, nI_leI, nI_eqI, nlt_T, nlt_F, nle_T, nle_F, neq_T, neq_F, nI_add, pk_mul, nI_clamp, q_inT, ng_lt, ng_tl, ng_le, ng_el, ng_eq, ng_qe, q_b0, q_b1, nar_0, nar_1, b01, b01', q_bn0, q_bn1, nar_n0, nar_n1, si_k, si_i, si_s, si_e, si_2, sl_1, sl_22, sl_k, sl_i, sl_s, sl_e, sp_1, sp_21, sp_22, sc_k, sc_i, sc_e, sc_2, mF_k, mM_k, mF_2, mM_2, mF_0, mM_11, ↓eu_X11_write, h1]
    refine lp_shift hg (hb rfl) (fun t g1 g2 g3 => ?_)
    have c1 : t.1 110 0 g = nI 48 := (g1 110 0 g (by omega)).trans h1
    simp (disch := first | omega | decide) only [Nat.reduceAdd, Nat.reduceMul, ↓ev_bd, ↓ev_ck, ↓ev_if, ↓ev_lt, ↓ev_jn, ↓ev_so, ↓reduceIte, ↓ev_within, ↓ev_in, ↓ev_isBoard, ↓ev_isGauge, ↓ev_isNumber, ↓ev_isSix, ↓ev_isEight, ↓ev_foundN, ↓ev_meetsN, ↓ev_found_1, ↓ev_meets_1, ↓ev_found_2, ↓ev_meets_2, ↓ev_found_3, ↓ev_meets_3, ↓ev_found_4, ↓ev_meets_4, ↓ev_found_5, ↓ev_meets_5, true_and, and_true, and_self, eq_self, not_true_eq_false, not_false_eq_true, ite_true, ite_false, true_or, or_true, false_or, or_false, false_and, and_false, ← zi_ni_0, ← zi_ni_1, ← zi_ni_2, ← zi_ni_3, ← zi_ni_4, ← zi_ni_5, ← zi_ni_6, ← zi_ni_7, ← zi_ni_8, ← zi_ni_9, ← zi_ni_10, ← zi_ni_12, ← zi_ni_24, ← zi_ni_25, ← zi_ni_40, ← zi_ni_45, ← zi_ni_47, ← zi_ni_48, ← zi_ni_95, ← zi_ni_96, ← zi_ni_97, ← zi_ni_100, ← zi_ni_144, ← zi_ni_288, nI_ltI, nI_leI, nI_eqI, nlt_T, nlt_F, nle_T, nle_F, neq_T, neq_F, nI_add, pk_mul, nI_clamp, q_inT, ng_lt, ng_tl, ng_le, ng_el, ng_eq, ng_qe, q_b0, q_b1, nar_0, nar_1, b01, b01', q_bn0, q_bn1, nar_n0, nar_n1, si_k, si_i, si_s, si_e, si_2, sl_1, sl_22, sl_k, sl_i, sl_s, sl_e, sp_1, sp_21, sp_22, sc_k, sc_i, sc_e, sc_2, mF_k, mM_k, mF_2, mM_2, mF_0, mM_11, c1, pk_sub, Nat.reduceSub]
    refine K _ (fun a i s z => ?_) g2 ⟨?_, fun s hs => ?_, fun s hs => ?_⟩
    · rw [si_n (by omega), si_n (by omega), si_n (by omega), si_n (by omega)]
      exact g1 a i s (by omega)
    · rw [si_e]; rfl
    · rw [if_pos rfl]
      by_cases z : s = 47
      · rw [if_pos z, z, si_k (by decide), si_k (by decide), si_e]
      · rw [if_neg z, si_k (by decide), si_k (by decide), si_s (by omega), si_k (by decide)]
        exact (g3 s (by omega)).1
    · rw [if_pos rfl]
      by_cases z : s = 47
      · rw [if_pos z, z, si_k (by decide), si_e]
      · rw [if_neg z, si_k (by decide), si_s (by omega), si_k (by decide), si_k (by decide)]
        exact (g3 s (by omega)).2
  · simp (disch := first | omega | decide) only [Nat.reduceAdd, Nat.reduceMul, ↓ev_bd, ↓ev_ck, ↓ev_if, ↓ev_lt, ↓ev_jn, ↓ev_so, ↓reduceIte, ↓ev_within, ↓ev_in, ↓ev_isBoard, ↓ev_isGauge, ↓ev_isNumber, ↓ev_isSix, ↓ev_isEight, ↓ev_foundN, ↓ev_meetsN, ↓ev_found_1, ↓ev_meets_1, ↓ev_found_2, ↓ev_meets_2, ↓ev_found_3, ↓ev_meets_3, ↓ev_found_4, ↓ev_meets_4, ↓ev_found_5, ↓ev_meets_5, true_and, and_true, and_self, eq_self, not_true_eq_false, not_false_eq_true, ite_true, ite_false, true_or, or_true, false_or, or_false, false_and, and_false, ← zi_ni_0, ← zi_ni_1, ← zi_ni_2, ← zi_ni_3, ← zi_ni_4, ← zi_ni_5, ← zi_ni_6, ← zi_ni_7, ← zi_ni_8, ← zi_ni_9, ← zi_ni_10, ← zi_ni_12, ← zi_ni_24, ← zi_ni_25, ← zi_ni_40, ← zi_ni_45, ← zi_ni_47, ← zi_ni_48, ← zi_ni_95, ← zi_ni_96, ← zi_ni_97, ← zi_ni_100, ← zi_ni_144, ← zi_ni_288, nI_ltI, nI_leI, nI_eqI, nlt_T, nlt_F, nle_T, nle_F, neq_T, neq_F, nI_add, pk_mul, nI_clamp, q_inT, ng_lt, ng_tl, ng_le, ng_el, ng_eq, ng_qe, q_b0, q_b1, nar_0, nar_1, b01, b01', q_bn0, q_bn1, nar_n0, nar_n1, si_k, si_i, si_s, si_e, si_2, sl_1, sl_22, sl_k, sl_i, sl_s, sl_e, sp_1, sp_21, sp_22, sc_k, sc_i, sc_e, sc_2, mF_k, mM_k, mF_2, mM_2, mF_0, mM_11, ↓eu_X11_write, h1, hq]
    refine K _ (fun a i s z => ?_) rfl ⟨?_, fun s hs => ?_, fun s hs => ?_⟩
    · rw [si_n (by omega), si_n (by omega), si_n (by omega)]
    · rw [si_e, if_neg hq]
    · rw [if_neg hq, si_k (by decide), si_k (by decide), si_c]
      by_cases z : s = n
      · rw [if_pos (by omega), if_pos z]
      · rw [if_neg (by omega), if_neg z]
    · rw [if_neg hq, si_k (by decide), si_c, si_k (by decide)]
      by_cases z : s = n
      · rw [if_pos (by omega), if_pos z]
      · rw [if_neg (by omega), if_neg z]
theorem lp_cg {v : qB} {b N : Nat} {u : qM} {e : qM → Option (Int32 × qM)} {P : Int32 → qM → Prop} (hb : b < 6) (h48 : N ≤ 48) (hn : SN v u b) (hG : GC u b N) (K0 : ∀ u', (∀ a i s, ¬ (i < 8 ∧ (a = 52 ∨ a = 53 ∨ (a = 9 ∧ (s = 4 ∨ s = 5)))) → u'.1 a i s = u.1 a i s) → u'.2 = u.2 → (∀ g, g < 8 → (¬ u.1 9 g 2 = nI b → u'.1 9 g = u.1 9 g ∧ u'.1 52 g = u.1 52 g ∧ u'.1 53 g = u.1 53 g) ∧ (u.1 9 g 2 = nI b → ∀ c f n, c < N → f < 48 → n ≤ 48 → u.1 9 g 3 = nI c → u.1 9 g 4 = nI f → u.1 9 g 5 = nI n → GCp u u' g f n (lev v c))) → Ev (e u') P) : Ev (L_X10_stepWhole_63 (nI b) q_fu 0 u e) P := by
  refine lpc (fun f x t => L_X10_stepWhole_63 (nI b) f x t e) (fun i t => (∀ a i' s, ¬ (i' < i ∧ (a = 52 ∨ a = 53 ∨ (a = 9 ∧ (s = 4 ∨ s = 5)))) → t.1 a i' s = u.1 a i' s) ∧ t.2 = u.2 ∧ (∀ g, g < i → (¬ u.1 9 g 2 = nI b → t.1 9 g = u.1 9 g ∧ t.1 52 g = u.1 52 g ∧ t.1 53 g = u.1 53 g) ∧ (u.1 9 g 2 = nI b → ∀ c f n, c < N → f < 48 → n ≤ 48 → u.1 9 g 3 = nI c → u.1 9 g 4 = nI f → u.1 9 g 5 = nI n → GCp u t g f n (lev v c)))) 8 (by decide) u ⟨fun _ _ _ _ => rfl, rfl, fun k hk => absurd hk (Nat.not_lt_zero _)⟩ ?_ ?_
  · rintro f i t hi ⟨g1, g2, g3⟩ K
    show Ev (L_X10_stepWhole_63 (nI b) (f + 1) (nI i) t e) P
    have c2 : t.1 9 i 2 = u.1 9 i 2 := g1 9 i 2 (by omega)
    have c3 : t.1 9 i 3 = u.1 9 i 3 := g1 9 i 3 (by omega)
    have c4 : t.1 9 i 4 = u.1 9 i 4 := g1 9 i 4 (by omega)
    have c5 : t.1 9 i 5 = u.1 9 i 5 := g1 9 i 5 (by omega)
    have hn' : SN v t b := by
      have e : ∀ a, a ≠ 9 → a ≠ 52 → a ≠ 53 → t.1 a = u.1 a := fun a q1 q2 q3 => funext (fun i => funext (fun s => g1 a i s (by omega)))
      unfold SN
      rw [e 2 (by decide) (by decide) (by decide), e 3 (by decide) (by decide) (by decide), e 37 (by decide) (by decide) (by decide), e 38 (by decide) (by decide) (by decide), e 40 (by decide) (by decide) (by decide), e 41 (by decide) (by decide) (by decide)]
      exact hn
    by_cases hq : u.1 9 i 2 = nI b
    · obtain ⟨c, f', n, q1, q2, q3, q4, q5, q6⟩ := hG i hi hq
      simp (disch := first | omega | decide) only [Nat.reduceAdd, Nat.reduceMul, ↓ev_ck, ↓ev_if, ↓ev_lt, ↓ev_jn, ↓ev_so, ↓reduceIte, ↓ev_within, ↓ev_in, ↓ev_isBoard, ↓ev_isGauge, ↓ev_isNumber, ↓ev_isSix, ↓ev_isEight, ↓ev_foundN, ↓ev_meetsN, ↓ev_found_1, ↓ev_meets_1, ↓ev_found_2, ↓ev_meets_2, ↓ev_found_3, ↓ev_meets_3, ↓ev_found_4, ↓ev_meets_4, ↓ev_found_5, ↓ev_meets_5, true_and, and_true, and_self, eq_self, not_true_eq_false, not_false_eq_true, ite_true, ite_false, true_or, or_true, false_or, or_false, false_and, and_false, ← zi_ni_0, ← zi_ni_1, ← zi_ni_2, ← zi_ni_3, ← zi_ni_4, ← zi_ni_5, ← zi_ni_6, ← zi_ni_7, ← zi_ni_8, ← zi_ni_9, ← zi_ni_10, ← zi_ni_12, ← zi_ni_24, ← zi_ni_25, ← zi_ni_40, ← zi_ni_45, ← zi_ni_47, ← zi_ni_48, ← zi_ni_95, ← zi_ni_96, ← zi_ni_97, ← zi_ni_100, ← zi_ni_144, ← zi_ni_288, nI_ltI, nI_leI, nI_eqI, nlt_T, nlt_F, nle_T, nle_F, neq_T, neq_F, nI_add, pk_mul, nI_clamp, q_inT, ng_lt, ng_tl, ng_le, ng_el, ng_eq, ng_qe, q_b0, q_b1, nar_0, nar_1, b01, b01', q_bn0, q_bn1, nar_n0, nar_n1, si_k, si_i, si_s, si_e, si_2, sl_1, sl_22, sl_k, sl_i, sl_s, sl_e, sp_1, sp_21, sp_22, sc_k, sc_i, sc_e, sc_2, mF_k, mM_k, mF_2, mM_2, mF_0, mM_11, ↓eu_L_X10_stepWhole_63, c2, c3, hq, q1]
      refine ev_bd.mpr (ev_level (by omega) hn' ?_)
      try simp (disch := first | omega | decide) only [Nat.reduceAdd, Nat.reduceMul, ↓ev_ck, ↓ev_if, ↓ev_lt, ↓ev_jn, ↓ev_so, ↓reduceIte, ↓ev_within, ↓ev_in, ↓ev_isBoard, ↓ev_isGauge, ↓ev_isNumber, ↓ev_isSix, ↓ev_isEight, ↓ev_foundN, ↓ev_meetsN, ↓ev_found_1, ↓ev_meets_1, ↓ev_found_2, ↓ev_meets_2, ↓ev_found_3, ↓ev_meets_3, ↓ev_found_4, ↓ev_meets_4, ↓ev_found_5, ↓ev_meets_5, true_and, and_true, and_self, eq_self, not_true_eq_false, not_false_eq_true, ite_true, ite_false, true_or, or_true, false_or, or_false, false_and, and_false, ← zi_ni_0, ← zi_ni_1, ← zi_ni_2, ← zi_ni_3, ← zi_ni_4, ← zi_ni_5, ← zi_ni_6, ← zi_ni_7, ← zi_ni_8, ← zi_ni_9, ← zi_ni_10, ← zi_ni_12, ← zi_ni_24, ← zi_ni_25, ← zi_ni_40, ← zi_ni_45, ← zi_ni_47, ← zi_ni_48, ← zi_ni_95, ← zi_ni_96, ← zi_ni_97, ← zi_ni_100, ← zi_ni_144, ← zi_ni_288, nI_ltI, nI_leI, nI_eqI, nlt_T, nlt_F, nle_T, nle_F, neq_T, neq_F, nI_add, pk_mul, nI_clamp, q_inT, ng_lt, ng_tl, ng_le, ng_el, ng_eq, ng_qe, q_b0, q_b1, nar_0, nar_1, b01, b01', q_bn0, q_bn1, nar_n0, nar_n1, si_k, si_i, si_s, si_e, si_2, sl_1, sl_22, sl_k, sl_i, sl_s, sl_e, sp_1, sp_21, sp_22, sc_k, sc_i, sc_e, sc_2, mF_k, mM_k, mF_2, mM_2, mF_0, mM_11]
      refine ev_bd.mpr (ev_read (c4.trans q2) (c5.trans q3) q5 q6 (fun t' n1 n2 n3 => ?_))
      try simp (disch := first | omega | decide) only [Nat.reduceAdd, Nat.reduceMul, ↓ev_ck, ↓ev_if, ↓ev_lt, ↓ev_jn, ↓ev_so, ↓reduceIte, ↓ev_within, ↓ev_in, ↓ev_isBoard, ↓ev_isGauge, ↓ev_isNumber, ↓ev_isSix, ↓ev_isEight, ↓ev_foundN, ↓ev_meetsN, ↓ev_found_1, ↓ev_meets_1, ↓ev_found_2, ↓ev_meets_2, ↓ev_found_3, ↓ev_meets_3, ↓ev_found_4, ↓ev_meets_4, ↓ev_found_5, ↓ev_meets_5, true_and, and_true, and_self, eq_self, not_true_eq_false, not_false_eq_true, ite_true, ite_false, true_or, or_true, false_or, or_false, false_and, and_false, ← zi_ni_0, ← zi_ni_1, ← zi_ni_2, ← zi_ni_3, ← zi_ni_4, ← zi_ni_5, ← zi_ni_6, ← zi_ni_7, ← zi_ni_8, ← zi_ni_9, ← zi_ni_10, ← zi_ni_12, ← zi_ni_24, ← zi_ni_25, ← zi_ni_40, ← zi_ni_45, ← zi_ni_47, ← zi_ni_48, ← zi_ni_95, ← zi_ni_96, ← zi_ni_97, ← zi_ni_100, ← zi_ni_144, ← zi_ni_288, nI_ltI, nI_leI, nI_eqI, nlt_T, nlt_F, nle_T, nle_F, neq_T, neq_F, nI_add, pk_mul, nI_clamp, q_inT, ng_lt, ng_tl, ng_le, ng_el, ng_eq, ng_qe, q_b0, q_b1, nar_0, nar_1, b01, b01', q_bn0, q_bn1, nar_n0, nar_n1, si_k, si_i, si_s, si_e, si_2, sl_1, sl_22, sl_k, sl_i, sl_s, sl_e, sp_1, sp_21, sp_22, sc_k, sc_i, sc_e, sc_2, mF_k, mM_k, mF_2, mM_2, mF_0, mM_11]
      refine K _ ⟨fun a i' s z => (n1 a i' s (by omega)).trans (g1 a i' s (by omega)), n2.trans g2, fun k hk => ?_⟩
      by_cases z : k = i
      · subst z
        refine ⟨fun y => absurd hq y, fun _ c' f2 n' hc' hf2 hn2 y1 y2 y3 => ?_⟩
        rw [q1] at y1
        rw [q2] at y2
        rw [q3] at y3
        rw [nI_eq (by omega) (by omega)] at y1 y2 y3
        subst y1 y2 y3
        obtain ⟨m1, m2, m3, m4⟩ := n3
        exact ⟨m1, m2, fun s => by rw [m3, g1 52 k s (by omega)], fun s => by rw [m4, g1 53 k s (by omega)]⟩
      · have sl : ∀ a s, t'.1 a k s = t.1 a k s := fun a s => n1 a k s (by omega)
        obtain ⟨y1, y2⟩ := g3 k (by omega)
        refine ⟨fun y => ?_, fun y c' f2 n' hc' hf2 hn2 y4 y5 y6 => ?_⟩
        · obtain ⟨m1, m2, m3⟩ := y1 y
          exact ⟨(funext (sl 9)).trans m1, (funext (sl 52)).trans m2, (funext (sl 53)).trans m3⟩
        · obtain ⟨m1, m2, m3, m4⟩ := y2 y c' f2 n' hc' hf2 hn2 y4 y5 y6
          exact ⟨(sl 9 4).trans m1, (sl 9 5).trans m2, fun s => (sl 52 s).trans (m3 s), fun s => (sl 53 s).trans (m4 s)⟩
    · simp (disch := first | omega | decide) only [Nat.reduceAdd, Nat.reduceMul, ↓ev_ck, ↓ev_if, ↓ev_lt, ↓ev_jn, ↓ev_so, ↓reduceIte, ↓ev_within, ↓ev_in, ↓ev_isBoard, ↓ev_isGauge, ↓ev_isNumber, ↓ev_isSix, ↓ev_isEight, ↓ev_foundN, ↓ev_meetsN, ↓ev_found_1, ↓ev_meets_1, ↓ev_found_2, ↓ev_meets_2, ↓ev_found_3, ↓ev_meets_3, ↓ev_found_4, ↓ev_meets_4, ↓ev_found_5, ↓ev_meets_5, true_and, and_true, and_self, eq_self, not_true_eq_false, not_false_eq_true, ite_true, ite_false, true_or, or_true, false_or, or_false, false_and, and_false, ← zi_ni_0, ← zi_ni_1, ← zi_ni_2, ← zi_ni_3, ← zi_ni_4, ← zi_ni_5, ← zi_ni_6, ← zi_ni_7, ← zi_ni_8, ← zi_ni_9, ← zi_ni_10, ← zi_ni_12, ← zi_ni_24, ← zi_ni_25, ← zi_ni_40, ← zi_ni_45, ← zi_ni_47, ← zi_ni_48, ← zi_ni_95, ← zi_ni_96, ← zi_ni_97, ← zi_ni_100, ← zi_ni_144, ← zi_ni_288, nI_ltI, nI_leI, nI_eqI, nlt_T, nlt_F, nle_T, nle_F, neq_T, neq_F, nI_add, pk_mul, nI_clamp, q_inT, ng_lt, ng_tl, ng_le, ng_el, ng_eq, ng_qe, q_b0, q_b1, nar_0, nar_1, b01, b01', q_bn0, q_bn1, nar_n0, nar_n1, si_k, si_i, si_s, si_e, si_2, sl_1, sl_22, sl_k, sl_i, sl_s, sl_e, sp_1, sp_21, sp_22, sc_k, sc_i, sc_e, sc_2, mF_k, mM_k, mF_2, mM_2, mF_0, mM_11, ↓eu_L_X10_stepWhole_63, c2, hq]
      refine K _ ⟨fun a i' s z => g1 a i' s (by omega), g2, fun k hk => ?_⟩
      by_cases z : k = i
      · subst z
        exact ⟨fun _ => ⟨funext (fun s => g1 9 k s (by omega)), funext (fun s => g1 52 k s (by omega)), funext (fun s => g1 53 k s (by omega))⟩, fun y => absurd y hq⟩
      · exact g3 k (by omega)
  · rintro f t ⟨g1, g2, g3⟩
    show Ev (L_X10_stepWhole_63 (nI b) (f + 1) (nI 8) t e) P
    simp (disch := first | omega | decide) only [Nat.reduceAdd, Nat.reduceMul, ↓ev_ck, ↓ev_if, ↓ev_lt, ↓ev_jn, ↓ev_so, ↓reduceIte, ↓ev_within, ↓ev_in, ↓ev_isBoard, ↓ev_isGauge, ↓ev_isNumber, ↓ev_isSix, ↓ev_isEight, ↓ev_foundN, ↓ev_meetsN, ↓ev_found_1, ↓ev_meets_1, ↓ev_found_2, ↓ev_meets_2, ↓ev_found_3, ↓ev_meets_3, ↓ev_found_4, ↓ev_meets_4, ↓ev_found_5, ↓ev_meets_5, true_and, and_true, and_self, eq_self, not_true_eq_false, not_false_eq_true, ite_true, ite_false, true_or, or_true, false_or, or_false, false_and, and_false, ← zi_ni_0, ← zi_ni_1, ← zi_ni_2, ← zi_ni_3, ← zi_ni_4, ← zi_ni_5, ← zi_ni_6, ← zi_ni_7, ← zi_ni_8, ← zi_ni_9, ← zi_ni_10, ← zi_ni_12, ← zi_ni_24, ← zi_ni_25, ← zi_ni_40, ← zi_ni_45, ← zi_ni_47, ← zi_ni_48, ← zi_ni_95, ← zi_ni_96, ← zi_ni_97, ← zi_ni_100, ← zi_ni_144, ← zi_ni_288, nI_ltI, nI_leI, nI_eqI, nlt_T, nlt_F, nle_T, nle_F, neq_T, neq_F, nI_add, pk_mul, nI_clamp, q_inT, ng_lt, ng_tl, ng_le, ng_el, ng_eq, ng_qe, q_b0, q_b1, nar_0, nar_1, b01, b01', q_bn0, q_bn1, nar_n0, nar_n1, si_k, si_i, si_s, si_e, si_2, sl_1, sl_22, sl_k, sl_i, sl_s, sl_e, sp_1, sp_21, sp_22, sc_k, sc_i, sc_e, sc_2, mF_k, mM_k, mF_2, mM_2, mF_0, mM_11, ↓eu_L_X10_stepWhole_63]
    exact K0 _ g1 g2 g3
theorem lp_mg {v : qB} {b N : Nat} {u : qM} {e : qM → Option (Int32 × qM)} {P : Int32 → qM → Prop} (hb : b < 8) (h48 : N ≤ 48) (hn : SM v u b) (hG : GM u b N) (hL : ∀ g, g < 8 → u.1 108 0 g = nI b → u.1 110 0 g = nI 48 → ∀ s, s < 48 → u.1 112 0 (48 * g + s) = 0 ∨ u.1 112 0 (48 * g + s) = 1) (K0 : ∀ u', (∀ a i s, ¬ (i = 0 ∧ (a = 110 ∨ a = 111 ∨ a = 112)) → u'.1 a i s = u.1 a i s) → u'.2 = u.2 → (∀ g, g < 8 → (¬ u.1 108 0 g = nI b → u'.1 110 0 g = u.1 110 0 g ∧ ∀ s, s < 48 → u'.1 111 0 (48 * g + s) = u.1 111 0 (48 * g + s) ∧ u'.1 112 0 (48 * g + s) = u.1 112 0 (48 * g + s)) ∧ (u.1 108 0 g = nI b → ∀ c n, c < N → n ≤ 48 → u.1 109 0 g = nI c → u.1 110 0 g = nI n → GMp u u' g n (lev v c))) → Ev (e u') P) : Ev (L_X11_stepOnce_298 (nI b) q_fu 0 u e) P := by
  refine lpc (fun f x t => L_X11_stepOnce_298 (nI b) f x t e) (fun i t => (∀ a i' s, ¬ (i' = 0 ∧ ((a = 110 ∧ s < i) ∨ ((a = 111 ∨ a = 112) ∧ s < 48 * i))) → t.1 a i' s = u.1 a i' s) ∧ t.2 = u.2 ∧ (∀ g, g < i → (¬ u.1 108 0 g = nI b → t.1 110 0 g = u.1 110 0 g ∧ ∀ s, s < 48 → t.1 111 0 (48 * g + s) = u.1 111 0 (48 * g + s) ∧ t.1 112 0 (48 * g + s) = u.1 112 0 (48 * g + s)) ∧ (u.1 108 0 g = nI b → ∀ c n, c < N → n ≤ 48 → u.1 109 0 g = nI c → u.1 110 0 g = nI n → GMp u t g n (lev v c)))) 8 (by decide) u ⟨fun _ _ _ _ => rfl, rfl, fun k hk => absurd hk (Nat.not_lt_zero _)⟩ ?_ ?_
  · rintro f i t hi ⟨g1, g2, g3⟩ K
    show Ev (L_X11_stepOnce_298 (nI b) (f + 1) (nI i) t e) P
    have c2 : t.1 108 0 i = u.1 108 0 i := g1 108 0 i (by omega)
    have c3 : t.1 109 0 i = u.1 109 0 i := g1 109 0 i (by omega)
    have c4 : t.1 110 0 i = u.1 110 0 i := g1 110 0 i (by omega)
    have hn' : SM v t b := by
      have e : ∀ a, a < 101 → t.1 a = u.1 a := fun a q => funext (fun i => funext (fun s => g1 a i s (by omega)))
      unfold SM
      rw [e 74 (by decide), e 75 (by decide), e 76 (by decide), e 77 (by decide), e 78 (by decide), e 79 (by decide), e 80 (by decide), e 91 (by decide), e 92 (by decide), e 94 (by decide), e 95 (by decide), e 93 (by decide)]
      exact hn
    have t111 : ∀ s, s < 48 → t.1 111 0 (48 * i + s) = u.1 111 0 (48 * i + s) := fun s hs => g1 111 0 _ (by omega)
    have t112 : ∀ s, s < 48 → t.1 112 0 (48 * i + s) = u.1 112 0 (48 * i + s) := fun s hs => g1 112 0 _ (by omega)
    by_cases hq : u.1 108 0 i = nI b
    · obtain ⟨c, n, q1, q3, q4, q6⟩ := hG i hi hq
      simp (disch := first | omega | decide) only [Nat.reduceAdd, Nat.reduceMul, ↓ev_ck, ↓ev_if, ↓ev_lt, ↓ev_jn, ↓ev_so, ↓reduceIte, ↓ev_within, ↓ev_in, ↓ev_isBoard, ↓ev_isGauge, ↓ev_isNumber, ↓ev_isSix, ↓ev_isEight, ↓ev_foundN, ↓ev_meetsN, ↓ev_found_1, ↓ev_meets_1, ↓ev_found_2, ↓ev_meets_2, ↓ev_found_3, ↓ev_meets_3, ↓ev_found_4, ↓ev_meets_4, ↓ev_found_5, ↓ev_meets_5, true_and, and_true, and_self, eq_self, not_true_eq_false, not_false_eq_true, ite_true, ite_false, true_or, or_true, false_or, or_false, false_and, and_false, ← zi_ni_0, ← zi_ni_1, ← zi_ni_2, ← zi_ni_3, ← zi_ni_4, ← zi_ni_5, ← zi_ni_6, ← zi_ni_7, ← zi_ni_8, ← zi_ni_9, ← zi_ni_10, ← zi_ni_12, ← zi_ni_24, ← zi_ni_25, ← zi_ni_40, ← zi_ni_45, ← zi_ni_47, ← zi_ni_48, ← zi_ni_95, ← zi_ni_96, ← zi_ni_97, ← zi_ni_100, ← zi_ni_144, ← zi_ni_288, nI_ltI, nI_leI, nI_eqI, nlt_T, nlt_F, nle_T, nle_F, neq_T, neq_F, nI_add, pk_mul, nI_clamp, q_inT, ng_lt, ng_tl, ng_le, ng_el, ng_eq, ng_qe, q_b0, q_b1, nar_0, nar_1, b01, b01', q_bn0, q_bn1, nar_n0, nar_n1, si_k, si_i, si_s, si_e, si_2, sl_1, sl_22, sl_k, sl_i, sl_s, sl_e, sp_1, sp_21, sp_22, sc_k, sc_i, sc_e, sc_2, mF_k, mM_k, mF_2, mM_2, mF_0, mM_11, ↓eu_L_X11_stepOnce_298, c2, c3, hq, q1]
      refine ev_bd.mpr (ev_mlevel hb (by omega) hn' ?_)
      try simp (disch := first | omega | decide) only [Nat.reduceAdd, Nat.reduceMul, ↓ev_ck, ↓ev_if, ↓ev_lt, ↓ev_jn, ↓ev_so, ↓reduceIte, ↓ev_within, ↓ev_in, ↓ev_isBoard, ↓ev_isGauge, ↓ev_isNumber, ↓ev_isSix, ↓ev_isEight, ↓ev_foundN, ↓ev_meetsN, ↓ev_found_1, ↓ev_meets_1, ↓ev_found_2, ↓ev_meets_2, ↓ev_found_3, ↓ev_meets_3, ↓ev_found_4, ↓ev_meets_4, ↓ev_found_5, ↓ev_meets_5, true_and, and_true, and_self, eq_self, not_true_eq_false, not_false_eq_true, ite_true, ite_false, true_or, or_true, false_or, or_false, false_and, and_false, ← zi_ni_0, ← zi_ni_1, ← zi_ni_2, ← zi_ni_3, ← zi_ni_4, ← zi_ni_5, ← zi_ni_6, ← zi_ni_7, ← zi_ni_8, ← zi_ni_9, ← zi_ni_10, ← zi_ni_12, ← zi_ni_24, ← zi_ni_25, ← zi_ni_40, ← zi_ni_45, ← zi_ni_47, ← zi_ni_48, ← zi_ni_95, ← zi_ni_96, ← zi_ni_97, ← zi_ni_100, ← zi_ni_144, ← zi_ni_288, nI_ltI, nI_leI, nI_eqI, nlt_T, nlt_F, nle_T, nle_F, neq_T, neq_F, nI_add, pk_mul, nI_clamp, q_inT, ng_lt, ng_tl, ng_le, ng_el, ng_eq, ng_qe, q_b0, q_b1, nar_0, nar_1, b01, b01', q_bn0, q_bn1, nar_n0, nar_n1, si_k, si_i, si_s, si_e, si_2, sl_1, sl_22, sl_k, sl_i, sl_s, sl_e, sp_1, sp_21, sp_22, sc_k, sc_i, sc_e, sc_2, mF_k, mM_k, mF_2, mM_2, mF_0, mM_11]
      refine ev_bd.mpr (ev_write hi (c4.trans q3) q6 (fun y s hs => by rw [t112 s hs]; exact hL i hi hq (by rw [q3, y]) s hs) (fun t' n1 n2 n3 => ?_))
      try simp (disch := first | omega | decide) only [Nat.reduceAdd, Nat.reduceMul, ↓ev_ck, ↓ev_if, ↓ev_lt, ↓ev_jn, ↓ev_so, ↓reduceIte, ↓ev_within, ↓ev_in, ↓ev_isBoard, ↓ev_isGauge, ↓ev_isNumber, ↓ev_isSix, ↓ev_isEight, ↓ev_foundN, ↓ev_meetsN, ↓ev_found_1, ↓ev_meets_1, ↓ev_found_2, ↓ev_meets_2, ↓ev_found_3, ↓ev_meets_3, ↓ev_found_4, ↓ev_meets_4, ↓ev_found_5, ↓ev_meets_5, true_and, and_true, and_self, eq_self, not_true_eq_false, not_false_eq_true, ite_true, ite_false, true_or, or_true, false_or, or_false, false_and, and_false, ← zi_ni_0, ← zi_ni_1, ← zi_ni_2, ← zi_ni_3, ← zi_ni_4, ← zi_ni_5, ← zi_ni_6, ← zi_ni_7, ← zi_ni_8, ← zi_ni_9, ← zi_ni_10, ← zi_ni_12, ← zi_ni_24, ← zi_ni_25, ← zi_ni_40, ← zi_ni_45, ← zi_ni_47, ← zi_ni_48, ← zi_ni_95, ← zi_ni_96, ← zi_ni_97, ← zi_ni_100, ← zi_ni_144, ← zi_ni_288, nI_ltI, nI_leI, nI_eqI, nlt_T, nlt_F, nle_T, nle_F, neq_T, neq_F, nI_add, pk_mul, nI_clamp, q_inT, ng_lt, ng_tl, ng_le, ng_el, ng_eq, ng_qe, q_b0, q_b1, nar_0, nar_1, b01, b01', q_bn0, q_bn1, nar_n0, nar_n1, si_k, si_i, si_s, si_e, si_2, sl_1, sl_22, sl_k, sl_i, sl_s, sl_e, sp_1, sp_21, sp_22, sc_k, sc_i, sc_e, sc_2, mF_k, mM_k, mF_2, mM_2, mF_0, mM_11]
      refine K _ ⟨fun a i' s z => (n1 a i' s (by omega)).trans (g1 a i' s (by omega)), n2.trans g2, fun k hk => ?_⟩
      by_cases z : k = i
      · subst z
        refine ⟨fun y => absurd hq y, fun _ c' n' hc' hn2 y1 y3 => ?_⟩
        rw [q1] at y1
        rw [q3] at y3
        rw [nI_eq (by omega) (by omega)] at y1 y3
        subst y1 y3
        obtain ⟨m1, m3, m4⟩ := n3
        refine ⟨m1, fun s hs => ?_, fun s hs => ?_⟩
        · rw [m3 s hs]
          by_cases z48 : n = 48
          · rw [if_pos z48, if_pos z48]
            by_cases z47 : s = 47
            · rw [if_pos z47, if_pos z47]
            · rw [if_neg z47, if_neg z47]
              exact t111 (s + 1) (by omega)
          · rw [if_neg z48, if_neg z48, t111 s hs]
        · rw [m4 s hs]
          by_cases z48 : n = 48
          · rw [if_pos z48, if_pos z48]
            by_cases z47 : s = 47
            · rw [if_pos z47, if_pos z47]
            · rw [if_neg z47, if_neg z47]
              exact t112 (s + 1) (by omega)
          · rw [if_neg z48, if_neg z48, t112 s hs]
      · have s110 : t'.1 110 0 k = t.1 110 0 k := n1 110 0 k (by omega)
        have s111 : ∀ s, s < 48 → t'.1 111 0 (48 * k + s) = t.1 111 0 (48 * k + s) := fun s hs => n1 111 0 _ (by omega)
        have s112 : ∀ s, s < 48 → t'.1 112 0 (48 * k + s) = t.1 112 0 (48 * k + s) := fun s hs => n1 112 0 _ (by omega)
        obtain ⟨y1, y2⟩ := g3 k (by omega)
        refine ⟨fun y => ?_, fun y c' n' hc' hn2 y4 y6 => ?_⟩
        · obtain ⟨m1, m2⟩ := y1 y
          exact ⟨s110.trans m1, fun s hs => ⟨(s111 s hs).trans (m2 s hs).1, (s112 s hs).trans (m2 s hs).2⟩⟩
        · obtain ⟨m1, m3, m4⟩ := y2 y c' n' hc' hn2 y4 y6
          exact ⟨s110.trans m1, fun s hs => (s111 s hs).trans (m3 s hs), fun s hs => (s112 s hs).trans (m4 s hs)⟩
    · simp (disch := first | omega | decide) only [Nat.reduceAdd, Nat.reduceMul, ↓ev_ck, ↓ev_if, ↓ev_lt, ↓ev_jn, ↓ev_so, ↓reduceIte, ↓ev_within, ↓ev_in, ↓ev_isBoard, ↓ev_isGauge, ↓ev_isNumber, ↓ev_isSix, ↓ev_isEight, ↓ev_foundN, ↓ev_meetsN, ↓ev_found_1, ↓ev_meets_1, ↓ev_found_2, ↓ev_meets_2, ↓ev_found_3, ↓ev_meets_3, ↓ev_found_4, ↓ev_meets_4, ↓ev_found_5, ↓ev_meets_5, true_and, and_true, and_self, eq_self, not_true_eq_false, not_false_eq_true, ite_true, ite_false, true_or, or_true, false_or, or_false, false_and, and_false, ← zi_ni_0, ← zi_ni_1, ← zi_ni_2, ← zi_ni_3, ← zi_ni_4, ← zi_ni_5, ← zi_ni_6, ← zi_ni_7, ← zi_ni_8, ← zi_ni_9, ← zi_ni_10, ← zi_ni_12, ← zi_ni_24, ← zi_ni_25, ← zi_ni_40, ← zi_ni_45, ← zi_ni_47, ← zi_ni_48, ← zi_ni_95, ← zi_ni_96, ← zi_ni_97, ← zi_ni_100, ← zi_ni_144, ← zi_ni_288, nI_ltI, nI_leI, nI_eqI, nlt_T, nlt_F, nle_T, nle_F, neq_T, neq_F, nI_add, pk_mul, nI_clamp, q_inT, ng_lt, ng_tl, ng_le, ng_el, ng_eq, ng_qe, q_b0, q_b1, nar_0, nar_1, b01, b01', q_bn0, q_bn1, nar_n0, nar_n1, si_k, si_i, si_s, si_e, si_2, sl_1, sl_22, sl_k, sl_i, sl_s, sl_e, sp_1, sp_21, sp_22, sc_k, sc_i, sc_e, sc_2, mF_k, mM_k, mF_2, mM_2, mF_0, mM_11, ↓eu_L_X11_stepOnce_298, c2, hq]
      refine K _ ⟨fun a i' s z => g1 a i' s (by omega), g2, fun k hk => ?_⟩
      by_cases z : k = i
      · subst z
        exact ⟨fun _ => ⟨c4, fun s hs => ⟨t111 s hs, t112 s hs⟩⟩, fun y => absurd y hq⟩
      · exact g3 k (by omega)
  · rintro f t ⟨g1, g2, g3⟩
    show Ev (L_X11_stepOnce_298 (nI b) (f + 1) (nI 8) t e) P
    simp (disch := first | omega | decide) only [Nat.reduceAdd, Nat.reduceMul, ↓ev_ck, ↓ev_if, ↓ev_lt, ↓ev_jn, ↓ev_so, ↓reduceIte, ↓ev_within, ↓ev_in, ↓ev_isBoard, ↓ev_isGauge, ↓ev_isNumber, ↓ev_isSix, ↓ev_isEight, ↓ev_foundN, ↓ev_meetsN, ↓ev_found_1, ↓ev_meets_1, ↓ev_found_2, ↓ev_meets_2, ↓ev_found_3, ↓ev_meets_3, ↓ev_found_4, ↓ev_meets_4, ↓ev_found_5, ↓ev_meets_5, true_and, and_true, and_self, eq_self, not_true_eq_false, not_false_eq_true, ite_true, ite_false, true_or, or_true, false_or, or_false, false_and, and_false, ← zi_ni_0, ← zi_ni_1, ← zi_ni_2, ← zi_ni_3, ← zi_ni_4, ← zi_ni_5, ← zi_ni_6, ← zi_ni_7, ← zi_ni_8, ← zi_ni_9, ← zi_ni_10, ← zi_ni_12, ← zi_ni_24, ← zi_ni_25, ← zi_ni_40, ← zi_ni_45, ← zi_ni_47, ← zi_ni_48, ← zi_ni_95, ← zi_ni_96, ← zi_ni_97, ← zi_ni_100, ← zi_ni_144, ← zi_ni_288, nI_ltI, nI_leI, nI_eqI, nlt_T, nlt_F, nle_T, nle_F, neq_T, neq_F, nI_add, pk_mul, nI_clamp, q_inT, ng_lt, ng_tl, ng_le, ng_el, ng_eq, ng_qe, q_b0, q_b1, nar_0, nar_1, b01, b01', q_bn0, q_bn1, nar_n0, nar_n1, si_k, si_i, si_s, si_e, si_2, sl_1, sl_22, sl_k, sl_i, sl_s, sl_e, sp_1, sp_21, sp_22, sc_k, sc_i, sc_e, sc_2, mF_k, mM_k, mF_2, mM_2, mF_0, mM_11, ↓eu_L_X11_stepOnce_298]
    exact K0 _ (fun a i s z => g1 a i s (by omega)) g2 g3

