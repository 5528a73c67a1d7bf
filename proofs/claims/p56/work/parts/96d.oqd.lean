theorem lp_cg {v : qB} {b N : Nat} {u : qM} {e : qM → Option (Int32 × qM)} {P : Int32 → qM → Prop} (hb : b < 6) (h48 : N ≤ 48) (hn : SN v u b) (hG : GC u b N) (K0 : ∀ u', (∀ a i s, ¬ (i < 8 ∧ (a = 52 ∨ a = 53 ∨ (a = 9 ∧ (s = 4 ∨ s = 5)))) → u'.1 a i s = u.1 a i s) → u'.2 = u.2 → (∀ g, g < 8 → (¬ u.1 9 g 2 = nI b → u'.1 9 g = u.1 9 g ∧ u'.1 52 g = u.1 52 g ∧ u'.1 53 g = u.1 53 g) ∧ (u.1 9 g 2 = nI b → ∀ c f n, c < N → f < 48 → n ≤ 48 → u.1 9 g 3 = nI c → u.1 9 g 4 = nI f → u.1 9 g 5 = nI n → GCp u u' g f n (lev v c))) → Ev (e u') P) : Ev (L_X10_stepWhole_63 (nI b) q_fu 0 u e) P := by
  refine lpc (fun f x t => L_X10_stepWhole_63 (nI b) f x t e) (fun i t => (∀ a i' s, ¬ (i' < i ∧ (a = 52 ∨ a = 53 ∨ (a = 9 ∧ (s = 4 ∨ s = 5)))) → t.1 a i' s = u.1 a i' s) ∧ t.2 = u.2 ∧ (∀ g, g < i → (¬ u.1 9 g 2 = nI b → t.1 9 g = u.1 9 g ∧ t.1 52 g = u.1 52 g ∧ t.1 53 g = u.1 53 g) ∧ (u.1 9 g 2 = nI b → ∀ c f n, c < N → f < 48 → n ≤ 48 → u.1 9 g 3 = nI c → u.1 9 g 4 = nI f → u.1 9 g 5 = nI n → GCp u t g f n (lev v c)))) 8 (by decide) u ⟨fun _ _ _ _ => rfl, rfl, fun k hk => absurd hk (Nat.not_lt_zero _)⟩ ?_ ?_
  · rintro f i t hi ⟨g1, g2, g3⟩ K
    show Ev (L_X10_stepWhole_63 (nI b) (f + 1) (nI i) t e) P
    have c2 : t.1 9 i 2 = u.1 9 i 2 := g1 9 i 2 (by omega)
    have c3 : t.1 9 i 3 = u.1 9 i 3 := g1 9 i 3 (by omega)
    have c4 : t.1 9 i 4 = u.1 9 i 4 := g1 9 i 4 (by omega)
    have c5 : t.1 9 i 5 = u.1 9 i 5 := g1 9 i 5 (by omega)
    have hn' : SN v t b := by
      have e : ∀ a, a ≠ 9 → a ≠ 52 → a ≠ 53 → t.1 a = u.1 a := fun a q1 q2 q3 => funext (fun i => funext (fun s => g1 a i s (by omega)))
      unfold SN
      rw [e 2 (by decide) (by decide) (by decide), e 3 (by decide) (by decide) (by decide), e 37 (by decide) (by decide) (by decide), e 38 (by decide) (by decide) (by decide), e 40 (by decide) (by decide) (by decide), e 41 (by decide) (by decide) (by decide)]
      exact hn
    by_cases hq : u.1 9 i 2 = nI b
    · obtain ⟨c, f', n, q1, q2, q3, q4, q5, q6⟩ := hG i hi hq
      simp (disch := first | omega | decide) only [Nat.reduceAdd, Nat.reduceMul, ↓ev_ck, ↓ev_if, ↓ev_lt, ↓ev_jn, ↓ev_so, ↓reduceIte, ↓ev_within, ↓ev_isBoard, ↓ev_isNumber, ↓ev_foundN, ↓ev_found_1, ↓ev_found_2, ↓ev_found_3, ↓ev_found_4, ↓ev_found_5, true_and, and_true, and_self, eq_self, not_true_eq_false, not_false_eq_true, ite_true, ite_false, true_or, or_true, false_or, or_false, false_and, and_false, ← zi_ni_0, ← zi_ni_1, ← zi_ni_2, ← zi_ni_3, ← zi_ni_4, ← zi_ni_5, ← zi_ni_6, ← zi_ni_7, ← zi_ni_8, ← zi_ni_9, ← zi_ni_10, ← zi_ni_12, ← zi_ni_24, ← zi_ni_25, ← zi_ni_40, ← zi_ni_45, ← zi_ni_47, ← zi_ni_48, ← zi_ni_95, ← zi_ni_96, ← zi_ni_97, ← zi_ni_100, ← zi_ni_144, ← zi_ni_288, nI_ltI, nI_leI, nI_eqI, nlt_T, nlt_F, nle_T, nle_F, neq_T, neq_F, nI_add, pk_mul, nI_clamp, q_inT, ng_lt, ng_tl, ng_le, ng_el, ng_eq, ng_qe, q_b0, q_b1, nar_0, nar_1, b01, b01', q_bn0, q_bn1, nar_n0, nar_n1, si_k, si_i, si_s, si_e, si_2, sl_1, sl_22, sl_k, sl_i, sl_s, sl_e, sp_1, sp_21, sp_22, sc_k, sc_i, sc_e, sc_2, mF_k, mF_2, mF_0, ↓eu_L_X10_stepWhole_63, c2, c3, hq, q1]
      refine ev_bd.mpr (ev_level (by omega) hn' ?_)
      try simp (disch := first | omega | decide) only [Nat.reduceAdd, Nat.reduceMul, ↓ev_ck, ↓ev_if, ↓ev_lt, ↓ev_jn, ↓ev_so, ↓reduceIte, ↓ev_within, ↓ev_isBoard, ↓ev_isNumber, ↓ev_foundN, ↓ev_found_1, ↓ev_found_2, ↓ev_found_3, ↓ev_found_4, ↓ev_found_5, true_and, and_true, and_self, eq_self, not_true_eq_false, not_false_eq_true, ite_true, ite_false, true_or, or_true, false_or, or_false, false_and, and_false, ← zi_ni_0, ← zi_ni_1, ← zi_ni_2, ← zi_ni_3, ← zi_ni_4, ← zi_ni_5, ← zi_ni_6, ← zi_ni_7, ← zi_ni_8, ← zi_ni_9, ← zi_ni_10, ← zi_ni_12, ← zi_ni_24, ← zi_ni_25, ← zi_ni_40, ← zi_ni_45, ← zi_ni_47, ← zi_ni_48, ← zi_ni_95, ← zi_ni_96, ← zi_ni_97, ← zi_ni_100, ← zi_ni_144, ← zi_ni_288, nI_ltI, nI_leI, nI_eqI, nlt_T, nlt_F, nle_T, nle_F, neq_T, neq_F, nI_add, pk_mul, nI_clamp, q_inT, ng_lt, ng_tl, ng_le, ng_el, ng_eq, ng_qe, q_b0, q_b1, nar_0, nar_1, b01, b01', q_bn0, q_bn1, nar_n0, nar_n1, si_k, si_i, si_s, si_e, si_2, sl_1, sl_22, sl_k, sl_i, sl_s, sl_e, sp_1, sp_21, sp_22, sc_k, sc_i, sc_e, sc_2, mF_k, mF_2, mF_0]
      refine ev_bd.mpr (ev_read (c4.trans q2) (c5.trans q3) q5 q6 (fun t' n1 n2 n3 => ?_))
      try simp (disch := first | omega | decide) only [Nat.reduceAdd, Nat.reduceMul, ↓ev_ck, ↓ev_if, ↓ev_lt, ↓ev_jn, ↓ev_so, ↓reduceIte, ↓ev_within, ↓ev_isBoard, ↓ev_isNumber, ↓ev_foundN, ↓ev_found_1, ↓ev_found_2, ↓ev_found_3, ↓ev_found_4, ↓ev_found_5, true_and, and_true, and_self, eq_self, not_true_eq_false, not_false_eq_true, ite_true, ite_false, true_or, or_true, false_or, or_false, false_and, and_false, ← zi_ni_0, ← zi_ni_1, ← zi_ni_2, ← zi_ni_3, ← zi_ni_4, ← zi_ni_5, ← zi_ni_6, ← zi_ni_7, ← zi_ni_8, ← zi_ni_9, ← zi_ni_10, ← zi_ni_12, ← zi_ni_24, ← zi_ni_25, ← zi_ni_40, ← zi_ni_45, ← zi_ni_47, ← zi_ni_48, ← zi_ni_95, ← zi_ni_96, ← zi_ni_97, ← zi_ni_100, ← zi_ni_144, ← zi_ni_288, nI_ltI, nI_leI, nI_eqI, nlt_T, nlt_F, nle_T, nle_F, neq_T, neq_F, nI_add, pk_mul, nI_clamp, q_inT, ng_lt, ng_tl, ng_le, ng_el, ng_eq, ng_qe, q_b0, q_b1, nar_0, nar_1, b01, b01', q_bn0, q_bn1, nar_n0, nar_n1, si_k, si_i, si_s, si_e, si_2, sl_1, sl_22, sl_k, sl_i, sl_s, sl_e, sp_1, sp_21, sp_22, sc_k, sc_i, sc_e, sc_2, mF_k, mF_2, mF_0]
      refine K _ ⟨fun a i' s z => (n1 a i' s (by omega)).trans (g1 a i' s (by omega)), n2.trans g2, fun k hk => ?_⟩
      by_cases z : k = i
      · subst z
        refine ⟨fun y => absurd hq y, fun _ c' f2 n' hc' hf2 hn2 y1 y2 y3 => ?_⟩
        rw [q1] at y1
        rw [q2] at y2
        rw [q3] at y3
        rw [nI_eq (by omega) (by omega)] at y1 y2 y3
        subst y1 y2 y3
        obtain ⟨m1, m2, m3, m4⟩ := n3
        exact ⟨m1, m2, fun s => by rw [m3, g1 52 k s (by omega)], fun s => by rw [m4, g1 53 k s (by omega)]⟩
      · have sl : ∀ a s, t'.1 a k s = t.1 a k s := fun a s => n1 a k s (by omega)
        obtain ⟨y1, y2⟩ := g3 k (by omega)
        refine ⟨fun y => ?_, fun y c' f2 n' hc' hf2 hn2 y4 y5 y6 => ?_⟩
        · obtain ⟨m1, m2, m3⟩ := y1 y
          exact ⟨(funext (sl 9)).trans m1, (funext (sl 52)).trans m2, (funext (sl 53)).trans m3⟩
        · obtain ⟨m1, m2, m3, m4⟩ := y2 y c' f2 n' hc' hf2 hn2 y4 y5 y6
          exact ⟨(sl 9 4).trans m1, (sl 9 5).trans m2, fun s => (sl 52 s).trans (m3 s), fun s => (sl 53 s).trans (m4 s)⟩
    · simp (disch := first | omega | decide) only [Nat.reduceAdd, Nat.reduceMul, ↓ev_ck, ↓ev_if, ↓ev_lt, ↓ev_jn, ↓ev_so, ↓reduceIte, ↓ev_within, ↓ev_isBoard, ↓ev_isNumber, ↓ev_foundN, ↓ev_found_1, ↓ev_found_2, ↓ev_found_3, ↓ev_found_4, ↓ev_found_5, true_and, and_true, and_self, eq_self, not_true_eq_false, not_false_eq_true, ite_true, ite_false, true_or, or_true, false_or, or_false, false_and, and_false, ← zi_ni_0, ← zi_ni_1, ← zi_ni_2, ← zi_ni_3, ← zi_ni_4, ← zi_ni_5, ← zi_ni_6, ← zi_ni_7, ← zi_ni_8, ← zi_ni_9, ← zi_ni_10, ← zi_ni_12, ← zi_ni_24, ← zi_ni_25, ← zi_ni_40, ← zi_ni_45, ← zi_ni_47, ← zi_ni_48, ← zi_ni_95, ← zi_ni_96, ← zi_ni_97, ← zi_ni_100, ← zi_ni_144, ← zi_ni_288, nI_ltI, nI_leI, nI_eqI, nlt_T, nlt_F, nle_T, nle_F, neq_T, neq_F, nI_add, pk_mul, nI_clamp, q_inT, ng_lt, ng_tl, ng_le, ng_el, ng_eq, ng_qe, q_b0, q_b1, nar_0, nar_1, b01, b01', q_bn0, q_bn1, nar_n0, nar_n1, si_k, si_i, si_s, si_e, si_2, sl_1, sl_22, sl_k, sl_i, sl_s, sl_e, sp_1, sp_21, sp_22, sc_k, sc_i, sc_e, sc_2, mF_k, mF_2, mF_0, ↓eu_L_X10_stepWhole_63, c2, hq]
      refine K _ ⟨fun a i' s z => g1 a i' s (by omega), g2, fun k hk => ?_⟩
      by_cases z : k = i
      · subst z
        exact ⟨fun _ => ⟨funext (fun s => g1 9 k s (by omega)), funext (fun s => g1 52 k s (by omega)), funext (fun s => g1 53 k s (by omega))⟩, fun y => absurd y hq⟩
      · exact g3 k (by omega)
  · rintro f t ⟨g1, g2, g3⟩
    show Ev (L_X10_stepWhole_63 (nI b) (f + 1) (nI 8) t e) P
    simp (disch := first | omega | decide) only [Nat.reduceAdd, Nat.reduceMul, ↓ev_ck, ↓ev_if, ↓ev_lt, ↓ev_jn, ↓ev_so, ↓reduceIte, ↓ev_within, ↓ev_isBoard, ↓ev_isNumber, ↓ev_foundN, ↓ev_found_1, ↓ev_found_2, ↓ev_found_3, ↓ev_found_4, ↓ev_found_5, true_and, and_true, and_self, eq_self, not_true_eq_false, not_false_eq_true, ite_true, ite_false, true_or, or_true, false_or, or_false, false_and, and_false, ← zi_ni_0, ← zi_ni_1, ← zi_ni_2, ← zi_ni_3, ← zi_ni_4, ← zi_ni_5, ← zi_ni_6, ← zi_ni_7, ← zi_ni_8, ← zi_ni_9, ← zi_ni_10, ← zi_ni_12, ← zi_ni_24, ← zi_ni_25, ← zi_ni_40, ← zi_ni_45, ← zi_ni_47, ← zi_ni_48, ← zi_ni_95, ← zi_ni_96, ← zi_ni_97, ← zi_ni_100, ← zi_ni_144, ← zi_ni_288, nI_ltI, nI_leI, nI_eqI, nlt_T, nlt_F, nle_T, nle_F, neq_T, neq_F, nI_add, pk_mul, nI_clamp, q_inT, ng_lt, ng_tl, ng_le, ng_el, ng_eq, ng_qe, q_b0, q_b1, nar_0, nar_1, b01, b01', q_bn0, q_bn1, nar_n0, nar_n1, si_k, si_i, si_s, si_e, si_2, sl_1, sl_22, sl_k, sl_i, sl_s, sl_e, sp_1, sp_21, sp_22, sc_k, sc_i, sc_e, sc_2, mF_k, mF_2, mF_0, ↓eu_L_X10_stepWhole_63]
    exact K0 _ g1 g2 g3
