/-- the boats on a board are as they must be, in the class's cells -/
def BC (u : qM) (b N : Nat) : Prop := ∀ k, k < 8 → u.1 8 k 0 = nI b → ∃ c d, u.1 8 k 1 = nI c ∧ u.1 8 k 2 = nI d ∧ c < N ∧ 1 ≤ d ∧ d ≤ 1000
theorem lp_cb {v : qB} {b w h : Nat} {u : qM} {e : qM → Option (Int32 × qM)} {P : Int32 → qM → Prop} (hb : b < 6) (hd : DW v w h) (hfl : ∀ s, -100000 ≤ (v 4 s).toInt ∧ (v 4 s).toInt ≤ 100000) (hn : SN v u b) (hB : BC u b (w * h)) (K0 : ∀ u', (∀ a i s, ¬ (a = 8 ∧ i < 8 ∧ s = 1) → u'.1 a i s = u.1 a i s) → u'.2 = u.2 → (∀ k, k < 8 → (¬ u.1 8 k 0 = nI b → u'.1 8 k 1 = u.1 8 k 1) ∧ (u.1 8 k 0 = nI b → ∀ c d, c < w * h → d ≤ 1000 → u.1 8 k 1 = nI c → u.1 8 k 2 = nI d → u'.1 8 k 1 = nI (drF v w (w * h) c d))) → Ev (e u') P) : Ev (L_X10_stepWhole_26 (nI b) q_fu 0 u e) P := by
  have h48 := hd.2.2.2.2.2.2.2.2.2
  refine lpc (fun f x t => L_X10_stepWhole_26 (nI b) f x t e) (fun i t => (∀ a i' s, ¬ (a = 8 ∧ i' < i ∧ s = 1) → t.1 a i' s = u.1 a i' s) ∧ t.2 = u.2 ∧ (∀ k, k < i → (¬ u.1 8 k 0 = nI b → t.1 8 k 1 = u.1 8 k 1) ∧ (u.1 8 k 0 = nI b → ∀ c d, c < w * h → d ≤ 1000 → u.1 8 k 1 = nI c → u.1 8 k 2 = nI d → t.1 8 k 1 = nI (drF v w (w * h) c d)))) 8 (by decide) u ⟨fun _ _ _ _ => rfl, rfl, fun k hk => absurd hk (Nat.not_lt_zero _)⟩ ?_ ?_
  · rintro f i t hi ⟨g1, g2, g3⟩ K
    show Ev (L_X10_stepWhole_26 (nI b) (f + 1) (nI i) t e) P
    have c0 : t.1 8 i 0 = u.1 8 i 0 := g1 8 i 0 (by omega)
    have c1 : t.1 8 i 1 = u.1 8 i 1 := g1 8 i 1 (by omega)
    have c2 : t.1 8 i 2 = u.1 8 i 2 := g1 8 i 2 (by omega)
    have hn' : SN v t b := by
      have e : ∀ a, a ≠ 8 → t.1 a = u.1 a := fun a q => funext (fun i => funext (fun s => g1 a i s (fun z => q z.1)))
      unfold SN
      rw [e 2 (by decide), e 3 (by decide), e 37 (by decide), e 38 (by decide), e 40 (by decide), e 41 (by decide)]
      exact hn
    by_cases hq : u.1 8 i 0 = nI b
    · obtain ⟨c, d, q1, q2, q3, q4, q5⟩ := hB i hi hq
      simp (disch := first | omega | decide) only [Nat.reduceAdd, Nat.reduceMul, ↓ev_ck, ↓ev_if, ↓ev_lt, ↓ev_jn, ↓ev_so, ↓reduceIte, ↓ev_within, ↓ev_isBoard, ↓ev_isNumber, ↓ev_foundN, ↓ev_found_1, ↓ev_found_2, ↓ev_found_3, ↓ev_found_4, ↓ev_found_5, true_and, and_true, and_self, eq_self, not_true_eq_false, not_false_eq_true, ite_true, ite_false, true_or, or_true, false_or, or_false, false_and, and_false, ← zi_ni_0, ← zi_ni_1, ← zi_ni_2, ← zi_ni_3, ← zi_ni_4, ← zi_ni_5, ← zi_ni_6, ← zi_ni_7, ← zi_ni_8, ← zi_ni_9, ← zi_ni_10, ← zi_ni_12, ← zi_ni_24, ← zi_ni_25, ← zi_ni_40, ← zi_ni_45, ← zi_ni_47, ← zi_ni_48, ← zi_ni_95, ← zi_ni_96, ← zi_ni_97, ← zi_ni_100, ← zi_ni_144, ← zi_ni_288, nI_ltI, nI_leI, nI_eqI, nlt_T, nlt_F, nle_T, nle_F, neq_T, neq_F, nI_add, pk_mul, nI_clamp, q_inT, ng_lt, ng_tl, ng_le, ng_el, ng_eq, ng_qe, q_b0, q_b1, nar_0, nar_1, b01, b01', q_bn0, q_bn1, nar_n0, nar_n1, si_k, si_i, si_s, si_e, si_2, sl_1, sl_22, sl_k, sl_i, sl_s, sl_e, sp_1, sp_21, sp_22, sc_k, sc_i, sc_e, sc_2, mF_k, mF_2, mF_0, ↓eu_L_X10_stepWhole_26, c0, hq]
      refine ev_bd.mpr (ev_drift hd hfl hn' q3 (c1.trans q1) (c2.trans q2) q4 q5 (fun t' n1 n2 n3 => ?_))
      try simp (disch := first | omega | decide) only [Nat.reduceAdd, Nat.reduceMul, ↓ev_ck, ↓ev_if, ↓ev_lt, ↓ev_jn, ↓ev_so, ↓reduceIte, ↓ev_within, ↓ev_isBoard, ↓ev_isNumber, ↓ev_foundN, ↓ev_found_1, ↓ev_found_2, ↓ev_found_3, ↓ev_found_4, ↓ev_found_5, true_and, and_true, and_self, eq_self, not_true_eq_false, not_false_eq_true, ite_true, ite_false, true_or, or_true, false_or, or_false, false_and, and_false, ← zi_ni_0, ← zi_ni_1, ← zi_ni_2, ← zi_ni_3, ← zi_ni_4, ← zi_ni_5, ← zi_ni_6, ← zi_ni_7, ← zi_ni_8, ← zi_ni_9, ← zi_ni_10, ← zi_ni_12, ← zi_ni_24, ← zi_ni_25, ← zi_ni_40, ← zi_ni_45, ← zi_ni_47, ← zi_ni_48, ← zi_ni_95, ← zi_ni_96, ← zi_ni_97, ← zi_ni_100, ← zi_ni_144, ← zi_ni_288, nI_ltI, nI_leI, nI_eqI, nlt_T, nlt_F, nle_T, nle_F, neq_T, neq_F, nI_add, pk_mul, nI_clamp, q_inT, ng_lt, ng_tl, ng_le, ng_el, ng_eq, ng_qe, q_b0, q_b1, nar_0, nar_1, b01, b01', q_bn0, q_bn1, nar_n0, nar_n1, si_k, si_i, si_s, si_e, si_2, sl_1, sl_22, sl_k, sl_i, sl_s, sl_e, sp_1, sp_21, sp_22, sc_k, sc_i, sc_e, sc_2, mF_k, mF_2, mF_0]
      refine K _ ⟨fun a i' s z => (n1 a i' s (by omega)).trans (g1 a i' s (by omega)), n2.trans g2, fun k hk => ?_⟩
      by_cases z : k = i
      · subst z
        refine ⟨fun y => absurd hq y, fun _ c' d' hc' hd' y1 y2 => ?_⟩
        rw [q1] at y1
        rw [q2] at y2
        rw [nI_eq (by omega) (by omega)] at y1 y2
        subst y1 y2
        exact n3
      · rw [n1 8 k 1 (by omega)]
        exact g3 k (by omega)
    · simp (disch := first | omega | decide) only [Nat.reduceAdd, Nat.reduceMul, ↓ev_ck, ↓ev_if, ↓ev_lt, ↓ev_jn, ↓ev_so, ↓reduceIte, ↓ev_within, ↓ev_isBoard, ↓ev_isNumber, ↓ev_foundN, ↓ev_found_1, ↓ev_found_2, ↓ev_found_3, ↓ev_found_4, ↓ev_found_5, true_and, and_true, and_self, eq_self, not_true_eq_false, not_false_eq_true, ite_true, ite_false, true_or, or_true, false_or, or_false, false_and, and_false, ← zi_ni_0, ← zi_ni_1, ← zi_ni_2, ← zi_ni_3, ← zi_ni_4, ← zi_ni_5, ← zi_ni_6, ← zi_ni_7, ← zi_ni_8, ← zi_ni_9, ← zi_ni_10, ← zi_ni_12, ← zi_ni_24, ← zi_ni_25, ← zi_ni_40, ← zi_ni_45, ← zi_ni_47, ← zi_ni_48, ← zi_ni_95, ← zi_ni_96, ← zi_ni_97, ← zi_ni_100, ← zi_ni_144, ← zi_ni_288, nI_ltI, nI_leI, nI_eqI, nlt_T, nlt_F, nle_T, nle_F, neq_T, neq_F, nI_add, pk_mul, nI_clamp, q_inT, ng_lt, ng_tl, ng_le, ng_el, ng_eq, ng_qe, q_b0, q_b1, nar_0, nar_1, b01, b01', q_bn0, q_bn1, nar_n0, nar_n1, si_k, si_i, si_s, si_e, si_2, sl_1, sl_22, sl_k, sl_i, sl_s, sl_e, sp_1, sp_21, sp_22, sc_k, sc_i, sc_e, sc_2, mF_k, mF_2, mF_0, ↓eu_L_X10_stepWhole_26, c0, hq]
      refine K _ ⟨fun a i' s z => g1 a i' s (by omega), g2, fun k hk => ?_⟩
      by_cases z : k = i
      · subst z
        exact ⟨fun _ => c1, fun y => absurd y hq⟩
      · exact g3 k (by omega)
  · rintro f t ⟨g1, g2, g3⟩
    show Ev (L_X10_stepWhole_26 (nI b) (f + 1) (nI 8) t e) P
    simp (disch := first | omega | decide) only [Nat.reduceAdd, Nat.reduceMul, ↓ev_ck, ↓ev_if, ↓ev_lt, ↓ev_jn, ↓ev_so, ↓reduceIte, ↓ev_within, ↓ev_isBoard, ↓ev_isNumber, ↓ev_foundN, ↓ev_found_1, ↓ev_found_2, ↓ev_found_3, ↓ev_found_4, ↓ev_found_5, true_and, and_true, and_self, eq_self, not_true_eq_false, not_false_eq_true, ite_true, ite_false, true_or, or_true, false_or, or_false, false_and, and_false, ← zi_ni_0, ← zi_ni_1, ← zi_ni_2, ← zi_ni_3, ← zi_ni_4, ← zi_ni_5, ← zi_ni_6, ← zi_ni_7, ← zi_ni_8, ← zi_ni_9, ← zi_ni_10, ← zi_ni_12, ← zi_ni_24, ← zi_ni_25, ← zi_ni_40, ← zi_ni_45, ← zi_ni_47, ← zi_ni_48, ← zi_ni_95, ← zi_ni_96, ← zi_ni_97, ← zi_ni_100, ← zi_ni_144, ← zi_ni_288, nI_ltI, nI_leI, nI_eqI, nlt_T, nlt_F, nle_T, nle_F, neq_T, neq_F, nI_add, pk_mul, nI_clamp, q_inT, ng_lt, ng_tl, ng_le, ng_el, ng_eq, ng_qe, q_b0, q_b1, nar_0, nar_1, b01, b01', q_bn0, q_bn1, nar_n0, nar_n1, si_k, si_i, si_s, si_e, si_2, sl_1, sl_22, sl_k, sl_i, sl_s, sl_e, sp_1, sp_21, sp_22, sc_k, sc_i, sc_e, sc_2, mF_k, mF_2, mF_0, ↓eu_L_X10_stepWhole_26]
    exact K0 _ g1 g2 g3
/-- the gauges on a board, in the class's cells -/
def GC (u : qM) (b N : Nat) : Prop := ∀ g, g < 8 → u.1 9 g 2 = nI b → ∃ c f n, u.1 9 g 3 = nI c ∧ u.1 9 g 4 = nI f ∧ u.1 9 g 5 = nI n ∧ c < N ∧ f < 48 ∧ n ≤ 48
/-- one reading more, in a ring -/
def GCp (u u' : qM) (g f n : Nat) (x : Int32) : Prop := u'.1 9 g 4 = nI (if n = 48 then (f + 1) % 48 else f) ∧ u'.1 9 g 5 = nI (if n = 48 then 48 else n + 1) ∧ (∀ s, u'.1 52 g s = if s = (f + n) % 48 then x else u.1 52 g s) ∧ (∀ s, u'.1 53 g s = if s = (f + n) % 48 then nI 0 else u.1 53 g s)
theorem ev_read {g f n : Nat} {x : Int32} {u : qM} {P : Unit → qM → Prop} (h1 : u.1 9 g 4 = nI f) (h2 : u.1 9 g 5 = nI n) (hf : f < 48) (hn : n ≤ 48) (K : ∀ u', (∀ a i s, ¬ (i = g ∧ (a = 52 ∨ a = 53 ∨ (a = 9 ∧ (s = 4 ∨ s = 5)))) → u'.1 a i s = u.1 a i s) → u'.2 = u.2 → GCp u u' g f n x → P () u') : Ev (f_X2_read g x u) P := by
  have hm : (f + n) % 48 < 48 := Nat.mod_lt _ (by decide)
  by_cases hq : n = 48
  · subst hq
    simp (disch := first | omega | decide) only [Nat.reduceAdd, Nat.reduceMul, ↓ev_bd, ↓ev_ck, ↓ev_if, ↓ev_lt, ↓ev_jn, ↓ev_so, ↓reduceIte, ↓ev_within, ↓ev_isBoard, ↓ev_isNumber, ↓ev_foundN, ↓ev_found_1, ↓ev_found_2, ↓ev_found_3, ↓ev_found_4, ↓ev_found_5, true_and, and_true, and_self, eq_self, not_true_eq_false, not_false_eq_true, ite_true, ite_false, true_or, or_true, false_or, or_false, false_and, and_false, ← zi_ni_0, ← zi_ni_1, ← zi_ni_2, ← zi_ni_3, ← zi_ni_4, ← zi_ni_5, ← zi_ni_6, ← zi_ni_7, ← zi_ni_8, ← zi_ni_9, ← zi_ni_10, ← zi_ni_12, ← zi_ni_24, ← zi_ni_25, ← zi_ni_40, ← zi_ni_45, ← zi_ni_47, ← zi_ni_48, ← zi_ni_95, ← zi_ni_96, ← zi_ni_97, ← zi_ni_100, ← zi_ni_144, ← zi_ni_288, nI_ltI, nI_leI, nI_eqI, nlt_T, nlt_F, nle_T, nle_F, neq_T, neq_F, nI_add, pk_mul, nI_clamp, q_inT, ng_lt, ng_tl, ng_le, ng_el, ng_eq, ng_qe, q_b0, q_b1, nar_0, nar_1, b01, b01', q_bn0, q_bn1, nar_n0, nar_n1, si_k, si_i, si_s, si_e, si_2, sl_1, sl_22, sl_k, sl_i, sl_s, sl_e, sp_1, sp_21, sp_22, sc_k, sc_i, sc_e, sc_2, mF_k, mF_2, mF_0, ↓eu_X2_read, ↓eu_X2_fromOldest, h1, h2, pk_div, pk_rem', n_rem]
    refine K _ (fun a i s z => ?_) rfl ⟨?_, ?_, fun s => ?_, fun s => ?_⟩
    · rw [si_n (by omega), si_n (by omega), si_n (by omega)]
    · rw [si_e]; rfl
    · rw [si_s (by decide), si_k (by decide), si_k (by decide), h2]; rfl
    · rw [si_k (by decide), si_k (by decide), si_c]
    · rw [si_k (by decide), si_c, si_k (by decide)]
  · simp (disch := first | omega | decide) only [Nat.reduceAdd, Nat.reduceMul, ↓ev_bd, ↓ev_ck, ↓ev_if, ↓ev_lt, ↓ev_jn, ↓ev_so, ↓reduceIte, ↓ev_within, ↓ev_isBoard, ↓ev_isNumber, ↓ev_foundN, ↓ev_found_1, ↓ev_found_2, ↓ev_found_3, ↓ev_found_4, ↓ev_found_5, true_and, and_true, and_self, eq_self, not_true_eq_false, not_false_eq_true, ite_true, ite_false, true_or, or_true, false_or, or_false, false_and, and_false, ← zi_ni_0, ← zi_ni_1, ← zi_ni_2, ← zi_ni_3, ← zi_ni_4, ← zi_ni_5, ← zi_ni_6, ← zi_ni_7, ← zi_ni_8, ← zi_ni_9, ← zi_ni_10, ← zi_ni_12, ← zi_ni_24, ← zi_ni_25, ← zi_ni_40, ← zi_ni_45, ← zi_ni_47, ← zi_ni_48, ← zi_ni_95, ← zi_ni_96, ← zi_ni_97, ← zi_ni_100, ← zi_ni_144, ← zi_ni_288, nI_ltI, nI_leI, nI_eqI, nlt_T, nlt_F, nle_T, nle_F, neq_T, neq_F, nI_add, pk_mul, nI_clamp, q_inT, ng_lt, ng_tl, ng_le, ng_el, ng_eq, ng_qe, q_b0, q_b1, nar_0, nar_1, b01, b01', q_bn0, q_bn1, nar_n0, nar_n1, si_k, si_i, si_s, si_e, si_2, sl_1, sl_22, sl_k, sl_i, sl_s, sl_e, sp_1, sp_21, sp_22, sc_k, sc_i, sc_e, sc_2, mF_k, mF_2, mF_0, ↓eu_X2_read, ↓eu_X2_fromOldest, h1, h2, pk_div, pk_rem', n_rem, hq]
    refine K _ (fun a i s z => ?_) rfl ⟨?_, ?_, fun s => ?_, fun s => ?_⟩
    · rw [si_n (by omega), si_n (by omega), si_n (by omega)]
    · rw [si_s (by decide), si_k (by decide), si_k (by decide), h1, if_neg hq]
    · rw [si_e, if_neg hq]
    · rw [si_k (by decide), si_k (by decide), si_c]
    · rw [si_k (by decide), si_c, si_k (by decide)]


