/-! world. -/
def W7 (a i s : Nat) : Prop := (a = 0 ∧ s = 14) ∨ (a = 11 ∧ s = 61) ∨ (a = 33 ∧ i = 2) ∨ a = 122 ∨ a = 123 ∨ a = 32 ∨ a = 34 ∨ a = 124
theorem Rel_7 {n : Nat} {u t : qM} (hI : ∀ a i s, ¬ scr a i s → ¬ W7 a i s → t.1 a i s = u.1 a i s) (hL : ∀ a s, a = 0 ∨ a = 10 ∨ (a = 11 ∧ (s = 3 ∨ s = 4 ∨ s = 5)) → t.2.1 a 0 s = u.2.1 a 0 s) (h7 : R7 t) (h : Rel n u) : Rel n t := by
  have T : ∀ a, (∀ i s, ¬ scr a i s ∧ ¬ W7 a i s) → t.1 a = u.1 a := fun a q => funext (fun i => funext (fun s => hI a i s (q i s).1 (q i s).2))
  have TI : ∀ a i, (∀ s, ¬ scr a i s ∧ ¬ W7 a i s) → t.1 a i = u.1 a i := fun a i q => funext (fun s => hI a i s (q s).1 (q s).2)
  obtain ⟨h0, h1, h2, h3, h4, h5, h6, -, h8⟩ := h
  have hc : ∀ b, b < 6 → cB t b = cB u b := fun b hb => by apply cB_ext <;> exact TI _ b (fun s => by unfold scr W7; omega)
  have hm : ∀ b, b < 6 → mB t b = mB u b := fun b hb => mB_pt (fun a ha => hI a 0 b (by unfold scr; omega) (by unfold W7; omega)) (fun a s ha hs => hI a 0 _ (by unfold scr; omega) (by unfold W7; omega)) (fun a s ha hs => hI a 0 _ (by unfold scr; omega) (by unfold W7; omega)) (fun s hs => hI 93 0 _ (by unfold scr; omega) (by unfold W7; omega)) (fun a s ha hs => hI a 0 _ (by unfold scr; omega) (by unfold W7; omega))
  have t2 : ∀ b, b < 6 → t.1 2 b 10 = u.1 2 b 10 := fun b hb => hI 2 b 10 (by unfold scr; omega) (by unfold W7; omega)
  have t5 : ∀ b, b < 6 → t.1 5 b = u.1 5 b := fun b hb => TI 5 b (fun s => by unfold scr W7; omega)
  have t45 : ∀ b, b < 6 → t.1 45 b = u.1 45 b := fun b hb => TI 45 b (fun s => by unfold scr W7; omega)
  have t46 : ∀ b, b < 6 → t.1 46 b = u.1 46 b := fun b hb => TI 46 b (fun s => by unfold scr W7; omega)
  have e11 : ∀ s, s = 0 ∨ s = 2 ∨ s = 55 ∨ s = 56 ∨ s = 57 → t.1 11 0 s = u.1 11 0 s := fun s q => hI 11 0 s (by unfold scr; omega) (by unfold W7; omega)
  refine ⟨?_, R1_ext (TI 33 0 (fun s => by unfold scr W7; omega)) (T 66 (fun i s => by unfold scr W7; omega)) (T 67 (fun i s => by unfold scr W7; omega)) (T 30 (fun i s => by unfold scr W7; omega)) h1, R2_ext (TI 33 1 (fun s => by unfold scr W7; omega)) (T 69 (fun i s => by unfold scr W7; omega)) (T 70 (fun i s => by unfold scr W7; omega)) (T 31 (fun i s => by unfold scr W7; omega)) h2, R3_ext (Nat.le_refl _) hc hm t2 t5 t45 t46 (T 96 (fun i s => by unfold scr W7; omega)) (T 97 (fun i s => by unfold scr W7; omega)) (T 98 (fun i s => by unfold scr W7; omega)) (fun s hs => hI 99 0 s (by unfold scr; omega) (by unfold W7; omega)) (fun s hs => hI 100 0 s (by unfold scr; omega) (by unfold W7; omega)) h3, R4_ext hc t2 t5 h4, R5_ext hc t2 (T 8 (fun i s => by unfold scr W7; omega)) (T 105 (fun i s => by unfold scr W7; omega)) (T 106 (fun i s => by unfold scr W7; omega)) (T 107 (fun i s => by unfold scr W7; omega)) h5, R6_ext hc t2 (T 9 (fun i s => by unfold scr W7; omega)) (T 52 (fun i s => by unfold scr W7; omega)) (T 53 (fun i s => by unfold scr W7; omega)) (T 108 (fun i s => by unfold scr W7; omega)) (T 109 (fun i s => by unfold scr W7; omega)) (T 110 (fun i s => by unfold scr W7; omega)) (T 111 (fun i s => by unfold scr W7; omega)) (T 112 (fun i s => by unfold scr W7; omega)) h6, h7, R8_ext (TI 10 0 (fun s => by unfold scr W7; omega)) (e11 55 (by decide)) (e11 56 (by decide)) (e11 57 (by decide)) (hL 11 3 (by decide)) (funext (fun s => hL 10 s (.inr (.inl rfl)))) h8⟩
  obtain ⟨a1, a2, a3, a4, a5⟩ := h0
  refine ⟨?_, ?_, ?_, ?_, fun i hi => ?_⟩
  · rw [e11 2 (by decide), hI 0 0 15 (by unfold scr; omega) (by unfold W7; omega)]; exact a1
  · rw [e11 0 (by decide), hI 0 0 16 (by unfold scr; omega) (by unfold W7; omega)]; exact a2
  · rw [hL 11 4 (by decide), hL 0 17 (by decide)]; exact a3
  · rw [hL 11 5 (by decide), hL 0 18 (by decide)]; exact a4
  · rw [hI 61 0 i (by unfold scr; omega) (by unfold W7; omega), hI 36 0 i (by unfold scr; omega) (by unfold W7; omega)]; exact a5 i hi

theorem tIt_l {f : Nat → Int32} {L b p : Nat} {st : Int32} (hb : b < L) (h : tIt f L b st = .inl p) : p ≤ L + 4 := by
  have hC := tC_le (f := f) (L := L) (a := b) hb
  unfold tIt at h
  by_cases q1 : tHas (f b) = false
  · rw [if_pos q1] at h; injection h with h; omega
  rw [if_neg q1] at h
  by_cases q2 : tdg f (L - tC f L b) (tC f L b) = 0
  · rw [if_pos q2] at h; injection h with h; omega
  rw [if_neg q2] at h
  by_cases q3 : 5 ≤ tdg f (L - tC f L b) (tC f L b)
  · rw [if_pos q3] at h; injection h with h; omega
  rw [if_neg q3] at h
  by_cases q4 : tX f L b < tLo (f b) ∨ tHi (f b) < tX f L b
  · rw [if_pos q4] at h; injection h with h; omega
  rw [if_neg q4] at h
  by_cases q5 : 24 < tS f L b st
  · rw [if_pos q5] at h; injection h with h; omega
  rw [if_neg q5] at h
  cases h
theorem tAl_p {f : Nat → Int32} {L p : Nat} : ∀ n a st, a ≤ L → (tAl f L n a st).2 = some p → p ≤ L + 4
  | 0, _, _, _, h => by cases h
  | n + 1, a, st, ha, h => by
    have hb := tsk_le (f := f) (L - a) a
    by_cases q : L ≤ tsk f (L - a) a
    · rw [tAl_e q] at h
      cases h
    · cases hz : tIt f L (tsk f (L - a) a) st with
      | inl p' =>
        rw [tAl_l q hz] at h
        injection h with h
        subst h
        exact tIt_l (by omega) hz
      | inr r =>
        obtain ⟨x, c, st'⟩ := r
        obtain ⟨-, w2, -, -⟩ := tIt_r (by omega) hz
        rw [tAl_r q hz] at h
        exact tAl_p n c st' w2 h
theorem flt_9 {f : Nat → Int32} {L : Nat} (hL : L ≤ 40) : (flt (tAl f L 41 0 0).2 = -nI 9) = ((tAl f L 41 0 0).2 = none) := by
  cases h : (tAl f L 41 0 0).2 with
  | none => exact propext ⟨fun _ => rfl, fun _ => rfl⟩
  | some p =>
    have hp := tAl_p 41 0 0 (Nat.zero_le L) h
    refine propext ⟨fun q => ?_, fun q => by cases q⟩
    have q' : nI p = -nI 9 := q
    rw [ng_qe (by decide) (by decide) (by omega)] at q'
    exact q'.elim
theorem lp_w99 {t m L : Nat} {u : qM} {e : qM → Option (Int32 × qM)} {P : Int32 → qM → Prop} (ht : t < 6) (hm : m < 8) (hL : L ≤ 40) (e1 : u.1 69 0 t = nI L) (e2 : u.1 11 0 61 = nI m) (K : ∀ u', (∀ a i s, ¬ (a = 123 ∧ i = 0 ∧ 40 * m ≤ s ∧ s < 40 * m + 40) → u'.1 a i s = u.1 a i s) → u'.2 = u.2 → (∀ i, i < L → u'.1 123 0 (40 * m + i) = u.1 70 0 (40 * t + i)) → Ev (e u') P) : Ev (L_X11_world_99 (nI t) q_fu (nI 0) u e) P := by
  refine lpc (fun f x s => L_X11_world_99 (nI t) f x s e) (fun i s => (∀ a j x, ¬ (a = 123 ∧ j = 0 ∧ 40 * m ≤ x ∧ x < 40 * m + 40) → s.1 a j x = u.1 a j x) ∧ s.2 = u.2 ∧ (∀ j, j < i → s.1 123 0 (40 * m + j) = u.1 70 0 (40 * t + j))) L (by omega) u ⟨fun _ _ _ _ => rfl, rfl, fun j hj => absurd hj (Nat.not_lt_zero j)⟩ ?_ ?_
  · rintro F i s hi ⟨a1, a2, a3⟩ K2
    have r1 : s.1 69 0 t = nI L := (a1 69 0 t (by omega)).trans e1
    have r2 : s.1 11 0 61 = nI m := (a1 11 0 61 (by omega)).trans e2
    have r3 : s.1 70 0 (40 * t + i) = u.1 70 0 (40 * t + i) := a1 70 0 _ (by omega)
    show Ev (L_X11_world_99 (nI t) (F + 1) (nI i) s e) P
    have K3 := K2 (q_si s 123 0 (40 * m + i) (u.1 70 0 (40 * t + i))) ⟨fun a j x q => by rw [si_n (by omega)]; exact a1 a j x q, a2, fun j hj => by
      by_cases z : j = i
      · rw [z, si_e]
      · rw [si_s (by omega)]
        exact a3 j (by omega)⟩
    simp (disch := first | omega | decide) only [Nat.reduceAdd, Nat.reduceMul, ↓ev_bd, ↓ev_ck, ↓ev_if, ↓ev_lt, ↓ev_jn, ↓ev_so, ↓reduceIte, ↓ev_within, ↓ev_in, ↓ev_isBoard, ↓ev_isGauge, ↓ev_isNumber, ↓ev_isSix, ↓ev_isEight, ↓ev_foundN, ↓ev_meetsN, ↓ev_found_1, ↓ev_meets_1, ↓ev_found_2, ↓ev_meets_2, ↓ev_found_3, ↓ev_meets_3, ↓ev_found_4, ↓ev_meets_4, ↓ev_found_5, ↓ev_meets_5, true_and, and_true, and_self, eq_self, not_true_eq_false, not_false_eq_true, ite_true, ite_false, true_or, or_true, false_or, or_false, false_and, and_false, ← zi_ni_0, ← zi_ni_1, ← zi_ni_2, ← zi_ni_3, ← zi_ni_4, ← zi_ni_5, ← zi_ni_6, ← zi_ni_7, ← zi_ni_8, ← zi_ni_9, ← zi_ni_10, ← zi_ni_12, ← zi_ni_24, ← zi_ni_25, ← zi_ni_40, ← zi_ni_45, ← zi_ni_47, ← zi_ni_48, ← zi_ni_95, ← zi_ni_96, ← zi_ni_97, ← zi_ni_100, ← zi_ni_144, ← zi_ni_288, nI_ltI, nI_leI, nI_eqI, nlt_T, nlt_F, nle_T, nle_F, neq_T, neq_F, nI_add, pk_mul, nI_clamp, q_inT, ng_lt, ng_tl, ng_le, ng_el, ng_eq, ng_qe, q_b0, q_b1, nar_0, nar_1, b01, b01', q_bn0, q_bn1, nar_n0, nar_n1, si_k, si_i, si_s, si_e, si_2, sl_1, sl_22, sl_k, sl_i, sl_s, sl_e, sp_1, sp_21, sp_22, sc_k, sc_i, sc_e, sc_2, mF_k, mM_k, mF_2, mM_2, mF_0, mM_11, ↓eu_L_X11_world_99, r1, r2, r3]
    exact K3
  · rintro F s ⟨a1, a2, a3⟩
    have r1 : s.1 69 0 t = nI L := (a1 69 0 t (by omega)).trans e1
    show Ev (L_X11_world_99 (nI t) (F + 1) (nI L) s e) P
    simp (disch := first | omega | decide) only [Nat.reduceAdd, Nat.reduceMul, ↓ev_bd, ↓ev_ck, ↓ev_if, ↓ev_lt, ↓ev_jn, ↓ev_so, ↓reduceIte, ↓ev_within, ↓ev_in, ↓ev_isBoard, ↓ev_isGauge, ↓ev_isNumber, ↓ev_isSix, ↓ev_isEight, ↓ev_foundN, ↓ev_meetsN, ↓ev_found_1, ↓ev_meets_1, ↓ev_found_2, ↓ev_meets_2, ↓ev_found_3, ↓ev_meets_3, ↓ev_found_4, ↓ev_meets_4, ↓ev_found_5, ↓ev_meets_5, true_and, and_true, and_self, eq_self, not_true_eq_false, not_false_eq_true, ite_true, ite_false, true_or, or_true, false_or, or_false, false_and, and_false, ← zi_ni_0, ← zi_ni_1, ← zi_ni_2, ← zi_ni_3, ← zi_ni_4, ← zi_ni_5, ← zi_ni_6, ← zi_ni_7, ← zi_ni_8, ← zi_ni_9, ← zi_ni_10, ← zi_ni_12, ← zi_ni_24, ← zi_ni_25, ← zi_ni_40, ← zi_ni_45, ← zi_ni_47, ← zi_ni_48, ← zi_ni_95, ← zi_ni_96, ← zi_ni_97, ← zi_ni_100, ← zi_ni_144, ← zi_ni_288, nI_ltI, nI_leI, nI_eqI, nlt_T, nlt_F, nle_T, nle_F, neq_T, neq_F, nI_add, pk_mul, nI_clamp, q_inT, ng_lt, ng_tl, ng_le, ng_el, ng_eq, ng_qe, q_b0, q_b1, nar_0, nar_1, b01, b01', q_bn0, q_bn1, nar_n0, nar_n1, si_k, si_i, si_s, si_e, si_2, sl_1, sl_22, sl_k, sl_i, sl_s, sl_e, sp_1, sp_21, sp_22, sc_k, sc_i, sc_e, sc_2, mF_k, mM_k, mF_2, mM_2, mF_0, mM_11, ↓eu_L_X11_world_99, r1]
    exact K s a1 a2 a3
