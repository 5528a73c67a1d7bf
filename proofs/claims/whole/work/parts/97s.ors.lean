/-! Texts: faults. -/
def flt : Option Nat → Int32
  | none => -nI 9
  | some p => nI p
theorem tAl_e {f : Nat → Int32} {L n a : Nat} {st : Int32} (h : L ≤ tsk f (L - a) a) : tAl f L (n + 1) a st = ([], none) := by
  show (if L ≤ tsk f (L - a) a then _ else _) = _
  rw [if_pos h]
theorem tAl_l {f : Nat → Int32} {L n a p : Nat} {st : Int32} (h : ¬ L ≤ tsk f (L - a) a) (h2 : tIt f L (tsk f (L - a) a) st = .inl p) : tAl f L (n + 1) a st = ([], some p) := by
  unfold tAl
  rw [if_neg h, h2]
theorem tAl_r {f : Nat → Int32} {L n a c : Nat} {st x st' : Int32} (h : ¬ L ≤ tsk f (L - a) a) (h2 : tIt f L (tsk f (L - a) a) st = .inr (x, c, st')) : tAl f L (n + 1) a st = ((f (tsk f (L - a) a), x) :: (tAl f L n c st').1, (tAl f L n c st').2) := by
  rw [tAl.eq_def]
  dsimp only
  rw [if_neg h, h2]
theorem tIt_r {f : Nat → Int32} {L b c : Nat} {st x st' : Int32} (hb : b < L) (h : tIt f L b st = .inr (x, c, st')) : b + 2 ≤ c ∧ c ≤ L ∧ tHas (f b) = true ∧ ¬ (x < tLo (f b) ∨ tHi (f b) < x) := by
  have hC := tC_le (f := f) (L := L) (a := b) hb
  have hle := tdg_le (f := f) (L - tC f L b) (tC f L b)
  unfold tIt at h
  by_cases q1 : tHas (f b) = false
  · rw [if_pos q1] at h; cases h
  rw [if_neg q1] at h
  by_cases q2 : tdg f (L - tC f L b) (tC f L b) = 0
  · rw [if_pos q2] at h; cases h
  rw [if_neg q2] at h
  by_cases q3 : 5 ≤ tdg f (L - tC f L b) (tC f L b)
  · rw [if_pos q3] at h; cases h
  rw [if_neg q3] at h
  by_cases q4 : tX f L b < tLo (f b) ∨ tHi (f b) < tX f L b
  · rw [if_pos q4] at h; cases h
  rw [if_neg q4] at h
  by_cases q5 : 24 < tS f L b st
  · rw [if_pos q5] at h; cases h
  rw [if_neg q5] at h
  injection h with h
  injection h with e1 h
  injection h with e2 e3
  subst e1
  subst e2
  refine ⟨by omega, by omega, ?_, q4⟩
  cases hq : tHas (f b)
  · exact absurd hq q1
  · rfl
theorem lp_fault27 {k i L : Nat} {f : Nat → Int32} {e : qM → Option (Int32 × qM)} {P : Int32 → qM → Prop} : ∀ n F j a st u, L - a < n → n < F → 2 * j ≤ a → a ≤ L → SC k i L f u → u.1 7 0 2 = nI a → u.1 7 0 5 = st → u.1 7 0 6 = -nI 9 → (∀ u', F7 u u' → u'.1 7 0 6 = flt (tAl f L n a st).2 → Ev (e u') P) → Ev (L_X10_faultOf_27 F (nI j) u e) P := by
  intro n
  induction n with
  | zero => intro F j a st u hn; omega
  | succ n ih =>
    intro F j a st u hn hF hj haL h ha h5 h6 K
    obtain ⟨F, rfl⟩ : ∃ F', F = F' + 1 := ⟨F - 1, by omega⟩
    have h4 := h.2.2.2.1
    have hb := tsk_le (f := f) (L - a) a
    refine Ev.hide (fun P' K' => ?_)
    simp (disch := first | omega | decide) only [Nat.reduceAdd, Nat.reduceMul, ↓ev_bd, ↓ev_ck, ↓ev_if, ↓ev_lt, ↓ev_jn, ↓ev_so, ↓reduceIte, ↓ev_within, ↓ev_in, ↓ev_isBoard, ↓ev_isGauge, ↓ev_isNumber, ↓ev_isSix, ↓ev_isEight, ↓ev_foundN, ↓ev_meetsN, ↓ev_found_1, ↓ev_meets_1, ↓ev_found_2, ↓ev_meets_2, ↓ev_found_3, ↓ev_meets_3, ↓ev_found_4, ↓ev_meets_4, ↓ev_found_5, ↓ev_meets_5, true_and, and_true, and_self, eq_self, not_true_eq_false, not_false_eq_true, ite_true, ite_false, true_or, or_true, false_or, or_false, false_and, and_false, ← zi_ni_0, ← zi_ni_1, ← zi_ni_2, ← zi_ni_3, ← zi_ni_4, ← zi_ni_5, ← zi_ni_6, ← zi_ni_7, ← zi_ni_8, ← zi_ni_9, ← zi_ni_10, ← zi_ni_12, ← zi_ni_24, ← zi_ni_25, ← zi_ni_40, ← zi_ni_45, ← zi_ni_47, ← zi_ni_48, ← zi_ni_95, ← zi_ni_96, ← zi_ni_97, ← zi_ni_100, ← zi_ni_144, ← zi_ni_288, nI_ltI, nI_leI, nI_eqI, nlt_T, nlt_F, nle_T, nle_F, neq_T, neq_F, nI_add, pk_mul, nI_clamp, q_inT, ng_lt, ng_tl, ng_le, ng_el, ng_eq, ng_qe, q_b0, q_b1, nar_0, nar_1, b01, b01', q_bn0, q_bn1, nar_n0, nar_n1, si_k, si_i, si_s, si_e, si_2, sl_1, sl_22, sl_k, sl_i, sl_s, sl_e, sp_1, sp_21, sp_22, sc_k, sc_i, sc_e, sc_2, mF_k, mM_k, mF_2, mM_2, mF_0, mM_11, ↓eu_L_X10_faultOf_27]
    refine ev_next h ha haL h5 h6 (fun z u' g1 g2 => ?_) (fun p z z2 u' g1 g2 => ?_) (fun x c st' z z2 u' g1 g2 g3 g4 g5 g6 => ?_)
    · have K1 := K u' g1 (by rw [tAl_e z]; exact g2)
      simp (disch := first | omega | decide) only [Nat.reduceAdd, Nat.reduceMul, ↓ev_bd, ↓ev_ck, ↓ev_if, ↓ev_lt, ↓ev_jn, ↓ev_so, ↓reduceIte, ↓ev_within, ↓ev_in, ↓ev_isBoard, ↓ev_isGauge, ↓ev_isNumber, ↓ev_isSix, ↓ev_isEight, ↓ev_foundN, ↓ev_meetsN, ↓ev_found_1, ↓ev_meets_1, ↓ev_found_2, ↓ev_meets_2, ↓ev_found_3, ↓ev_meets_3, ↓ev_found_4, ↓ev_meets_4, ↓ev_found_5, ↓ev_meets_5, true_and, and_true, and_self, eq_self, not_true_eq_false, not_false_eq_true, ite_true, ite_false, true_or, or_true, false_or, or_false, false_and, and_false, ← zi_ni_0, ← zi_ni_1, ← zi_ni_2, ← zi_ni_3, ← zi_ni_4, ← zi_ni_5, ← zi_ni_6, ← zi_ni_7, ← zi_ni_8, ← zi_ni_9, ← zi_ni_10, ← zi_ni_12, ← zi_ni_24, ← zi_ni_25, ← zi_ni_40, ← zi_ni_45, ← zi_ni_47, ← zi_ni_48, ← zi_ni_95, ← zi_ni_96, ← zi_ni_97, ← zi_ni_100, ← zi_ni_144, ← zi_ni_288, nI_ltI, nI_leI, nI_eqI, nlt_T, nlt_F, nle_T, nle_F, neq_T, neq_F, nI_add, pk_mul, nI_clamp, q_inT, ng_lt, ng_tl, ng_le, ng_el, ng_eq, ng_qe, q_b0, q_b1, nar_0, nar_1, b01, b01', q_bn0, q_bn1, nar_n0, nar_n1, si_k, si_i, si_s, si_e, si_2, sl_1, sl_22, sl_k, sl_i, sl_s, sl_e, sp_1, sp_21, sp_22, sc_k, sc_i, sc_e, sc_2, mF_k, mM_k, mF_2, mM_2, mF_0, mM_11]
      exact K1.mono K'
    · have K1 := K u' g1 (by rw [tAl_l z z2]; exact g2)
      simp (disch := first | omega | decide) only [Nat.reduceAdd, Nat.reduceMul, ↓ev_bd, ↓ev_ck, ↓ev_if, ↓ev_lt, ↓ev_jn, ↓ev_so, ↓reduceIte, ↓ev_within, ↓ev_in, ↓ev_isBoard, ↓ev_isGauge, ↓ev_isNumber, ↓ev_isSix, ↓ev_isEight, ↓ev_foundN, ↓ev_meetsN, ↓ev_found_1, ↓ev_meets_1, ↓ev_found_2, ↓ev_meets_2, ↓ev_found_3, ↓ev_meets_3, ↓ev_found_4, ↓ev_meets_4, ↓ev_found_5, ↓ev_meets_5, true_and, and_true, and_self, eq_self, not_true_eq_false, not_false_eq_true, ite_true, ite_false, true_or, or_true, false_or, or_false, false_and, and_false, ← zi_ni_0, ← zi_ni_1, ← zi_ni_2, ← zi_ni_3, ← zi_ni_4, ← zi_ni_5, ← zi_ni_6, ← zi_ni_7, ← zi_ni_8, ← zi_ni_9, ← zi_ni_10, ← zi_ni_12, ← zi_ni_24, ← zi_ni_25, ← zi_ni_40, ← zi_ni_45, ← zi_ni_47, ← zi_ni_48, ← zi_ni_95, ← zi_ni_96, ← zi_ni_97, ← zi_ni_100, ← zi_ni_144, ← zi_ni_288, nI_ltI, nI_leI, nI_eqI, nlt_T, nlt_F, nle_T, nle_F, neq_T, neq_F, nI_add, pk_mul, nI_clamp, q_inT, ng_lt, ng_tl, ng_le, ng_el, ng_eq, ng_qe, q_b0, q_b1, nar_0, nar_1, b01, b01', q_bn0, q_bn1, nar_n0, nar_n1, si_k, si_i, si_s, si_e, si_2, sl_1, sl_22, sl_k, sl_i, sl_s, sl_e, sp_1, sp_21, sp_22, sc_k, sc_i, sc_e, sc_2, mF_k, mM_k, mF_2, mM_2, mF_0, mM_11]
      exact K1.mono K'
    · obtain ⟨w1, w2, -, -⟩ := tIt_r (by omega) z2
      have K1 := ih F (j + 1) c st' u' (by omega) (by omega) (by omega) w2 (h.f7 g1) g2 g5 g6 (fun u2 y1 y2 => K u2 (g1.tr y1) (by rw [tAl_r z z2]; exact y2))
      simp (disch := first | omega | decide) only [Nat.reduceAdd, Nat.reduceMul, ↓ev_bd, ↓ev_ck, ↓ev_if, ↓ev_lt, ↓ev_jn, ↓ev_so, ↓reduceIte, ↓ev_within, ↓ev_in, ↓ev_isBoard, ↓ev_isGauge, ↓ev_isNumber, ↓ev_isSix, ↓ev_isEight, ↓ev_foundN, ↓ev_meetsN, ↓ev_found_1, ↓ev_meets_1, ↓ev_found_2, ↓ev_meets_2, ↓ev_found_3, ↓ev_meets_3, ↓ev_found_4, ↓ev_meets_4, ↓ev_found_5, ↓ev_meets_5, true_and, and_true, and_self, eq_self, not_true_eq_false, not_false_eq_true, ite_true, ite_false, true_or, or_true, false_or, or_false, false_and, and_false, ← zi_ni_0, ← zi_ni_1, ← zi_ni_2, ← zi_ni_3, ← zi_ni_4, ← zi_ni_5, ← zi_ni_6, ← zi_ni_7, ← zi_ni_8, ← zi_ni_9, ← zi_ni_10, ← zi_ni_12, ← zi_ni_24, ← zi_ni_25, ← zi_ni_40, ← zi_ni_45, ← zi_ni_47, ← zi_ni_48, ← zi_ni_95, ← zi_ni_96, ← zi_ni_97, ← zi_ni_100, ← zi_ni_144, ← zi_ni_288, nI_ltI, nI_leI, nI_eqI, nlt_T, nlt_F, nle_T, nle_F, neq_T, neq_F, nI_add, pk_mul, nI_clamp, q_inT, ng_lt, ng_tl, ng_le, ng_el, ng_eq, ng_qe, q_b0, q_b1, nar_0, nar_1, b01, b01', q_bn0, q_bn1, nar_n0, nar_n1, si_k, si_i, si_s, si_e, si_2, sl_1, sl_22, sl_k, sl_i, sl_s, sl_e, sp_1, sp_21, sp_22, sc_k, sc_i, sc_e, sc_2, mF_k, mM_k, mF_2, mM_2, mF_0, mM_11]
      exact K1.mono K'
def FO (u u' : qM) : Prop := (∀ a j s, ¬ (a = 7 ∧ j = 0) → u'.1 a j s = u.1 a j s) ∧ u'.2.1 = u.2.1
theorem FO.kp {u u' : qM} (h : FO u u') : Kp u u' := ⟨fun a i s q => h.1 a i s (fun z => q (by unfold scr; omega)), fun a s _ => by rw [h.2]⟩
theorem FO.rf {u : qM} : FO u u := ⟨fun _ _ _ _ => rfl, rfl⟩
theorem FO.tr {a b c : qM} (h : FO a b) (h2 : FO b c) : FO a c := ⟨fun x j s q => (h2.1 x j s q).trans (h.1 x j s q), h2.2.trans h.2⟩
theorem F7.fo {u u' : qM} (h : F7 u u') : FO u u' := ⟨fun a j s q => h.1 a j s (by omega), by rw [h.2]⟩
theorem ev_open {k i L : Nat} {u : qM} {P : Unit → qM → Prop} (hk : k ≠ 7) (hia : q_ia (k, i) = true) (hal : q_al k i = 40) (hL : L ≤ 40) (K : ∀ u', FO u u' → SC k i L (u.1 k i) u' → u'.1 7 0 2 = nI 0 → u'.1 7 0 5 = nI 0 → u'.1 7 0 6 = -nI 9 → P () u') : Ev (f_X6_open k i (nI L) u) P := by
  have fr : ∀ a j s x1 x2 x3 x4, ¬ (a = 7 ∧ j = 0) → (q_si (q_si (q_si (q_si (q_sp u (k, i)) 7 0 1 x1) 7 0 2 x2) 7 0 5 x3) 7 0 6 x4).1 a j s = u.1 a j s := fun a j s x1 x2 x3 x4 q => by rw [si_n (by omega), si_n (by omega), si_n (by omega), si_n (by omega)]; rfl
  have K1 := K (q_si (q_si (q_si (q_si (q_sp u (k, i)) 7 0 1 (nI L)) 7 0 2 (nI 0)) 7 0 5 (nI 0)) 7 0 6 (-nI 9)) ⟨fun a j s q => fr a j s _ _ _ _ q, rfl⟩ ⟨rfl, hia, hal, hL, hk, funext (fun s => fr k i s _ _ _ _ (fun z => hk z.1)), by rw [si_s (by decide), si_s (by decide), si_s (by decide), si_e]⟩ (by rw [si_s (by decide), si_s (by decide), si_e]) (by rw [si_s (by decide), si_e]) si_e
  simp (disch := first | omega | decide) only [Nat.reduceAdd, Nat.reduceMul, ↓ev_bd, ↓ev_ck, ↓ev_if, ↓ev_lt, ↓ev_jn, ↓ev_so, ↓reduceIte, ↓ev_within, ↓ev_in, ↓ev_isBoard, ↓ev_isGauge, ↓ev_isNumber, ↓ev_isSix, ↓ev_isEight, ↓ev_foundN, ↓ev_meetsN, ↓ev_found_1, ↓ev_meets_1, ↓ev_found_2, ↓ev_meets_2, ↓ev_found_3, ↓ev_meets_3, ↓ev_found_4, ↓ev_meets_4, ↓ev_found_5, ↓ev_meets_5, true_and, and_true, and_self, eq_self, not_true_eq_false, not_false_eq_true, ite_true, ite_false, true_or, or_true, false_or, or_false, false_and, and_false, ← zi_ni_0, ← zi_ni_1, ← zi_ni_2, ← zi_ni_3, ← zi_ni_4, ← zi_ni_5, ← zi_ni_6, ← zi_ni_7, ← zi_ni_8, ← zi_ni_9, ← zi_ni_10, ← zi_ni_12, ← zi_ni_24, ← zi_ni_25, ← zi_ni_40, ← zi_ni_45, ← zi_ni_47, ← zi_ni_48, ← zi_ni_95, ← zi_ni_96, ← zi_ni_97, ← zi_ni_100, ← zi_ni_144, ← zi_ni_288, nI_ltI, nI_leI, nI_eqI, nlt_T, nlt_F, nle_T, nle_F, neq_T, neq_F, nI_add, pk_mul, nI_clamp, q_inT, ng_lt, ng_tl, ng_le, ng_el, ng_eq, ng_qe, q_b0, q_b1, nar_0, nar_1, b01, b01', q_bn0, q_bn1, nar_n0, nar_n1, si_k, si_i, si_s, si_e, si_2, sl_1, sl_22, sl_k, sl_i, sl_s, sl_e, sp_1, sp_21, sp_22, sc_k, sc_i, sc_e, sc_2, mF_k, mM_k, mF_2, mM_2, mF_0, mM_11, ↓eu_X6_open]
  exact K1
theorem ia_31 {t : Nat} (h : t < 6) : q_ia (31, t) = true := by
  rcases (show t = 0 ∨ t = 1 ∨ t = 2 ∨ t = 3 ∨ t = 4 ∨ t = 5 by omega) with rfl | rfl | rfl | rfl | rfl | rfl <;> decide +kernel
theorem ia_32 {t : Nat} (h : t < 8) : q_ia (32, t) = true := by
  rcases (show t = 0 ∨ t = 1 ∨ t = 2 ∨ t = 3 ∨ t = 4 ∨ t = 5 ∨ t = 6 ∨ t = 7 by omega) with rfl | rfl | rfl | rfl | rfl | rfl | rfl | rfl <;> decide +kernel
theorem ev_faultOf {t L : Nat} {u : qM} {P : Int32 → qM → Prop} (ht : t < 6) (hL : L ≤ 40) (e : u.1 33 1 t = nI L) (K : ∀ u', FO u u' → P (flt (tAl (u.1 31 t) L 41 0 0).2) u') : Ev (f_X10_faultOf (nI t) u) P := by
  have hs : q_in (nI t) (q_slen 1) = true := by rw [slen_6 (by decide)]; exact q_inT ht (by decide)
  refine Ev.hide (fun P' K' => ?_)
  simp (disch := first | omega | decide) only [Nat.reduceAdd, Nat.reduceMul, ↓ev_bd, ↓ev_ck, ↓ev_if, ↓ev_lt, ↓ev_jn, ↓ev_so, ↓reduceIte, ↓ev_within, ↓ev_in, ↓ev_isBoard, ↓ev_isGauge, ↓ev_isNumber, ↓ev_isSix, ↓ev_isEight, ↓ev_foundN, ↓ev_meetsN, ↓ev_found_1, ↓ev_meets_1, ↓ev_found_2, ↓ev_meets_2, ↓ev_found_3, ↓ev_meets_3, ↓ev_found_4, ↓ev_meets_4, ↓ev_found_5, ↓ev_meets_5, true_and, and_true, and_self, eq_self, not_true_eq_false, not_false_eq_true, ite_true, ite_false, true_or, or_true, false_or, or_false, false_and, and_false, ← zi_ni_0, ← zi_ni_1, ← zi_ni_2, ← zi_ni_3, ← zi_ni_4, ← zi_ni_5, ← zi_ni_6, ← zi_ni_7, ← zi_ni_8, ← zi_ni_9, ← zi_ni_10, ← zi_ni_12, ← zi_ni_24, ← zi_ni_25, ← zi_ni_40, ← zi_ni_45, ← zi_ni_47, ← zi_ni_48, ← zi_ni_95, ← zi_ni_96, ← zi_ni_97, ← zi_ni_100, ← zi_ni_144, ← zi_ni_288, nI_ltI, nI_leI, nI_eqI, nlt_T, nlt_F, nle_T, nle_F, neq_T, neq_F, nI_add, pk_mul, nI_clamp, q_inT, ng_lt, ng_tl, ng_le, ng_el, ng_eq, ng_qe, q_b0, q_b1, nar_0, nar_1, b01, b01', q_bn0, q_bn1, nar_n0, nar_n1, si_k, si_i, si_s, si_e, si_2, sl_1, sl_22, sl_k, sl_i, sl_s, sl_e, sp_1, sp_21, sp_22, sc_k, sc_i, sc_e, sc_2, mF_k, mM_k, mF_2, mM_2, mF_0, mM_11, ↓eu_X10_faultOf, e, hs]
  refine ev_open (by decide) (ia_31 ht) (al_31 t) hL (fun u1 g1 g2 g3 g4 g5 => ?_)
  try simp (disch := first | omega | decide) only [Nat.reduceAdd, Nat.reduceMul, ↓ev_bd, ↓ev_ck, ↓ev_if, ↓ev_lt, ↓ev_jn, ↓ev_so, ↓reduceIte, ↓ev_within, ↓ev_in, ↓ev_isBoard, ↓ev_isGauge, ↓ev_isNumber, ↓ev_isSix, ↓ev_isEight, ↓ev_foundN, ↓ev_meetsN, ↓ev_found_1, ↓ev_meets_1, ↓ev_found_2, ↓ev_meets_2, ↓ev_found_3, ↓ev_meets_3, ↓ev_found_4, ↓ev_meets_4, ↓ev_found_5, ↓ev_meets_5, true_and, and_true, and_self, eq_self, not_true_eq_false, not_false_eq_true, ite_true, ite_false, true_or, or_true, false_or, or_false, false_and, and_false, ← zi_ni_0, ← zi_ni_1, ← zi_ni_2, ← zi_ni_3, ← zi_ni_4, ← zi_ni_5, ← zi_ni_6, ← zi_ni_7, ← zi_ni_8, ← zi_ni_9, ← zi_ni_10, ← zi_ni_12, ← zi_ni_24, ← zi_ni_25, ← zi_ni_40, ← zi_ni_45, ← zi_ni_47, ← zi_ni_48, ← zi_ni_95, ← zi_ni_96, ← zi_ni_97, ← zi_ni_100, ← zi_ni_144, ← zi_ni_288, nI_ltI, nI_leI, nI_eqI, nlt_T, nlt_F, nle_T, nle_F, neq_T, neq_F, nI_add, pk_mul, nI_clamp, q_inT, ng_lt, ng_tl, ng_le, ng_el, ng_eq, ng_qe, q_b0, q_b1, nar_0, nar_1, b01, b01', q_bn0, q_bn1, nar_n0, nar_n1, si_k, si_i, si_s, si_e, si_2, sl_1, sl_22, sl_k, sl_i, sl_s, sl_e, sp_1, sp_21, sp_22, sc_k, sc_i, sc_e, sc_2, mF_k, mM_k, mF_2, mM_2, mF_0, mM_11]
  refine lp_fault27 (k := 31) (i := t) (L := L) (f := u.1 31 t) 41 q_fu 0 0 (nI 0) u1 (by omega) (by decide) (by omega) (by omega) g2 g3 g4 g5 (fun u2 y1 y2 => ev_so.mpr ?_)
  rw [y2]
  exact K' _ _ (K u2 (g1.tr y1.fo))
