/-! fit: all pulls, and the best. -/
def encC (o : Option Int32) : Int32 := match o with
  | none => -nI 9
  | some a => a
def bsf (f : Nat → Option Int32) : Nat → Nat
  | 0 => 0
  | p + 1 => match f (p + 1) with
    | none => bsf f p
    | some a => if bsf f p = 0 then p + 1 else if (encC (f (bsf f p))) ≤ a then bsf f p else p + 1
theorem bsf_n {f : Nat → Option Int32} {p : Nat} (h : f (p + 1) = none) : bsf f (p + 1) = bsf f p := by
  show (match f (p + 1) with
    | none => bsf f p
    | some a => if bsf f p = 0 then p + 1 else if (encC (f (bsf f p))) ≤ a then bsf f p else p + 1) = _
  rw [h]
theorem bsf_s {f : Nat → Option Int32} {p : Nat} {a : Int32} (h : f (p + 1) = some a) : bsf f (p + 1) = if bsf f p = 0 then p + 1 else if (encC (f (bsf f p))) ≤ a then bsf f p else p + 1 := by
  show (match f (p + 1) with
    | none => bsf f p
    | some a => if bsf f p = 0 then p + 1 else if (encC (f (bsf f p))) ≤ a then bsf f p else p + 1) = _
  rw [h]
theorem bsf_le {f : Nat → Option Int32} : ∀ p, bsf f p ≤ p ∧ (bsf f p ≠ 0 → ∃ a, f (bsf f p) = some a)
  | 0 => ⟨Nat.le_refl _, fun h => absurd rfl h⟩
  | p + 1 => by
    obtain ⟨i1, i2⟩ := bsf_le (f := f) p
    cases h : f (p + 1) with
    | none => rw [bsf_n h]; exact ⟨by omega, i2⟩
    | some a =>
      rw [bsf_s h]
      by_cases z : bsf f p = 0
      · rw [if_pos z]; exact ⟨Nat.le_refl _, fun _ => ⟨a, h⟩⟩
      · rw [if_neg z]
        by_cases z2 : encC (f (bsf f p)) ≤ a
        · rw [if_pos z2]; exact ⟨by omega, i2⟩
        · rw [if_neg z2]; exact ⟨Nat.le_refl _, fun _ => ⟨a, h⟩⟩
def bz (k : Nat) : Int32 := if k = 0 then -nI 9 else nI k
theorem bz_0 : bz 0 = -nI 9 := rfl
theorem bz_s {k : Nat} (h : ¬ k = 0) : bz k = nI k := if_neg h
theorem nn9 {a : Int32} (h : 0 ≤ a.toInt) : (a = -nI 9) = False := eq_false (fun z => by
  rw [z, show (-nI 9).toInt = -9 by decide +kernel] at h
  omega)
theorem nle9 {a : Int32} (h : 0 ≤ a.toInt) : (a ≤ -nI 9) = False := eq_false (fun z => by
  rw [x_le, show (-nI 9).toInt = -9 by decide +kernel] at z
  omega)
/-- what the trials leave of the class -/
def CT6 (u t : qM) : Prop := (∀ a i s, a ≠ 35 → ¬ (47 ≤ a ∧ a ≤ 50) → ¬ (i = 6 ∧ (a = 2 ∨ a = 3 ∨ a = 4 ∨ a = 5 ∨ (37 ≤ a ∧ a ≤ 44))) → t.1 a i s = u.1 a i s) ∧ t.2 = u.2
theorem CT6.rf {u : qM} : CT6 u u := ⟨fun _ _ _ _ _ _ => rfl, rfl⟩
theorem CT6.tr {a b c : qM} (h : CT6 a b) (h2 : CT6 b c) : CT6 a c := ⟨fun x i s q1 q2 q3 => (h2.1 x i s q1 q2 q3).trans (h.1 x i s q1 q2 q3), h2.2.trans h.2⟩
theorem CT6.kp {u t : qM} (h : CT6 u t) : Kp u t := Kp.of (fun a i s q => h.1 a i s (fun z => q (by subst z; unfold scr; omega)) (fun z => q (by unfold scr; omega)) (fun z => q (by unfold scr; omega))) h.2
theorem CT6.fc {u t : qM} (h : CT6 u t) : FC u t := ⟨fun a q => funext (fun i => funext (fun s => h.1 a i s (by have := isM_t q; omega) (by have := isM_t q; omega) (by have := isM_t q; omega))), by rw [h.2]⟩
theorem FA.cf {u t : qM} (h : FA 6 u t) : CT6 u t := ⟨fun a i s _ q2 q3 => h.1 a i s (by omega) (by omega), h.2⟩
theorem CT6.cb {u t : qM} {b : Nat} (h : CT6 u t) (hb : b < 6) : cB t b = cB u b := by
  apply cB_ext <;> exact funext (fun s => h.1 _ b s (by decide) (by decide) (by omega))
theorem ev_misC {T : qB → Option Int32} {rd : Nat → Int32} {q r L n : Nat} {u : qM} {P : Int32 → qM → Prop} (hq : q < 48) (hr : r < 6) (hL : L ≤ 48) (hn : n + L ≤ 2000000) (hw : WF n (cB u 6)) (hs : SZ (u.1 33 0)) (hT : ∀ v, tdC u v = T v) (e33 : u.1 33 0 r = nI L) (e30 : ∀ s, s < L → u.1 30 r s = rd s) (K : ∀ u', FA 6 u u' → P (encC (msf T rd q L 0 (nI 0) (cB u 6))) u') : Ev (f_X10_misfitOfTrial (nI q) (nI r) u) P := by
  refine eu_X10_misfitOfTrial.mpr ?_
  refine trC (T := T) (rd := rd) hq hr hL L 0 n (nI 0) u q_fu P (by omega) (Nat.lt_of_le_of_lt hL (by decide)) hn hw hs hT e33 e30 (fun a' h u' h2 => ?_) (fun h u' h2 => ?_)
  · have K := K u' h2
    rw [h] at K
    exact ev_so.mpr K
  · have K := K u' h2
    rw [h] at K
    exact ev_so.mpr K
theorem WF_pull {n p : Nat} {v : qB} (h : WF n v) (h1 : 1 ≤ p) (h2 : p ≤ 8) : WF n (bset v 0 8 (nI p)) := WF_num h (.inr (.inl rfl)) ⟨fun q => (by cases q), fun _ => ⟨p, rfl, h1, h2⟩, fun q => (by cases q), fun q => (by rcases q with q | q <;> cases q)⟩
theorem lpC {T : qB → Option Int32} {rd : Nat → Int32} {f : Nat → Option Int32} {b q r L n : Nat} {μ : qM} {e1 : Int32 → qM → Option (Int32 × qM)} (hb : b < 6) (hq : q < 48) (hr : r < 6) (hL : L ≤ 48) (hn : n + L ≤ 2000000) (hw : WF n (cB μ b)) (ht : μ.1 2 b 10 = nI 1) (hs : SZ (μ.1 33 0)) (hT : ∀ v, tdC μ v = T v) (e33 : μ.1 33 0 r = nI L) (e30 : ∀ s, s < L → μ.1 30 r s = rd s) (hf : ∀ p, f p = msf T rd q L 0 (nI 0) (bset (cB μ b) 0 8 (nI p))) (hf0 : ∀ p a, 1 ≤ p → p ≤ 8 → f p = some a → 0 ≤ a.toInt) : ∀ k p F (u : qM) (P : Int32 → qM → Prop), p + k = 8 → k < F → CT6 μ u → (∀ p', 1 ≤ p' → p' ≤ p → u.1 35 0 p' = encC (f p')) → (∀ u', CT6 μ u' → (∀ p', 1 ≤ p' → p' ≤ 8 → u'.1 35 0 p' = encC (f p')) → Ev (e1 (bz (bsf f 8)) u') P) → Ev (L_X10_bestPull_7 (nI b) (nI q) (nI r) F (bz (bsf f p)) (nI (p + 1)) u e1) P := by
  intro k
  induction k with
  | zero =>
    intro p F u P hp hF hc h35 K
    obtain ⟨F, rfl⟩ : ∃ F', F = F' + 1 := ⟨F - 1, by omega⟩
    obtain rfl : p = 8 := by omega
    have K := K u hc h35
    refine eu_L_X10_bestPull_7.mpr ?_
    rw [if_pos (by decide +kernel)]
    exact K
  | succ k ih =>
    intro p F u P hp hF hc h35 K
    obtain ⟨F, rfl⟩ : ∃ F', F = F' + 1 := ⟨F - 1, by omega⟩
    have hcb : cB u b = cB μ b := hc.cb hb
    have q41 : ∀ s, s < 96 → u.1 41 b s = 0 ∨ u.1 41 b s = 1 := fun s hs => by
      rw [← cR_5 hs, hcb]
      exact hw.2.1.2.2.2.1 s
    have e210 : u.1 2 b 10 = nI 1 := (hc.1 2 b 10 (by decide) (by decide) (by omega)).trans ht
    refine eu_L_X10_bestPull_7.mpr ?_
    simp (disch := first | omega | decide) only [Nat.reduceAdd, Nat.reduceMul, ↓ev_ck, ↓ev_if, ↓ev_lt, ↓ev_jn, ↓ev_so, ↓reduceIte, ↓ev_within, ↓ev_in, ↓ev_isBoard, ↓ev_isGauge, ↓ev_isNumber, ↓ev_isSix, ↓ev_isEight, ↓ev_foundN, ↓ev_meetsN, ↓ev_found_1, ↓ev_meets_1, ↓ev_found_2, ↓ev_meets_2, ↓ev_found_3, ↓ev_meets_3, ↓ev_found_4, ↓ev_meets_4, ↓ev_found_5, ↓ev_meets_5, true_and, and_true, and_self, eq_self, not_true_eq_false, not_false_eq_true, ite_true, ite_false, true_or, or_true, false_or, or_false, false_and, and_false, ← zi_ni_0, ← zi_ni_1, ← zi_ni_2, ← zi_ni_3, ← zi_ni_4, ← zi_ni_5, ← zi_ni_6, ← zi_ni_7, ← zi_ni_8, ← zi_ni_9, ← zi_ni_10, ← zi_ni_12, ← zi_ni_24, ← zi_ni_25, ← zi_ni_40, ← zi_ni_45, ← zi_ni_47, ← zi_ni_48, ← zi_ni_95, ← zi_ni_96, ← zi_ni_97, ← zi_ni_100, ← zi_ni_144, ← zi_ni_288, nI_ltI, nI_leI, nI_eqI, nlt_T, nlt_F, nle_T, nle_F, neq_T, neq_F, nI_add, pk_mul, nI_clamp, q_inT, ng_lt, ng_tl, ng_le, ng_el, ng_eq, ng_qe, q_b0, q_b1, nar_0, nar_1, b01, b01', q_bn0, q_bn1, nar_n0, nar_n1, si_k, si_i, si_s, si_e, si_2, sl_1, sl_22, sl_k, sl_i, sl_s, sl_e, sp_1, sp_21, sp_22, sc_k, sc_i, sc_e, sc_2, mF_k, mM_k, mF_2, mM_2, mF_0, mM_11]
    refine ev_bd.mpr (ev_takeOver (o := 6) (p := b) (by omega) (.inr e210) q41 (fun u1 t1 t2 t3 t4 => ?_))
    have c1 : CT6 u u1 := ⟨fun a i s q1 q2 q3 => t1 a i s (by omega), t2⟩
    have c2 : CT6 u1 (q_si u1 3 6 0 (nI (p + 1))) := ⟨fun a i s q1 q2 q3 => si_n (by omega), rfl⟩
    have cc := hc.tr (c1.tr c2)
    have hb6 : cB (q_si u1 3 6 0 (nI (p + 1))) 6 = bset (cB μ b) 0 8 (nI (p + 1)) := by rw [cW_0_8, t4, hcb]
    have f33 : (q_si u1 3 6 0 (nI (p + 1))).1 33 = μ.1 33 := funext (fun i => funext (fun s => cc.1 33 i s (by decide) (by decide) (by omega)))
    have f30 : (q_si u1 3 6 0 (nI (p + 1))).1 30 = μ.1 30 := funext (fun i => funext (fun s => cc.1 30 i s (by decide) (by decide) (by omega)))
    simp (disch := first | omega | decide) only [Nat.reduceAdd, Nat.reduceMul, ↓ev_ck, ↓ev_if, ↓ev_lt, ↓ev_jn, ↓ev_so, ↓reduceIte, ↓ev_within, ↓ev_in, ↓ev_isBoard, ↓ev_isGauge, ↓ev_isNumber, ↓ev_isSix, ↓ev_isEight, ↓ev_foundN, ↓ev_meetsN, ↓ev_found_1, ↓ev_meets_1, ↓ev_found_2, ↓ev_meets_2, ↓ev_found_3, ↓ev_meets_3, ↓ev_found_4, ↓ev_meets_4, ↓ev_found_5, ↓ev_meets_5, true_and, and_true, and_self, eq_self, not_true_eq_false, not_false_eq_true, ite_true, ite_false, true_or, or_true, false_or, or_false, false_and, and_false, ← zi_ni_0, ← zi_ni_1, ← zi_ni_2, ← zi_ni_3, ← zi_ni_4, ← zi_ni_5, ← zi_ni_6, ← zi_ni_7, ← zi_ni_8, ← zi_ni_9, ← zi_ni_10, ← zi_ni_12, ← zi_ni_24, ← zi_ni_25, ← zi_ni_40, ← zi_ni_45, ← zi_ni_47, ← zi_ni_48, ← zi_ni_95, ← zi_ni_96, ← zi_ni_97, ← zi_ni_100, ← zi_ni_144, ← zi_ni_288, nI_ltI, nI_leI, nI_eqI, nlt_T, nlt_F, nle_T, nle_F, neq_T, neq_F, nI_add, pk_mul, nI_clamp, q_inT, ng_lt, ng_tl, ng_le, ng_el, ng_eq, ng_qe, q_b0, q_b1, nar_0, nar_1, b01, b01', q_bn0, q_bn1, nar_n0, nar_n1, si_k, si_i, si_s, si_e, si_2, sl_1, sl_22, sl_k, sl_i, sl_s, sl_e, sp_1, sp_21, sp_22, sc_k, sc_i, sc_e, sc_2, mF_k, mM_k, mF_2, mM_2, mF_0, mM_11]
    refine ev_bd.mpr (ev_misC (T := T) (rd := rd) (L := L) (n := n) hq hr hL hn (by rw [hb6]; exact WF_pull hw (by omega) (by omega)) (by rw [f33]; exact hs) (fun v => by rw [← hT v]; unfold tdC; rw [f33, f30]) (by rw [f33]; exact e33) (fun s hs => by rw [f30]; exact e30 s hs) (fun u3 hFA => ?_))
    rw [hb6, ← hf (p + 1)]
    have cc3 := cc.tr hFA.cf
    have h35' : ∀ p', 1 ≤ p' → p' ≤ p → u3.1 35 0 p' = encC (f p') := fun p' y1 y2 => by
      rw [hFA.1 35 0 p' (by omega) (by omega), si_k (by decide), t1 35 0 p' (by omega)]
      exact h35 p' y1 y2
    obtain ⟨bl, bs⟩ := bsf_le (f := f) p
    have IH := fun x => ih (p + 1) F (q_si u3 35 0 (p + 1) x) P (by omega) (by omega) (cc3.tr ⟨fun a i s q1 _ _ => si_n (by omega), rfl⟩)
    have IH := fun x hx => IH x (fun p' y1 y2 => by
      by_cases z : p' = p + 1
      · rw [z, si_e]
        exact hx
      · rw [si_s z]
        exact h35' p' y1 (by omega)) K
    have IH := IH (encC (f (p + 1))) rfl
    by_cases z : bsf f p = 0
    · rw [z, bz_0]
      cases h : f (p + 1) with
      | none =>
        rw [bsf_n h, z, bz_0, h] at IH
        simp (disch := first | omega | decide) only [Nat.reduceAdd, Nat.reduceMul, ↓ev_bd, ↓ev_ck, ↓ev_if, ↓ev_lt, ↓ev_jn, ↓ev_so, ↓reduceIte, ↓ev_within, ↓ev_in, ↓ev_isBoard, ↓ev_isGauge, ↓ev_isNumber, ↓ev_isSix, ↓ev_isEight, ↓ev_foundN, ↓ev_meetsN, ↓ev_found_1, ↓ev_meets_1, ↓ev_found_2, ↓ev_meets_2, ↓ev_found_3, ↓ev_meets_3, ↓ev_found_4, ↓ev_meets_4, ↓ev_found_5, ↓ev_meets_5, true_and, and_true, and_self, eq_self, not_true_eq_false, not_false_eq_true, ite_true, ite_false, true_or, or_true, false_or, or_false, false_and, and_false, ← zi_ni_0, ← zi_ni_1, ← zi_ni_2, ← zi_ni_3, ← zi_ni_4, ← zi_ni_5, ← zi_ni_6, ← zi_ni_7, ← zi_ni_8, ← zi_ni_9, ← zi_ni_10, ← zi_ni_12, ← zi_ni_24, ← zi_ni_25, ← zi_ni_40, ← zi_ni_45, ← zi_ni_47, ← zi_ni_48, ← zi_ni_95, ← zi_ni_96, ← zi_ni_97, ← zi_ni_100, ← zi_ni_144, ← zi_ni_288, nI_ltI, nI_leI, nI_eqI, nlt_T, nlt_F, nle_T, nle_F, neq_T, neq_F, nI_add, pk_mul, nI_clamp, q_inT, ng_lt, ng_tl, ng_le, ng_el, ng_eq, ng_qe, q_b0, q_b1, nar_0, nar_1, b01, b01', q_bn0, q_bn1, nar_n0, nar_n1, si_k, si_i, si_s, si_e, si_2, sl_1, sl_22, sl_k, sl_i, sl_s, sl_e, sp_1, sp_21, sp_22, sc_k, sc_i, sc_e, sc_2, mF_k, mM_k, mF_2, mM_2, mF_0, mM_11, encC]
        exact IH
      | some a =>
        have ha := hf0 (p + 1) a (by omega) (by omega) h
        have a9 := nn9 ha
        rw [bsf_s h, if_pos z, bz_s (by omega), h] at IH
        simp (disch := first | omega | decide) only [Nat.reduceAdd, Nat.reduceMul, ↓ev_bd, ↓ev_ck, ↓ev_if, ↓ev_lt, ↓ev_jn, ↓ev_so, ↓reduceIte, ↓ev_within, ↓ev_in, ↓ev_isBoard, ↓ev_isGauge, ↓ev_isNumber, ↓ev_isSix, ↓ev_isEight, ↓ev_foundN, ↓ev_meetsN, ↓ev_found_1, ↓ev_meets_1, ↓ev_found_2, ↓ev_meets_2, ↓ev_found_3, ↓ev_meets_3, ↓ev_found_4, ↓ev_meets_4, ↓ev_found_5, ↓ev_meets_5, true_and, and_true, and_self, eq_self, not_true_eq_false, not_false_eq_true, ite_true, ite_false, true_or, or_true, false_or, or_false, false_and, and_false, ← zi_ni_0, ← zi_ni_1, ← zi_ni_2, ← zi_ni_3, ← zi_ni_4, ← zi_ni_5, ← zi_ni_6, ← zi_ni_7, ← zi_ni_8, ← zi_ni_9, ← zi_ni_10, ← zi_ni_12, ← zi_ni_24, ← zi_ni_25, ← zi_ni_40, ← zi_ni_45, ← zi_ni_47, ← zi_ni_48, ← zi_ni_95, ← zi_ni_96, ← zi_ni_97, ← zi_ni_100, ← zi_ni_144, ← zi_ni_288, nI_ltI, nI_leI, nI_eqI, nlt_T, nlt_F, nle_T, nle_F, neq_T, neq_F, nI_add, pk_mul, nI_clamp, q_inT, ng_lt, ng_tl, ng_le, ng_el, ng_eq, ng_qe, q_b0, q_b1, nar_0, nar_1, b01, b01', q_bn0, q_bn1, nar_n0, nar_n1, si_k, si_i, si_s, si_e, si_2, sl_1, sl_22, sl_k, sl_i, sl_s, sl_e, sp_1, sp_21, sp_22, sc_k, sc_i, sc_e, sc_2, mF_k, mM_k, mF_2, mM_2, mF_0, mM_11, encC, a9]
        exact IH
    · obtain ⟨a0, h0⟩ := bs z
      have ha0 := hf0 _ a0 (by omega) (by omega) h0
      have e0 : u3.1 35 0 (bsf f p) = a0 := by rw [h35' _ (by omega) bl, h0]; rfl
      have a09 := nle9 ha0
      rw [bz_s z]
      cases h : f (p + 1) with
      | none =>
        rw [bsf_n h, bz_s z, h] at IH
        simp (disch := first | omega | decide) only [Nat.reduceAdd, Nat.reduceMul, ↓ev_bd, ↓ev_ck, ↓ev_if, ↓ev_lt, ↓ev_jn, ↓ev_so, ↓reduceIte, ↓ev_within, ↓ev_in, ↓ev_isBoard, ↓ev_isGauge, ↓ev_isNumber, ↓ev_isSix, ↓ev_isEight, ↓ev_foundN, ↓ev_meetsN, ↓ev_found_1, ↓ev_meets_1, ↓ev_found_2, ↓ev_meets_2, ↓ev_found_3, ↓ev_meets_3, ↓ev_found_4, ↓ev_meets_4, ↓ev_found_5, ↓ev_meets_5, true_and, and_true, and_self, eq_self, not_true_eq_false, not_false_eq_true, ite_true, ite_false, true_or, or_true, false_or, or_false, false_and, and_false, ← zi_ni_0, ← zi_ni_1, ← zi_ni_2, ← zi_ni_3, ← zi_ni_4, ← zi_ni_5, ← zi_ni_6, ← zi_ni_7, ← zi_ni_8, ← zi_ni_9, ← zi_ni_10, ← zi_ni_12, ← zi_ni_24, ← zi_ni_25, ← zi_ni_40, ← zi_ni_45, ← zi_ni_47, ← zi_ni_48, ← zi_ni_95, ← zi_ni_96, ← zi_ni_97, ← zi_ni_100, ← zi_ni_144, ← zi_ni_288, nI_ltI, nI_leI, nI_eqI, nlt_T, nlt_F, nle_T, nle_F, neq_T, neq_F, nI_add, pk_mul, nI_clamp, q_inT, ng_lt, ng_tl, ng_le, ng_el, ng_eq, ng_qe, q_b0, q_b1, nar_0, nar_1, b01, b01', q_bn0, q_bn1, nar_n0, nar_n1, si_k, si_i, si_s, si_e, si_2, sl_1, sl_22, sl_k, sl_i, sl_s, sl_e, sp_1, sp_21, sp_22, sc_k, sc_i, sc_e, sc_2, mF_k, mM_k, mF_2, mM_2, mF_0, mM_11, encC, e0, a09]
        exact IH
      | some a =>
        have ha := hf0 (p + 1) a (by omega) (by omega) h
        have a9 := nn9 ha
        rw [bsf_s h, if_neg z, h0, h] at IH
        by_cases z2 : a0 ≤ a
        · rw [if_pos (show encC (some a0) ≤ a from z2), bz_s z] at IH
          simp (disch := first | omega | decide) only [Nat.reduceAdd, Nat.reduceMul, ↓ev_bd, ↓ev_ck, ↓ev_if, ↓ev_lt, ↓ev_jn, ↓ev_so, ↓reduceIte, ↓ev_within, ↓ev_in, ↓ev_isBoard, ↓ev_isGauge, ↓ev_isNumber, ↓ev_isSix, ↓ev_isEight, ↓ev_foundN, ↓ev_meetsN, ↓ev_found_1, ↓ev_meets_1, ↓ev_found_2, ↓ev_meets_2, ↓ev_found_3, ↓ev_meets_3, ↓ev_found_4, ↓ev_meets_4, ↓ev_found_5, ↓ev_meets_5, true_and, and_true, and_self, eq_self, not_true_eq_false, not_false_eq_true, ite_true, ite_false, true_or, or_true, false_or, or_false, false_and, and_false, ← zi_ni_0, ← zi_ni_1, ← zi_ni_2, ← zi_ni_3, ← zi_ni_4, ← zi_ni_5, ← zi_ni_6, ← zi_ni_7, ← zi_ni_8, ← zi_ni_9, ← zi_ni_10, ← zi_ni_12, ← zi_ni_24, ← zi_ni_25, ← zi_ni_40, ← zi_ni_45, ← zi_ni_47, ← zi_ni_48, ← zi_ni_95, ← zi_ni_96, ← zi_ni_97, ← zi_ni_100, ← zi_ni_144, ← zi_ni_288, nI_ltI, nI_leI, nI_eqI, nlt_T, nlt_F, nle_T, nle_F, neq_T, neq_F, nI_add, pk_mul, nI_clamp, q_inT, ng_lt, ng_tl, ng_le, ng_el, ng_eq, ng_qe, q_b0, q_b1, nar_0, nar_1, b01, b01', q_bn0, q_bn1, nar_n0, nar_n1, si_k, si_i, si_s, si_e, si_2, sl_1, sl_22, sl_k, sl_i, sl_s, sl_e, sp_1, sp_21, sp_22, sc_k, sc_i, sc_e, sc_2, mF_k, mM_k, mF_2, mM_2, mF_0, mM_11, encC, e0, a9, z2]
          exact IH
        · rw [if_neg (show ¬ encC (some a0) ≤ a from z2), bz_s (by omega)] at IH
          simp (disch := first | omega | decide) only [Nat.reduceAdd, Nat.reduceMul, ↓ev_bd, ↓ev_ck, ↓ev_if, ↓ev_lt, ↓ev_jn, ↓ev_so, ↓reduceIte, ↓ev_within, ↓ev_in, ↓ev_isBoard, ↓ev_isGauge, ↓ev_isNumber, ↓ev_isSix, ↓ev_isEight, ↓ev_foundN, ↓ev_meetsN, ↓ev_found_1, ↓ev_meets_1, ↓ev_found_2, ↓ev_meets_2, ↓ev_found_3, ↓ev_meets_3, ↓ev_found_4, ↓ev_meets_4, ↓ev_found_5, ↓ev_meets_5, true_and, and_true, and_self, eq_self, not_true_eq_false, not_false_eq_true, ite_true, ite_false, true_or, or_true, false_or, or_false, false_and, and_false, ← zi_ni_0, ← zi_ni_1, ← zi_ni_2, ← zi_ni_3, ← zi_ni_4, ← zi_ni_5, ← zi_ni_6, ← zi_ni_7, ← zi_ni_8, ← zi_ni_9, ← zi_ni_10, ← zi_ni_12, ← zi_ni_24, ← zi_ni_25, ← zi_ni_40, ← zi_ni_45, ← zi_ni_47, ← zi_ni_48, ← zi_ni_95, ← zi_ni_96, ← zi_ni_97, ← zi_ni_100, ← zi_ni_144, ← zi_ni_288, nI_ltI, nI_leI, nI_eqI, nlt_T, nlt_F, nle_T, nle_F, neq_T, neq_F, nI_add, pk_mul, nI_clamp, q_inT, ng_lt, ng_tl, ng_le, ng_el, ng_eq, ng_qe, q_b0, q_b1, nar_0, nar_1, b01, b01', q_bn0, q_bn1, nar_n0, nar_n1, si_k, si_i, si_s, si_e, si_2, sl_1, sl_22, sl_k, sl_i, sl_s, sl_e, sp_1, sp_21, sp_22, sc_k, sc_i, sc_e, sc_2, mF_k, mM_k, mF_2, mM_2, mF_0, mM_11, encC, e0, a9, z2]
          exact IH
