theorem fineN_inj {wd k q q' : Nat} (hw : 1 ≤ wd) (hq : q < 4) (hq' : q' < 4) (h : fineN wd k q = fineN wd k q') : q = q' := by
  unfold fineN at h
  have h2 : k % wd < wd := Nat.mod_lt _ hw
  have e : ∀ t, (2 * (k / wd) + t / 2) * (2 * wd) = 2 * (k / wd) * (2 * wd) + t / 2 * (2 * wd) := fun t => Nat.add_mul _ _ _
  rw [e q, e q'] at h
  generalize 2 * (k / wd) * (2 * wd) = A at h
  have q1 : q / 2 = 0 ∨ q / 2 = 1 := by omega
  have q2 : q' / 2 = 0 ∨ q' / 2 = 1 := by omega
  rcases q1 with q1 | q1 <;> rcases q2 with q2 | q2 <;> rw [q1, q2] at h <;> omega
/-- the four fine cells hold v -/
def VC (b wd k : Nat) (u : qM) (v : Nat → Int32) : Prop := ∀ q, q < 4 → u.1 38 b (fineN wd k q) = v q
/-- the rest is as it was -/
def FRC (b wd k : Nat) (c u : qM) : Prop := (∀ a i s, ¬ (a = 38 ∧ i = b ∧ ∃ q, q < 4 ∧ s = fineN wd k q) → ¬ (a = 46 ∧ i = b ∧ s = k) → u.1 a i s = c.1 a i s) ∧ u.2 = c.2
def fset (v : Nat → Int32) (q : Nat) (x : Int32) : Nat → Int32 := fun t => if t = q then x else v t
theorem VC.si {b wd k q : Nat} {u : qM} {v : Nat → Int32} {x : Int32} (hw : 1 ≤ wd) (hq : q < 4) (h : VC b wd k u v) : VC b wd k (q_si u 38 b (fineN wd k q) x) (fset v q x) := by
  intro t ht
  unfold fset
  by_cases e : t = q
  · rw [if_pos e, e, si_e]
  · rw [if_neg e, si_s (fun z => e (fineN_inj hw ht hq z))]
    exact h t ht
theorem FRC.si {b wd k q : Nat} {c u : qM} {x : Int32} (hq : q < 4) (h : FRC b wd k c u) : FRC b wd k c (q_si u 38 b (fineN wd k q) x) := by
  refine ⟨fun a i s q1 q2 => ?_, h.2⟩
  rw [si_n (fun z => q1 ⟨z.1, z.2.1, q, hq, z.2.2⟩)]
  exact h.1 a i s q1 q2
theorem FRC.fine {b wd hg k q : Nat} {c u : qM} {P : Int32 → qM → Prop} (h : FRC b wd k c u) (hw : 1 ≤ wd) (hw4 : wd ≤ 4) (hk : k < 12) (e : c.1 2 b 12 = nI (2 * wd)) (hq : q < 4) : Ev (f_X0_fineCell b (nI k) (nI q) u) P ↔ P (nI (fineN wd k q)) u :=
  ev_fineC hw hw4 hk hq ((h.1 2 b 12 (by omega) (by omega)).trans e)
theorem lp_down52 {b o2 wd hg k : Nat} {x1 x4 x5 : Int32} {u : qM} {v : Nat → Int32} {e : qM → Option (Int32 × qM)} {P : Int32 → qM → Prop} (hw : 1 ≤ wd) (hw4 : wd ≤ 4) (hg3 : hg ≤ 3) (hk : k < wd * hg) (e2 : u.1 2 b 12 = nI (2 * wd)) (hv : VC b wd k u v) (K : ∀ u', FRC b wd k u u' → (u'.1 46 b k = u.1 46 b k) → VC b wd k u' (fun q => v q + x5) → Ev (e u') P) : Ev (L_X0_takeDown_52 b o2 x1 (nI k) x4 x5 q_fu (nI 0) u e) P := by
  have hk2 : k < 12 := Nat.lt_of_lt_of_le hk (Nat.mul_le_mul hw4 hg3)
  refine lpc (fun f x t => L_X0_takeDown_52 b o2 x1 (nI k) x4 x5 f x t e) (fun i t => FRC b wd k u t ∧ t.1 46 b k = u.1 46 b k ∧ VC b wd k t (fun q => if q < i then v q + x5 else v q)) 4 (by decide) u ⟨⟨fun _ _ _ _ _ => rfl, rfl⟩, rfl, fun q hq => (hv q hq).trans (if_neg (Nat.not_lt_zero q)).symm⟩ ?_ ?_
  · rintro f i t hi ⟨h1, h2, h3⟩ K2
    have hlt : fineN wd k i < 48 := Nat.lt_of_lt_of_le (fineN_lt hw hk hi) (Nat.mul_le_mul (Nat.mul_le_mul_left 2 hw4) (Nat.mul_le_mul_left 2 hg3))
    have hf : ∀ P, Ev (f_X0_fineCell b (nI k) (nI i) t) P ↔ P (nI (fineN wd k i)) t := fun P => h1.fine (hg := hg) hw hw4 hk2 e2 hi
    have e3 : t.1 38 b (fineN wd k i) = v i := (h3 i hi).trans (if_neg (Nat.lt_irrefl i))
    show Ev (L_X0_takeDown_52 b o2 x1 (nI k) x4 x5 (f + 1) (nI i) t e) P
    simp (disch := first | omega | decide) only [Nat.reduceAdd, Nat.reduceMul, ↓ev_bd, ↓ev_ck, ↓ev_if, ↓ev_lt, ↓ev_jn, ↓ev_so, ↓reduceIte, ↓ev_within, ↓ev_isBoard, ↓ev_isNumber, ↓ev_foundN, ↓ev_found_1, ↓ev_found_2, ↓ev_found_3, ↓ev_found_4, ↓ev_found_5, true_and, and_true, and_self, eq_self, not_true_eq_false, not_false_eq_true, ite_true, ite_false, true_or, or_true, false_or, or_false, false_and, and_false, ← zi_ni_0, ← zi_ni_1, ← zi_ni_2, ← zi_ni_3, ← zi_ni_4, ← zi_ni_5, ← zi_ni_6, ← zi_ni_7, ← zi_ni_8, ← zi_ni_9, ← zi_ni_10, ← zi_ni_12, ← zi_ni_24, ← zi_ni_25, ← zi_ni_40, ← zi_ni_45, ← zi_ni_47, ← zi_ni_48, ← zi_ni_95, ← zi_ni_96, ← zi_ni_97, ← zi_ni_100, ← zi_ni_144, ← zi_ni_288, nI_ltI, nI_leI, nI_eqI, nlt_T, nlt_F, nle_T, nle_F, neq_T, neq_F, nI_add, pk_mul, nI_clamp, q_inT, ng_lt, ng_tl, ng_le, ng_el, ng_eq, ng_qe, q_b0, q_b1, nar_0, nar_1, b01, b01', q_bn0, q_bn1, nar_n0, nar_n1, si_k, si_i, si_s, si_e, si_2, sl_1, sl_22, sl_k, sl_i, sl_s, sl_e, sp_1, sp_21, sp_22, sc_k, sc_i, sc_e, sc_2, mF_k, mF_2, mF_0, ↓eu_L_X0_takeDown_52, ↓hf, e3]
    refine K2 _ ⟨h1.si hi, (congrFun (congrFun (si_k (show (46 : Nat) ≠ 38 by decide)) b) k).trans h2, fun q hq => ?_⟩
    refine (VC.si (x := v i + x5) hw hi h3 q hq).trans ?_
    unfold fset
    show (if q = i then v i + x5 else (if q < i then v q + x5 else v q)) = (if q < i + 1 then v q + x5 else v q)
    by_cases z : q = i
    · rw [if_pos z, z, if_pos (Nat.lt_succ_self i)]
    · rw [if_neg z]
      by_cases z2 : q < i
      · rw [if_pos z2, if_pos (by omega)]
      · rw [if_neg z2, if_neg (by omega)]
  · rintro f t ⟨h1, h2, h3⟩
    show Ev (L_X0_takeDown_52 b o2 x1 (nI k) x4 x5 (f + 1) (nI 4) t e) P
    simp (disch := first | omega | decide) only [Nat.reduceAdd, Nat.reduceMul, ↓ev_bd, ↓ev_ck, ↓ev_if, ↓ev_lt, ↓ev_jn, ↓ev_so, ↓reduceIte, ↓ev_within, ↓ev_isBoard, ↓ev_isNumber, ↓ev_foundN, ↓ev_found_1, ↓ev_found_2, ↓ev_found_3, ↓ev_found_4, ↓ev_found_5, true_and, and_true, and_self, eq_self, not_true_eq_false, not_false_eq_true, ite_true, ite_false, true_or, or_true, false_or, or_false, false_and, and_false, ← zi_ni_0, ← zi_ni_1, ← zi_ni_2, ← zi_ni_3, ← zi_ni_4, ← zi_ni_5, ← zi_ni_6, ← zi_ni_7, ← zi_ni_8, ← zi_ni_9, ← zi_ni_10, ← zi_ni_12, ← zi_ni_24, ← zi_ni_25, ← zi_ni_40, ← zi_ni_45, ← zi_ni_47, ← zi_ni_48, ← zi_ni_95, ← zi_ni_96, ← zi_ni_97, ← zi_ni_100, ← zi_ni_144, ← zi_ni_288, nI_ltI, nI_leI, nI_eqI, nlt_T, nlt_F, nle_T, nle_F, neq_T, neq_F, nI_add, pk_mul, nI_clamp, q_inT, ng_lt, ng_tl, ng_le, ng_el, ng_eq, ng_qe, q_b0, q_b1, nar_0, nar_1, b01, b01', q_bn0, q_bn1, nar_n0, nar_n1, si_k, si_i, si_s, si_e, si_2, sl_1, sl_22, sl_k, sl_i, sl_s, sl_e, sp_1, sp_21, sp_22, sc_k, sc_i, sc_e, sc_2, mF_k, mF_2, mF_0, ↓eu_L_X0_takeDown_52]
    exact K t h1 h2 (fun q hq => (h3 q hq).trans (if_pos hq))

