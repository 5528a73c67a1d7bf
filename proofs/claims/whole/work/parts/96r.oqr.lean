/-! down: the reference, the four numbers. -/
def dF (b wd k : Nat) (x7 : Int32) (m : qM) (t : Nat) : Int32 := m.1 92 0 (48 * b + fineN wd k t) + x7 - m.1 99 0 (48 * b + k)
theorem m75 {b wd hg k q f : Nat} {x3 x7 x8 : Int32} {m0 m : qM} {e : qM → Option (Int32 × qM)} {P : Int32 → qM → Prop} (hb : b < 6) (hw : 1 ≤ wd) (hw4 : wd ≤ 4) (hg3 : hg ≤ 3) (hk : k < wd * hg) (hq : q < 4) (e2 : m0.1 75 0 b = nI (2 * wd)) (h1 : FRW m0 m) (h2 : ∀ t, t < q → m.1 118 0 t = dF b wd k x7 m0 t) (K : ∀ m', FRW m0 m' → (∀ t, t < q + 1 → m'.1 118 0 t = dF b wd k x7 m0 t) → Ev (L_X11_down_75 (nI b) x3 (nI k) x7 x8 f (nI (q + 1)) m' e) P) : Ev (L_X11_down_75 (nI b) x3 (nI k) x7 x8 (f + 1) (nI q) m e) P := by
  have hk2 : k < 12 := Nat.lt_of_lt_of_le hk (Nat.mul_le_mul hw4 hg3)
  have hlt : fineN wd k q < 48 := Nat.lt_of_lt_of_le (fineN_lt hw hk hq) (Nat.mul_le_mul (Nat.mul_le_mul_left 2 hw4) (Nat.mul_le_mul_left 2 hg3))
  have hf : ∀ P, Ev (f_X11_fine (nI b) (nI k) (nI q) m) P ↔ P (nI (fineN wd k q)) m := fun P => ev_fineM hb hw hw4 hk2 hq (by rw [h1.1 75 (by decide)]; exact e2)
  have e3 : m.1 92 0 (48 * b + fineN wd k q) = m0.1 92 0 (48 * b + fineN wd k q) := by rw [h1.1 92 (by decide)]
  have e4 : m.1 99 0 (48 * b + k) = m0.1 99 0 (48 * b + k) := by rw [h1.1 99 (by decide)]
  simp (disch := first | omega | decide) only [Nat.reduceAdd, Nat.reduceMul, ↓ev_bd, ↓ev_ck, ↓ev_if, ↓ev_lt, ↓ev_jn, ↓ev_so, ↓reduceIte, ↓ev_within, ↓ev_in, ↓ev_isBoard, ↓ev_isGauge, ↓ev_isNumber, ↓ev_isSix, ↓ev_isEight, ↓ev_foundN, ↓ev_meetsN, ↓ev_found_1, ↓ev_meets_1, ↓ev_found_2, ↓ev_meets_2, ↓ev_found_3, ↓ev_meets_3, ↓ev_found_4, ↓ev_meets_4, ↓ev_found_5, ↓ev_meets_5, true_and, and_true, and_self, eq_self, not_true_eq_false, not_false_eq_true, ite_true, ite_false, true_or, or_true, false_or, or_false, false_and, and_false, ← zi_ni_0, ← zi_ni_1, ← zi_ni_2, ← zi_ni_3, ← zi_ni_4, ← zi_ni_5, ← zi_ni_6, ← zi_ni_7, ← zi_ni_8, ← zi_ni_9, ← zi_ni_10, ← zi_ni_12, ← zi_ni_24, ← zi_ni_25, ← zi_ni_40, ← zi_ni_45, ← zi_ni_47, ← zi_ni_48, ← zi_ni_95, ← zi_ni_96, ← zi_ni_97, ← zi_ni_100, ← zi_ni_144, ← zi_ni_288, nI_ltI, nI_leI, nI_eqI, nlt_T, nlt_F, nle_T, nle_F, neq_T, neq_F, nI_add, pk_mul, nI_clamp, q_inT, ng_lt, ng_tl, ng_le, ng_el, ng_eq, ng_qe, q_b0, q_b1, nar_0, nar_1, b01, b01', q_bn0, q_bn1, nar_n0, nar_n1, si_k, si_i, si_s, si_e, si_2, sl_1, sl_22, sl_k, sl_i, sl_s, sl_e, sp_1, sp_21, sp_22, sc_k, sc_i, sc_e, sc_2, mF_k, mM_k, mF_2, mM_2, mF_0, mM_11, ↓eu_L_X11_down_75, ↓hf, e3, e4]
  refine K _ h1.si (fun t ht => ?_)
  by_cases z : t = q
  · rw [z, si_e]
    rfl
  · rw [si_s z]
    exact h2 t (by omega)
theorem m75_all {b wd hg k : Nat} {x3 x7 x8 : Int32} {m : qM} {e : qM → Option (Int32 × qM)} {P : Int32 → qM → Prop} (hb : b < 6) (hw : 1 ≤ wd) (hw4 : wd ≤ 4) (hg3 : hg ≤ 3) (hk : k < wd * hg) (e2 : m.1 75 0 b = nI (2 * wd)) (K : ∀ m', FRW m m' → WC m' (dF b wd k x7 m) → Ev (e m') P) : Ev (L_X11_down_75 (nI b) x3 (nI k) x7 x8 q_fu (nI 0) m e) P := by
  obtain ⟨f, hf⟩ : ∃ f, q_fu = f + 1 + 1 + 1 + 1 + 1 := ⟨3995, rfl⟩
  rw [hf]
  refine m75 (m0 := m) hb hw hw4 hg3 hk (by decide) e2 ⟨fun _ _ => rfl, rfl⟩ (fun t ht => absurd ht (Nat.not_lt_zero t)) (fun t1 a1 b1 => ?_)
  refine m75 (m0 := m) hb hw hw4 hg3 hk (by decide) e2 a1 b1 (fun t2 a2 b2 => ?_)
  refine m75 (m0 := m) hb hw hw4 hg3 hk (by decide) e2 a2 b2 (fun t3 a3 b3 => ?_)
  refine m75 (m0 := m) hb hw hw4 hg3 hk (by decide) e2 a3 b3 (fun t4 a4 b4 => ?_)
  simp (disch := first | omega | decide) only [Nat.reduceAdd, Nat.reduceMul, ↓ev_bd, ↓ev_ck, ↓ev_if, ↓ev_lt, ↓ev_jn, ↓ev_so, ↓reduceIte, ↓ev_within, ↓ev_in, ↓ev_isBoard, ↓ev_isGauge, ↓ev_isNumber, ↓ev_isSix, ↓ev_isEight, ↓ev_foundN, ↓ev_meetsN, ↓ev_found_1, ↓ev_meets_1, ↓ev_found_2, ↓ev_meets_2, ↓ev_found_3, ↓ev_meets_3, ↓ev_found_4, ↓ev_meets_4, ↓ev_found_5, ↓ev_meets_5, true_and, and_true, and_self, eq_self, not_true_eq_false, not_false_eq_true, ite_true, ite_false, true_or, or_true, false_or, or_false, false_and, and_false, ← zi_ni_0, ← zi_ni_1, ← zi_ni_2, ← zi_ni_3, ← zi_ni_4, ← zi_ni_5, ← zi_ni_6, ← zi_ni_7, ← zi_ni_8, ← zi_ni_9, ← zi_ni_10, ← zi_ni_12, ← zi_ni_24, ← zi_ni_25, ← zi_ni_40, ← zi_ni_45, ← zi_ni_47, ← zi_ni_48, ← zi_ni_95, ← zi_ni_96, ← zi_ni_97, ← zi_ni_100, ← zi_ni_144, ← zi_ni_288, nI_ltI, nI_leI, nI_eqI, nlt_T, nlt_F, nle_T, nle_F, neq_T, neq_F, nI_add, pk_mul, nI_clamp, q_inT, ng_lt, ng_tl, ng_le, ng_el, ng_eq, ng_qe, q_b0, q_b1, nar_0, nar_1, b01, b01', q_bn0, q_bn1, nar_n0, nar_n1, si_k, si_i, si_s, si_e, si_2, sl_1, sl_22, sl_k, sl_i, sl_s, sl_e, sp_1, sp_21, sp_22, sc_k, sc_i, sc_e, sc_2, mF_k, mM_k, mF_2, mM_2, mF_0, mM_11, ↓eu_L_X11_down_75]
  exact K t4 a4 b4
