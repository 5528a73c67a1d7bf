/-! down: the reference, what is too much. -/
def FRX (b wd k : Nat) (m0 m : qM) : Prop := (∀ a i s, ¬ (a = 92 ∧ i = 0 ∧ ∃ t, t < 4 ∧ s = 48 * b + fineN wd k t) → m.1 a i s = m0.1 a i s) ∧ m.2 = m0.2
def XS (b wd k : Nat) (m : qM) (s : (Nat → Int32) × Int32) (q : Nat) : Prop := (∀ t, t < q → m.1 92 0 (48 * b + fineN wd k t) = s.1 t) ∧ (∀ t, q ≤ t → t < 4 → m.1 118 0 t = s.1 t)
theorem cp_c1 {a : Int32} (h : a ≤ 100000) (hb : -200000 ≤ a.toInt) : cp a = nI 0 := by
  rw [x_le, x_100k] at h
  exact if_neg (by rw [x_lt, z_sub (by rw [x_100k]; omega) (by rw [x_100k]; omega), x_100k, nI0]; omega)
theorem cp_c2 {a : Int32} (h : ¬ a ≤ 100000) : cp a = a - 100000 := by
  have hx2 : a.toInt < 2147483648 := by have := a.toInt_lt; omega
  rw [x_le, x_100k] at h
  exact if_pos (by rw [x_lt, z_sub (by rw [x_100k]; omega) (by rw [x_100k]; omega), x_100k, nI0]; omega)
theorem m269 {b wd hg k q f : Nat} {x3 x7 : Int32} {m0 m : qM} {s : (Nat → Int32) × Int32} {e : Int32 → qM → Option (Int32 × qM)} {P : Int32 → qM → Prop} (hb : b < 6) (hw : 1 ≤ wd) (hw4 : wd ≤ 4) (hg3 : hg ≤ 3) (hk : k < wd * hg) (hq : q < 4) (e2 : m0.1 75 0 b = nI (2 * wd)) (h1 : FRX b wd k m0 m) (h2 : XS b wd k m s q) (hB : -200000 ≤ (s.1 q).toInt) (K : ∀ m', FRX b wd k m0 m' → XS b wd k m' (cpS s q) (q + 1) → Ev (L_X11_down_269 (nI b) x3 (nI k) x7 f (cpS s q).2 (nI (q + 1)) m' e) P) : Ev (L_X11_down_269 (nI b) x3 (nI k) x7 (f + 1) s.2 (nI q) m e) P := by
  have hk2 : k < 12 := Nat.lt_of_lt_of_le hk (Nat.mul_le_mul hw4 hg3)
  have hlt : fineN wd k q < 48 := Nat.lt_of_lt_of_le (fineN_lt hw hk hq) (Nat.mul_le_mul (Nat.mul_le_mul_left 2 hw4) (Nat.mul_le_mul_left 2 hg3))
  have hf : ∀ P, Ev (f_X11_fine (nI b) (nI k) (nI q) m) P ↔ P (nI (fineN wd k q)) m := fun P => ev_fineM hb hw hw4 hk2 hq ((h1.1 75 0 b (by omega)).trans e2)
  have e3 : m.1 118 0 q = s.1 q := h2.2 q (Nat.le_refl q) hq
  have K1 := K (q_si m 92 0 (48 * b + fineN wd k q) (s.1 q - cp (s.1 q))) ⟨fun a i t z => by
    rw [si_n (fun y => z ⟨y.1, y.2.1, q, hq, y.2.2⟩)]
    exact h1.1 a i t z, h1.2⟩ ⟨fun t ht => by
      show _ = fset s.1 q (s.1 q - cp (s.1 q)) t
      unfold fset
      by_cases z : t = q
      · rw [if_pos z, z, si_e]
      · rw [if_neg z, si_s (fun y => z (fineN_inj (k := k) hw (by omega) hq (by omega)))]
        exact h2.1 t (by omega), fun t ht ht4 => by
      show _ = fset s.1 q (s.1 q - cp (s.1 q)) t
      unfold fset
      rw [if_neg (by omega), si_k (by decide)]
      exact h2.2 t (by omega) ht4⟩
  have hc : (cpS s q).2 = s.2 + cp (s.1 q) := rfl
  rw [hc] at K1
  by_cases c1 : s.1 q ≤ 100000
  · rw [cp_c1 c1 hB] at K1
    simp (disch := first | omega | decide) only [Nat.reduceAdd, Nat.reduceMul, ↓ev_bd, ↓ev_ck, ↓ev_if, ↓ev_lt, ↓ev_jn, ↓ev_so, ↓reduceIte, ↓ev_within, ↓ev_in, ↓ev_isBoard, ↓ev_isGauge, ↓ev_isNumber, ↓ev_isSix, ↓ev_isEight, ↓ev_foundN, ↓ev_meetsN, ↓ev_found_1, ↓ev_meets_1, ↓ev_found_2, ↓ev_meets_2, ↓ev_found_3, ↓ev_meets_3, ↓ev_found_4, ↓ev_meets_4, ↓ev_found_5, ↓ev_meets_5, true_and, and_true, and_self, eq_self, not_true_eq_false, not_false_eq_true, ite_true, ite_false, true_or, or_true, false_or, or_false, false_and, and_false, ← zi_ni_0, ← zi_ni_1, ← zi_ni_2, ← zi_ni_3, ← zi_ni_4, ← zi_ni_5, ← zi_ni_6, ← zi_ni_7, ← zi_ni_8, ← zi_ni_9, ← zi_ni_10, ← zi_ni_12, ← zi_ni_24, ← zi_ni_25, ← zi_ni_40, ← zi_ni_45, ← zi_ni_47, ← zi_ni_48, ← zi_ni_95, ← zi_ni_96, ← zi_ni_97, ← zi_ni_100, ← zi_ni_144, ← zi_ni_288, nI_ltI, nI_leI, nI_eqI, nlt_T, nlt_F, nle_T, nle_F, neq_T, neq_F, nI_add, pk_mul, nI_clamp, q_inT, ng_lt, ng_tl, ng_le, ng_el, ng_eq, ng_qe, q_b0, q_b1, nar_0, nar_1, b01, b01', q_bn0, q_bn1, nar_n0, nar_n1, si_k, si_i, si_s, si_e, si_2, sl_1, sl_22, sl_k, sl_i, sl_s, sl_e, sp_1, sp_21, sp_22, sc_k, sc_i, sc_e, sc_2, mF_k, mM_k, mF_2, mM_2, mF_0, mM_11, ↓eu_L_X11_down_269, ↓hf, e3, c1]
    exact K1
  · rw [cp_c2 c1] at K1
    simp (disch := first | omega | decide) only [Nat.reduceAdd, Nat.reduceMul, ↓ev_bd, ↓ev_ck, ↓ev_if, ↓ev_lt, ↓ev_jn, ↓ev_so, ↓reduceIte, ↓ev_within, ↓ev_in, ↓ev_isBoard, ↓ev_isGauge, ↓ev_isNumber, ↓ev_isSix, ↓ev_isEight, ↓ev_foundN, ↓ev_meetsN, ↓ev_found_1, ↓ev_meets_1, ↓ev_found_2, ↓ev_meets_2, ↓ev_found_3, ↓ev_meets_3, ↓ev_found_4, ↓ev_meets_4, ↓ev_found_5, ↓ev_meets_5, true_and, and_true, and_self, eq_self, not_true_eq_false, not_false_eq_true, ite_true, ite_false, true_or, or_true, false_or, or_false, false_and, and_false, ← zi_ni_0, ← zi_ni_1, ← zi_ni_2, ← zi_ni_3, ← zi_ni_4, ← zi_ni_5, ← zi_ni_6, ← zi_ni_7, ← zi_ni_8, ← zi_ni_9, ← zi_ni_10, ← zi_ni_12, ← zi_ni_24, ← zi_ni_25, ← zi_ni_40, ← zi_ni_45, ← zi_ni_47, ← zi_ni_48, ← zi_ni_95, ← zi_ni_96, ← zi_ni_97, ← zi_ni_100, ← zi_ni_144, ← zi_ni_288, nI_ltI, nI_leI, nI_eqI, nlt_T, nlt_F, nle_T, nle_F, neq_T, neq_F, nI_add, pk_mul, nI_clamp, q_inT, ng_lt, ng_tl, ng_le, ng_el, ng_eq, ng_qe, q_b0, q_b1, nar_0, nar_1, b01, b01', q_bn0, q_bn1, nar_n0, nar_n1, si_k, si_i, si_s, si_e, si_2, sl_1, sl_22, sl_k, sl_i, sl_s, sl_e, sp_1, sp_21, sp_22, sc_k, sc_i, sc_e, sc_2, mF_k, mM_k, mF_2, mM_2, mF_0, mM_11, ↓eu_L_X11_down_269, ↓hf, e3, c1]
    exact K1
