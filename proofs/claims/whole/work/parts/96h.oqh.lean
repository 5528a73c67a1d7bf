/-! up: the water of a nest given up to the board beneath. -/
def fineN (wd k q : Nat) : Nat := (2 * (k / wd) + q / 2) * (2 * wd) + (2 * (k % wd) + q % 2)
def undN (wd W x y k : Nat) : Nat := (y + k / wd) * W + x + k % wd
theorem fineN_lt {wd hg k q : Nat} (hw : 1 ≤ wd) (hk : k < wd * hg) (hq : q < 4) : fineN wd k q < (2 * wd) * (2 * hg) := by
  unfold fineN
  have h1 : k / wd < hg := Nat.div_lt_of_lt_mul hk
  have h2 : k % wd < wd := Nat.mod_lt _ hw
  have h3 : 2 * (k / wd) + q / 2 + 1 ≤ 2 * hg := by omega
  have h4 := Nat.mul_le_mul_right (2 * wd) h3
  rw [Nat.add_mul, Nat.one_mul, Nat.mul_comm (2 * hg)] at h4
  omega
theorem undN_lt {wd hg W H x y k : Nat} (hw : 1 ≤ wd) (hk : k < wd * hg) (hx : x + wd ≤ W) (hy : y + hg ≤ H) : undN wd W x y k < W * H := by
  unfold undN
  have h1 : k / wd < hg := Nat.div_lt_of_lt_mul hk
  have h2 : k % wd < wd := Nat.mod_lt _ hw
  have h3 : y + k / wd + 1 ≤ H := by omega
  have h4 := Nat.mul_le_mul_right W h3
  rw [Nat.add_mul, Nat.one_mul, Nat.mul_comm H] at h4
  omega
theorem ev_fineC {b k q wd : Nat} {u : qM} {P : Int32 → qM → Prop} (hw : 1 ≤ wd) (hw4 : wd ≤ 4) (hk : k < 12) (hq : q < 4) (e : u.1 2 b 12 = nI (2 * wd)) : Ev (f_X0_fineCell b (nI k) (nI q) u) P ↔ P (nI (fineN wd k q)) u := by
  have h2 : 2 * wd / 2 = wd := by omega
  simp (disch := first | omega | decide) only [Nat.reduceAdd, Nat.reduceMul, ↓ev_bd, ↓ev_ck, ↓ev_if, ↓ev_lt, ↓ev_jn, ↓ev_so, ↓reduceIte, ↓ev_within, ↓ev_in, ↓ev_isBoard, ↓ev_isGauge, ↓ev_isNumber, ↓ev_isSix, ↓ev_isEight, ↓ev_foundN, ↓ev_meetsN, ↓ev_found_1, ↓ev_meets_1, ↓ev_found_2, ↓ev_meets_2, ↓ev_found_3, ↓ev_meets_3, ↓ev_found_4, ↓ev_meets_4, ↓ev_found_5, ↓ev_meets_5, true_and, and_true, and_self, eq_self, not_true_eq_false, not_false_eq_true, ite_true, ite_false, true_or, or_true, false_or, or_false, false_and, and_false, ← zi_ni_0, ← zi_ni_1, ← zi_ni_2, ← zi_ni_3, ← zi_ni_4, ← zi_ni_5, ← zi_ni_6, ← zi_ni_7, ← zi_ni_8, ← zi_ni_9, ← zi_ni_10, ← zi_ni_12, ← zi_ni_24, ← zi_ni_25, ← zi_ni_40, ← zi_ni_45, ← zi_ni_47, ← zi_ni_48, ← zi_ni_95, ← zi_ni_96, ← zi_ni_97, ← zi_ni_100, ← zi_ni_144, ← zi_ni_288, nI_ltI, nI_leI, nI_eqI, nlt_T, nlt_F, nle_T, nle_F, neq_T, neq_F, nI_add, pk_mul, nI_clamp, q_inT, ng_lt, ng_tl, ng_le, ng_el, ng_eq, ng_qe, q_b0, q_b1, nar_0, nar_1, b01, b01', q_bn0, q_bn1, nar_n0, nar_n1, si_k, si_i, si_s, si_e, si_2, sl_1, sl_22, sl_k, sl_i, sl_s, sl_e, sp_1, sp_21, sp_22, sc_k, sc_i, sc_e, sc_2, mF_k, mM_k, mF_2, mM_2, mF_0, mM_11, ↓eu_X0_fineCell, e, h2, pk_div, pk_rem', n_rem, q_nzI]
  exact Iff.rfl
theorem ev_fineM {b k q wd : Nat} {u : qM} {P : Int32 → qM → Prop} (hb : b < 6) (hw : 1 ≤ wd) (hw4 : wd ≤ 4) (hk : k < 12) (hq : q < 4) (e : u.1 75 0 b = nI (2 * wd)) : Ev (f_X11_fine (nI b) (nI k) (nI q) u) P ↔ P (nI (fineN wd k q)) u := by
  have h2 : 2 * wd / 2 = wd := by omega
  simp (disch := first | omega | decide) only [Nat.reduceAdd, Nat.reduceMul, ↓ev_bd, ↓ev_ck, ↓ev_if, ↓ev_lt, ↓ev_jn, ↓ev_so, ↓reduceIte, ↓ev_within, ↓ev_in, ↓ev_isBoard, ↓ev_isGauge, ↓ev_isNumber, ↓ev_isSix, ↓ev_isEight, ↓ev_foundN, ↓ev_meetsN, ↓ev_found_1, ↓ev_meets_1, ↓ev_found_2, ↓ev_meets_2, ↓ev_found_3, ↓ev_meets_3, ↓ev_found_4, ↓ev_meets_4, ↓ev_found_5, ↓ev_meets_5, true_and, and_true, and_self, eq_self, not_true_eq_false, not_false_eq_true, ite_true, ite_false, true_or, or_true, false_or, or_false, false_and, and_false, ← zi_ni_0, ← zi_ni_1, ← zi_ni_2, ← zi_ni_3, ← zi_ni_4, ← zi_ni_5, ← zi_ni_6, ← zi_ni_7, ← zi_ni_8, ← zi_ni_9, ← zi_ni_10, ← zi_ni_12, ← zi_ni_24, ← zi_ni_25, ← zi_ni_40, ← zi_ni_45, ← zi_ni_47, ← zi_ni_48, ← zi_ni_95, ← zi_ni_96, ← zi_ni_97, ← zi_ni_100, ← zi_ni_144, ← zi_ni_288, nI_ltI, nI_leI, nI_eqI, nlt_T, nlt_F, nle_T, nle_F, neq_T, neq_F, nI_add, pk_mul, nI_clamp, q_inT, ng_lt, ng_tl, ng_le, ng_el, ng_eq, ng_qe, q_b0, q_b1, nar_0, nar_1, b01, b01', q_bn0, q_bn1, nar_n0, nar_n1, si_k, si_i, si_s, si_e, si_2, sl_1, sl_22, sl_k, sl_i, sl_s, sl_e, sp_1, sp_21, sp_22, sc_k, sc_i, sc_e, sc_2, mF_k, mM_k, mF_2, mM_2, mF_0, mM_11, ↓eu_X11_fine, e, h2, pk_div, pk_rem', n_rem, q_nzI]
  unfold fineN
  rw [Nat.add_assoc]
theorem ev_undC {b d k wd W x y : Nat} {u : qM} {P : Int32 → qM → Prop} (hw : 1 ≤ wd) (hw4 : wd ≤ 4) (hk : k < 12) (e : u.1 2 b 12 = nI (2 * wd)) (e2 : u.1 2 d 12 = nI W) (e3 : u.1 5 b 3 = nI x) (e4 : u.1 5 b 4 = nI y) : Ev (f_X0_underCell b (nI k) d u) P ↔ P (nI (undN wd W x y k)) u := by
  have h2 : 2 * wd / 2 = wd := by omega
  simp (disch := first | omega | decide) only [Nat.reduceAdd, Nat.reduceMul, ↓ev_bd, ↓ev_ck, ↓ev_if, ↓ev_lt, ↓ev_jn, ↓ev_so, ↓reduceIte, ↓ev_within, ↓ev_in, ↓ev_isBoard, ↓ev_isGauge, ↓ev_isNumber, ↓ev_isSix, ↓ev_isEight, ↓ev_foundN, ↓ev_meetsN, ↓ev_found_1, ↓ev_meets_1, ↓ev_found_2, ↓ev_meets_2, ↓ev_found_3, ↓ev_meets_3, ↓ev_found_4, ↓ev_meets_4, ↓ev_found_5, ↓ev_meets_5, true_and, and_true, and_self, eq_self, not_true_eq_false, not_false_eq_true, ite_true, ite_false, true_or, or_true, false_or, or_false, false_and, and_false, ← zi_ni_0, ← zi_ni_1, ← zi_ni_2, ← zi_ni_3, ← zi_ni_4, ← zi_ni_5, ← zi_ni_6, ← zi_ni_7, ← zi_ni_8, ← zi_ni_9, ← zi_ni_10, ← zi_ni_12, ← zi_ni_24, ← zi_ni_25, ← zi_ni_40, ← zi_ni_45, ← zi_ni_47, ← zi_ni_48, ← zi_ni_95, ← zi_ni_96, ← zi_ni_97, ← zi_ni_100, ← zi_ni_144, ← zi_ni_288, nI_ltI, nI_leI, nI_eqI, nlt_T, nlt_F, nle_T, nle_F, neq_T, neq_F, nI_add, pk_mul, nI_clamp, q_inT, ng_lt, ng_tl, ng_le, ng_el, ng_eq, ng_qe, q_b0, q_b1, nar_0, nar_1, b01, b01', q_bn0, q_bn1, nar_n0, nar_n1, si_k, si_i, si_s, si_e, si_2, sl_1, sl_22, sl_k, sl_i, sl_s, sl_e, sp_1, sp_21, sp_22, sc_k, sc_i, sc_e, sc_2, mF_k, mM_k, mF_2, mM_2, mF_0, mM_11, ↓eu_X0_underCell, e, e2, e3, e4, h2, pk_div, pk_rem', n_rem, q_nzI]
  exact Iff.rfl
theorem ev_undM {b d k wd W x y : Nat} {u : qM} {P : Int32 → qM → Prop} (hb : b < 6) (hd : d < 6) (hw : 1 ≤ wd) (hw4 : wd ≤ 4) (hk : k < 12) (e : u.1 75 0 b = nI (2 * wd)) (e2 : u.1 75 0 d = nI W) (e3 : u.1 97 0 b = nI x) (e4 : u.1 98 0 b = nI y) (e5 : u.1 96 0 b = nI d) : Ev (f_X11_beneath (nI b) (nI k) u) P ↔ P (nI (undN wd W x y k)) u := by
  have h2 : 2 * wd / 2 = wd := by omega
  simp (disch := first | omega | decide) only [Nat.reduceAdd, Nat.reduceMul, ↓ev_bd, ↓ev_ck, ↓ev_if, ↓ev_lt, ↓ev_jn, ↓ev_so, ↓reduceIte, ↓ev_within, ↓ev_in, ↓ev_isBoard, ↓ev_isGauge, ↓ev_isNumber, ↓ev_isSix, ↓ev_isEight, ↓ev_foundN, ↓ev_meetsN, ↓ev_found_1, ↓ev_meets_1, ↓ev_found_2, ↓ev_meets_2, ↓ev_found_3, ↓ev_meets_3, ↓ev_found_4, ↓ev_meets_4, ↓ev_found_5, ↓ev_meets_5, true_and, and_true, and_self, eq_self, not_true_eq_false, not_false_eq_true, ite_true, ite_false, true_or, or_true, false_or, or_false, false_and, and_false, ← zi_ni_0, ← zi_ni_1, ← zi_ni_2, ← zi_ni_3, ← zi_ni_4, ← zi_ni_5, ← zi_ni_6, ← zi_ni_7, ← zi_ni_8, ← zi_ni_9, ← zi_ni_10, ← zi_ni_12, ← zi_ni_24, ← zi_ni_25, ← zi_ni_40, ← zi_ni_45, ← zi_ni_47, ← zi_ni_48, ← zi_ni_95, ← zi_ni_96, ← zi_ni_97, ← zi_ni_100, ← zi_ni_144, ← zi_ni_288, nI_ltI, nI_leI, nI_eqI, nlt_T, nlt_F, nle_T, nle_F, neq_T, neq_F, nI_add, pk_mul, nI_clamp, q_inT, ng_lt, ng_tl, ng_le, ng_el, ng_eq, ng_qe, q_b0, q_b1, nar_0, nar_1, b01, b01', q_bn0, q_bn1, nar_n0, nar_n1, si_k, si_i, si_s, si_e, si_2, sl_1, sl_22, sl_k, sl_i, sl_s, sl_e, sp_1, sp_21, sp_22, sc_k, sc_i, sc_e, sc_2, mF_k, mM_k, mF_2, mM_2, mF_0, mM_11, ↓eu_X11_beneath, e, e2, e3, e4, e5, h2, pk_div, pk_rem', n_rem, q_nzI]
  exact Iff.rfl
theorem mix_sc {c m : qM} {a i s : Nat} {v : Int32} (h : isM a = false) : mix (q_si c a i s v) m = q_si (mix c m) a i s v := by
  refine Prod.ext (funext (fun k => ?_)) rfl
  by_cases e : k = a
  · subst e
    rw [mix_c h]
    funext i' s'
    by_cases q : i' = i ∧ s' = s
    · rw [q.1, q.2, si_e, si_e]
    · rw [si_n (by omega), si_n (by omega), mix_c h]
  · rw [si_k e]
    cases q : isM k
    · rw [mix_c q, mix_c q, si_k e]
    · rw [mix_m q, mix_m q]
theorem mix_sm {c m : qM} {a i s : Nat} {v : Int32} (h : isM a = true) : mix c (q_si m a i s v) = q_si (mix c m) a i s v := by
  refine Prod.ext (funext (fun k => ?_)) rfl
  by_cases e : k = a
  · subst e
    rw [mix_m h]
    funext i' s'
    by_cases q : i' = i ∧ s' = s
    · rw [q.1, q.2, si_e, si_e]
    · rw [si_n (by omega), si_n (by omega), mix_m h]
  · rw [si_k e]
    cases q : isM k
    · rw [mix_c q, mix_c q]
    · rw [mix_m q, mix_m q, si_k e]
theorem Rel_WN {n : Nat} {μ μ' : qM} (F : ∀ a, a ≠ 38 → a ≠ 45 → a ≠ 46 → a ≠ 92 → a ≠ 99 → a ≠ 100 → a ≠ 118 → μ'.1 a = μ.1 a) (Fl : μ'.2 = μ.2)
    (hW : ∀ x s, x < 6 → s < 48 → (μ'.1 38 x s = μ.1 38 x s ∧ μ'.1 92 0 (48 * x + s) = μ.1 92 0 (48 * x + s)) ∨ (μ'.1 92 0 (48 * x + s) = μ'.1 38 x s ∧ 0 ≤ (μ'.1 38 x s).toInt ∧ (μ'.1 38 x s).toInt ≤ 100000))
    (hN : ∀ x k, x < 6 → k < 12 → (μ'.1 45 x k = μ.1 45 x k ∧ μ'.1 46 x k = μ.1 46 x k ∧ μ'.1 99 0 (48 * x + k) = μ.1 99 0 (48 * x + k) ∧ μ'.1 100 0 (48 * x + k) = μ.1 100 0 (48 * x + k)) ∨ (μ'.1 99 0 (48 * x + k) = μ'.1 45 x k ∧ μ'.1 100 0 (48 * x + k) = μ'.1 46 x k ∧ 0 ≤ (μ'.1 45 x k).toInt ∧ (μ'.1 45 x k).toInt ≤ 100000)) (h : Rel n μ) : Rel n μ' := by
  obtain ⟨h0, h1, h2, h3, h4, h5, h6, h7, h8⟩ := h
  have hc : ∀ x t, t ≠ 2 → cB μ' x t = cB μ x t := by
    intro x t ht
    funext s
    unfold cB
    rw [F 2 (by decide) (by decide) (by decide) (by decide) (by decide) (by decide) (by decide), F 3 (by decide) (by decide) (by decide) (by decide) (by decide) (by decide) (by decide), F 4 (by decide) (by decide) (by decide) (by decide) (by decide) (by decide) (by decide), F 37 (by decide) (by decide) (by decide) (by decide) (by decide) (by decide) (by decide), F 39 (by decide) (by decide) (by decide) (by decide) (by decide) (by decide) (by decide), F 40 (by decide) (by decide) (by decide) (by decide) (by decide) (by decide) (by decide), F 41 (by decide) (by decide) (by decide) (by decide) (by decide) (by decide) (by decide), F 42 (by decide) (by decide) (by decide) (by decide) (by decide) (by decide) (by decide), F 43 (by decide) (by decide) (by decide) (by decide) (by decide) (by decide) (by decide), F 44 (by decide) (by decide) (by decide) (by decide) (by decide) (by decide) (by decide)]
    split <;> first | rfl | exact absurd rfl ht
  have hm : ∀ x t, t ≠ 2 → mB μ' x t = mB μ x t := by
    intro x t ht
    funext s
    unfold mB
    rw [F 74 (by decide) (by decide) (by decide) (by decide) (by decide) (by decide) (by decide) , F 75 (by decide) (by decide) (by decide) (by decide) (by decide) (by decide) (by decide) , F 76 (by decide) (by decide) (by decide) (by decide) (by decide) (by decide) (by decide) , F 81 (by decide) (by decide) (by decide) (by decide) (by decide) (by decide) (by decide) , F 82 (by decide) (by decide) (by decide) (by decide) (by decide) (by decide) (by decide) , F 83 (by decide) (by decide) (by decide) (by decide) (by decide) (by decide) (by decide) , F 84 (by decide) (by decide) (by decide) (by decide) (by decide) (by decide) (by decide) , F 85 (by decide) (by decide) (by decide) (by decide) (by decide) (by decide) (by decide) , F 77 (by decide) (by decide) (by decide) (by decide) (by decide) (by decide) (by decide) , F 78 (by decide) (by decide) (by decide) (by decide) (by decide) (by decide) (by decide) , F 79 (by decide) (by decide) (by decide) (by decide) (by decide) (by decide) (by decide) , F 80 (by decide) (by decide) (by decide) (by decide) (by decide) (by decide) (by decide) , F 86 (by decide) (by decide) (by decide) (by decide) (by decide) (by decide) (by decide) , F 89 (by decide) (by decide) (by decide) (by decide) (by decide) (by decide) (by decide) , F 91 (by decide) (by decide) (by decide) (by decide) (by decide) (by decide) (by decide) , F 93 (by decide) (by decide) (by decide) (by decide) (by decide) (by decide) (by decide) , F 94 (by decide) (by decide) (by decide) (by decide) (by decide) (by decide) (by decide) , F 95 (by decide) (by decide) (by decide) (by decide) (by decide) (by decide) (by decide) , F 90 (by decide) (by decide) (by decide) (by decide) (by decide) (by decide) (by decide) , F 87 (by decide) (by decide) (by decide) (by decide) (by decide) (by decide) (by decide) , F 88 (by decide) (by decide) (by decide) (by decide) (by decide) (by decide) (by decide) ]
    split <;> first | rfl | exact absurd rfl ht
  have g2 : μ'.1 2 = μ.1 2 := F 2 (by decide) (by decide) (by decide) (by decide) (by decide) (by decide) (by decide)
  have g5 : μ'.1 5 = μ.1 5 := F 5 (by decide) (by decide) (by decide) (by decide) (by decide) (by decide) (by decide)
  have hnN : ∀ x, nN (cB μ' x) = nN (cB μ x) := fun x => nN_t (hc x 0 (by decide))
  have hnW : ∀ x, nW (cB μ' x) = nW (cB μ x) := fun x => nW_s (congrFun (hc x 0 (by decide)) 1)
  have hnH : ∀ x, nH (cB μ' x) = nH (cB μ x) := fun x => nH_s (congrFun (hc x 0 (by decide)) 2)
  refine ⟨R0_ext (F 0 (by decide) (by decide) (by decide) (by decide) (by decide) (by decide) (by decide) ) (F 11 (by decide) (by decide) (by decide) (by decide) (by decide) (by decide) (by decide) ) (by rw [Fl]) (by rw [Fl]) (F 36 (by decide) (by decide) (by decide) (by decide) (by decide) (by decide) (by decide) ) (F 61 (by decide) (by decide) (by decide) (by decide) (by decide) (by decide) (by decide) ) h0, R1_ext (by rw [F 33 (by decide) (by decide) (by decide) (by decide) (by decide) (by decide) (by decide) ]) (F 66 (by decide) (by decide) (by decide) (by decide) (by decide) (by decide) (by decide) ) (F 67 (by decide) (by decide) (by decide) (by decide) (by decide) (by decide) (by decide) ) (F 30 (by decide) (by decide) (by decide) (by decide) (by decide) (by decide) (by decide) ) h1, R2_ext (by rw [F 33 (by decide) (by decide) (by decide) (by decide) (by decide) (by decide) (by decide) ]) (F 69 (by decide) (by decide) (by decide) (by decide) (by decide) (by decide) (by decide) ) (F 70 (by decide) (by decide) (by decide) (by decide) (by decide) (by decide) (by decide) ) (F 31 (by decide) (by decide) (by decide) (by decide) (by decide) (by decide) (by decide) ) h2, fun x hx => ?_, R4_ext' (fun b _ => by rw [g2]) (fun b _ => by rw [g2]) (fun b _ => by rw [g5]) h4, R5_ext' (fun b _ => hnN b) (fun b _ => by rw [g2]) (F 8 (by decide) (by decide) (by decide) (by decide) (by decide) (by decide) (by decide) ) (F 105 (by decide) (by decide) (by decide) (by decide) (by decide) (by decide) (by decide) ) (F 106 (by decide) (by decide) (by decide) (by decide) (by decide) (by decide) (by decide) ) (F 107 (by decide) (by decide) (by decide) (by decide) (by decide) (by decide) (by decide) ) h5, R6_ext' (fun b _ => hnN b) (fun b _ => by rw [g2]) (F 9 (by decide) (by decide) (by decide) (by decide) (by decide) (by decide) (by decide) ) (F 52 (by decide) (by decide) (by decide) (by decide) (by decide) (by decide) (by decide) ) (F 53 (by decide) (by decide) (by decide) (by decide) (by decide) (by decide) (by decide) ) (F 108 (by decide) (by decide) (by decide) (by decide) (by decide) (by decide) (by decide) ) (F 109 (by decide) (by decide) (by decide) (by decide) (by decide) (by decide) (by decide) ) (F 110 (by decide) (by decide) (by decide) (by decide) (by decide) (by decide) (by decide) ) (F 111 (by decide) (by decide) (by decide) (by decide) (by decide) (by decide) (by decide) ) (F 112 (by decide) (by decide) (by decide) (by decide) (by decide) (by decide) (by decide) ) h6, R7_ext (by rw [F 0 (by decide) (by decide) (by decide) (by decide) (by decide) (by decide) (by decide) ]) (by rw [F 11 (by decide) (by decide) (by decide) (by decide) (by decide) (by decide) (by decide) ]) (by rw [F 33 (by decide) (by decide) (by decide) (by decide) (by decide) (by decide) (by decide) ]) (F 122 (by decide) (by decide) (by decide) (by decide) (by decide) (by decide) (by decide) ) (F 123 (by decide) (by decide) (by decide) (by decide) (by decide) (by decide) (by decide) ) (F 32 (by decide) (by decide) (by decide) (by decide) (by decide) (by decide) (by decide) ) (F 34 (by decide) (by decide) (by decide) (by decide) (by decide) (by decide) (by decide) ) (F 124 (by decide) (by decide) (by decide) (by decide) (by decide) (by decide) (by decide) ) h7, R8_ext (by rw [F 10 (by decide) (by decide) (by decide) (by decide) (by decide) (by decide) (by decide) ]) (by rw [F 11 (by decide) (by decide) (by decide) (by decide) (by decide) (by decide) (by decide) ]) (by rw [F 11 (by decide) (by decide) (by decide) (by decide) (by decide) (by decide) (by decide) ]) (by rw [F 11 (by decide) (by decide) (by decide) (by decide) (by decide) (by decide) (by decide) ]) (by rw [Fl]) (by rw [Fl]) h8⟩
  obtain ⟨a1, a2⟩ := h3 x hx
  refine ⟨fun t ht => ?_, ?_⟩
  · by_cases q : t = 2
    · subst q
      funext s
      by_cases hs : s < 48
      · rw [cR_2 hs, mR_2 hs]
        rcases hW x s hx hs with ⟨w1, w2⟩ | ⟨w1, -⟩
        · have := congrFun (a1 2 (by decide)) s
          rw [cR_2 hs, mR_2 hs] at this
          rw [w1, w2, this]
        · exact w1
      · exact (if_neg hs).trans (if_neg hs).symm
    · rw [hm x t q, hc x t q]
      exact a1 t ht
  · rw [g2, F 74 (by decide) (by decide) (by decide) (by decide) (by decide) (by decide) (by decide), hm x 0 (by decide), hc x 0 (by decide)]
    rcases a2 with a2 | ⟨b1, b2, b3, b4⟩
    · exact .inl a2
    · refine .inr ⟨b1, b2, ?_, fun hk => ?_⟩
      · refine ⟨WF0_t (hc x 0 (by decide)) b3.1, ⟨fun s => ?_, fun s => ?_, fun s => ?_, fun s => ?_, fun s hs => ?_⟩, WF2_t (hc x 0 (by decide)) (hc x 6 (by decide)) (hc x 7 (by decide)) b3.2.2⟩
        · rw [hc x 1 (by decide)]; exact b3.2.1.1 s
        · by_cases hs : s < 48
          · rw [cR_2 hs]
            rcases hW x s hx hs with ⟨w1, -⟩ | ⟨-, w2⟩
            · have := b3.2.1.2.1 s
              rw [cR_2 hs] at this
              rw [w1]
              exact this
            · exact w2
          · rw [show cB μ' x 2 s = 0 from if_neg hs]
            decide
        · rw [hc x 4 (by decide)]; exact b3.2.1.2.2.1 s
        · rw [hc x 5 (by decide)]; exact b3.2.1.2.2.2.1 s
        · rw [hc x 0 (by decide)] at hs
          rw [hc x 8 (by decide)]
          exact b3.2.1.2.2.2.2 s hs
      · obtain ⟨d, x', y, wd, hg, q1, q2, q3, q4, q5, q6, q7, q8, q9, q10, q11, q12, q13, q14, q15, q16, q17, q18⟩ := b4 hk
        refine ⟨d, x', y, wd, hg, q1, q2, ?_, ?_, ?_, ?_, ?_, ?_, ?_, ?_, ?_, q12, q13, q14, q15, ?_, ?_, fun k hk => ?_⟩
        · rw [g5]; exact q3
        · rw [F 96 (by decide) (by decide) (by decide) (by decide) (by decide) (by decide) (by decide)]; exact q4
        · rw [g2]; exact q5
        · rw [g5]; exact q6
        · rw [F 97 (by decide) (by decide) (by decide) (by decide) (by decide) (by decide) (by decide)]; exact q7
        · rw [g5]; exact q8
        · rw [F 98 (by decide) (by decide) (by decide) (by decide) (by decide) (by decide) (by decide)]; exact q9
        · rw [hnW]; exact q10
        · rw [hnH]; exact q11
        · rw [hnW]; exact q16
        · rw [hnH]; exact q17
        · have hk2 : k < 12 := Nat.lt_of_lt_of_le hk (Nat.mul_le_mul q13 q15)
          rcases hN x k hx hk2 with ⟨z1, z2, z3, z4⟩ | z
          · rw [z1, z2, z3, z4]
            exact q18 k hk
          · exact ⟨z.1, z.2.1, z.2.2⟩
