def fineN (wd k q : Nat) : Nat := (2 * (k / wd) + q / 2) * (2 * wd) + (2 * (k % wd) + q % 2)
def undN (wd W x y k : Nat) : Nat := (y + k / wd) * W + x + k % wd
theorem fineN_lt {wd hg k q : Nat} (hw : 1 ≤ wd) (hk : k < wd * hg) (hq : q < 4) : fineN wd k q < (2 * wd) * (2 * hg) := by
  unfold fineN
  have h1 : k / wd < hg := Nat.div_lt_of_lt_mul hk
  have h2 : k % wd < wd := Nat.mod_lt _ hw
  have h3 : 2 * (k / wd) + q / 2 + 1 ≤ 2 * hg := by omega
  have h4 := Nat.mul_le_mul_right (2 * wd) h3
  rw [Nat.add_mul, Nat.one_mul, Nat.mul_comm (2 * hg)] at h4
  omega
theorem undN_lt {wd hg W H x y k : Nat} (hw : 1 ≤ wd) (hk : k < wd * hg) (hx : x + wd ≤ W) (hy : y + hg ≤ H) : undN wd W x y k < W * H := by
  unfold undN
  have h1 : k / wd < hg := Nat.div_lt_of_lt_mul hk
  have h2 : k % wd < wd := Nat.mod_lt _ hw
  have h3 : y + k / wd + 1 ≤ H := by omega
  have h4 := Nat.mul_le_mul_right W h3
  rw [Nat.add_mul, Nat.one_mul, Nat.mul_comm H] at h4
  omega
theorem ev_fineC {b k q wd : Nat} {u : qM} {P : Int32 → qM → Prop} (hw : 1 ≤ wd) (hw4 : wd ≤ 4) (hk : k < 12) (hq : q < 4) (e : u.1 2 b 12 = nI (2 * wd)) : Ev (f_X0_fineCell b (nI k) (nI q) u) P ↔ P (nI (fineN wd k q)) u := by
  have h2 : 2 * wd / 2 = wd := by omega
  simp (disch := first | omega | decide) only [Nat.reduceAdd, Nat.reduceMul, ↓ev_bd, ↓ev_ck, ↓ev_if, ↓ev_lt, ↓ev_jn, ↓ev_so, ↓reduceIte, ↓ev_within, ↓ev_isBoard, ↓ev_isNumber, ↓ev_foundN, ↓ev_found_1, ↓ev_found_2, ↓ev_found_3, ↓ev_found_4, ↓ev_found_5, true_and, and_true, and_self, eq_self, not_true_eq_false, not_false_eq_true, ite_true, ite_false, true_or, or_true, false_or, or_false, false_and, and_false, ← zi_ni_0, ← zi_ni_1, ← zi_ni_2, ← zi_ni_3, ← zi_ni_4, ← zi_ni_5, ← zi_ni_6, ← zi_ni_7, ← zi_ni_8, ← zi_ni_9, ← zi_ni_10, ← zi_ni_12, ← zi_ni_24, ← zi_ni_25, ← zi_ni_40, ← zi_ni_45, ← zi_ni_47, ← zi_ni_48, ← zi_ni_95, ← zi_ni_96, ← zi_ni_97, ← zi_ni_100, ← zi_ni_144, ← zi_ni_288, nI_ltI, nI_leI, nI_eqI, nlt_T, nlt_F, nle_T, nle_F, neq_T, neq_F, nI_add, pk_mul, nI_clamp, q_inT, ng_lt, ng_tl, ng_le, ng_el, ng_eq, ng_qe, q_b0, q_b1, nar_0, nar_1, b01, b01', q_bn0, q_bn1, nar_n0, nar_n1, si_k, si_i, si_s, si_e, si_2, sl_1, sl_22, sl_k, sl_i, sl_s, sl_e, sp_1, sp_21, sp_22, sc_k, sc_i, sc_e, sc_2, mF_k, mF_2, mF_0, ↓eu_X0_fineCell, e, h2, pk_div, pk_rem', n_rem, q_nzI]
  exact Iff.rfl
theorem ev_undC {b d k wd W x y : Nat} {u : qM} {P : Int32 → qM → Prop} (hw : 1 ≤ wd) (hw4 : wd ≤ 4) (hk : k < 12) (e : u.1 2 b 12 = nI (2 * wd)) (e2 : u.1 2 d 12 = nI W) (e3 : u.1 5 b 3 = nI x) (e4 : u.1 5 b 4 = nI y) : Ev (f_X0_underCell b (nI k) d u) P ↔ P (nI (undN wd W x y k)) u := by
  have h2 : 2 * wd / 2 = wd := by omega
  simp (disch := first | omega | decide) only [Nat.reduceAdd, Nat.reduceMul, ↓ev_bd, ↓ev_ck, ↓ev_if, ↓ev_lt, ↓ev_jn, ↓ev_so, ↓reduceIte, ↓ev_within, ↓ev_isBoard, ↓ev_isNumber, ↓ev_foundN, ↓ev_found_1, ↓ev_found_2, ↓ev_found_3, ↓ev_found_4, ↓ev_found_5, true_and, and_true, and_self, eq_self, not_true_eq_false, not_false_eq_true, ite_true, ite_false, true_or, or_true, false_or, or_false, false_and, and_false, ← zi_ni_0, ← zi_ni_1, ← zi_ni_2, ← zi_ni_3, ← zi_ni_4, ← zi_ni_5, ← zi_ni_6, ← zi_ni_7, ← zi_ni_8, ← zi_ni_9, ← zi_ni_10, ← zi_ni_12, ← zi_ni_24, ← zi_ni_25, ← zi_ni_40, ← zi_ni_45, ← zi_ni_47, ← zi_ni_48, ← zi_ni_95, ← zi_ni_96, ← zi_ni_97, ← zi_ni_100, ← zi_ni_144, ← zi_ni_288, nI_ltI, nI_leI, nI_eqI, nlt_T, nlt_F, nle_T, nle_F, neq_T, neq_F, nI_add, pk_mul, nI_clamp, q_inT, ng_lt, ng_tl, ng_le, ng_el, ng_eq, ng_qe, q_b0, q_b1, nar_0, nar_1, b01, b01', q_bn0, q_bn1, nar_n0, nar_n1, si_k, si_i, si_s, si_e, si_2, sl_1, sl_22, sl_k, sl_i, sl_s, sl_e, sp_1, sp_21, sp_22, sc_k, sc_i, sc_e, sc_2, mF_k, mF_2, mF_0, ↓eu_X0_underCell, e, e2, e3, e4, h2, pk_div, pk_rem', n_rem, q_nzI]
  exact Iff.rfl
