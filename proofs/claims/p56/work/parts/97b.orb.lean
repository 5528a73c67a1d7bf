theorem sw_v {μ : qM} {k i a b s : Nat} : (q_si (q_si μ k i a (μ.1 k i b)) k i b (μ.1 k i a)).1 k i s = fsn id (μ.1 k i) a b s := by
  unfold fsn
  rw [si_c, si_c]
  by_cases h1 : s = a
  · rw [if_pos h1]
    by_cases h2 : s = b
    · rw [if_pos h2, ← h1, ← h2, if_pos rfl]; rfl
    · rw [if_neg h2, if_pos h1]; rfl
  · rw [if_neg h1, if_neg h1]
    rfl
theorem sw_n {μ : qM} {k i a b k' i' s : Nat} {x y : Int32} (h : ¬ (k' = k ∧ i' = i)) : (q_si (q_si μ k i a x) k i b y).1 k' i' s = μ.1 k' i' s := by
  rw [si_n (fun q => h ⟨q.1, q.2.1⟩), si_n (fun q => h ⟨q.1, q.2.1⟩)]
theorem ev_swap {k i a b N : Nat} {u : qM} {P : Unit → qM → Prop} (hN : q_al k i = N) (h31 : N < 2 ^ 31) (ha : a < N) (hb : b < N) (K : ∀ u', (∀ k' i' s, ¬ (k' = k ∧ i' = i) → u'.1 k' i' s = u.1 k' i' s) → u'.2 = u.2 → (∀ s, u'.1 k i s = fsn id (u.1 k i) a b s) → P () u') : Ev (f_X0_swap k i (nI a) (nI b) u) P := by
  have K1 := K _ (fun k' i' s q => sw_n (x := u.1 k i b) (y := u.1 k i a) (a := a) (b := b) q) rfl (fun s => sw_v)
  simp (disch := first | omega | decide) only [Nat.reduceAdd, Nat.reduceMul, ↓ev_bd, ↓ev_ck, ↓ev_if, ↓ev_lt, ↓ev_jn, ↓ev_so, ↓reduceIte, ↓ev_within, ↓ev_isBoard, ↓ev_isNumber, ↓ev_foundN, ↓ev_found_1, ↓ev_found_2, ↓ev_found_3, ↓ev_found_4, ↓ev_found_5, true_and, and_true, and_self, eq_self, not_true_eq_false, not_false_eq_true, ite_true, ite_false, true_or, or_true, false_or, or_false, false_and, and_false, ← zi_ni_0, ← zi_ni_1, ← zi_ni_2, ← zi_ni_3, ← zi_ni_4, ← zi_ni_5, ← zi_ni_6, ← zi_ni_7, ← zi_ni_8, ← zi_ni_9, ← zi_ni_10, ← zi_ni_12, ← zi_ni_24, ← zi_ni_25, ← zi_ni_40, ← zi_ni_45, ← zi_ni_47, ← zi_ni_48, ← zi_ni_95, ← zi_ni_96, ← zi_ni_97, ← zi_ni_100, ← zi_ni_144, ← zi_ni_288, nI_ltI, nI_leI, nI_eqI, nlt_T, nlt_F, nle_T, nle_F, neq_T, neq_F, nI_add, pk_mul, nI_clamp, q_inT, ng_lt, ng_tl, ng_le, ng_el, ng_eq, ng_qe, q_b0, q_b1, nar_0, nar_1, b01, b01', q_bn0, q_bn1, nar_n0, nar_n1, si_k, si_i, si_s, si_e, si_2, sl_1, sl_22, sl_k, sl_i, sl_s, sl_e, sp_1, sp_21, sp_22, sc_k, sc_i, sc_e, sc_2, mF_k, mF_2, mF_0, ↓eu_X0_swap, hN]
  exact K1
theorem ev_swapShut {o a b : Nat} {u : qM} {P : Unit → qM → Prop} (ha : a < 96) (hb : b < 96) (h1 : u.1 41 o a = 0 ∨ u.1 41 o a = 1) (h2 : u.1 41 o b = 0 ∨ u.1 41 o b = 1) (K : ∀ u', (∀ k' i' s, ¬ (k' = 41 ∧ i' = o) → u'.1 k' i' s = u.1 k' i' s) → u'.2 = u.2 → (∀ s, u'.1 41 o s = fsn id (u.1 41 o) a b s) → P () u') : Ev (f_X0_swapShut o (nI a) (nI b) u) P := by
  have K1 := K _ (fun k' i' s q => sw_n (x := u.1 41 o b) (y := u.1 41 o a) (a := a) (b := b) q) rfl (fun s => sw_v)
  have e1 := nar_b h1
  have e2 := nar_b h2
  simp (disch := first | omega | decide) only [Nat.reduceAdd, Nat.reduceMul, ↓ev_bd, ↓ev_ck, ↓ev_if, ↓ev_lt, ↓ev_jn, ↓ev_so, ↓reduceIte, ↓ev_within, ↓ev_isBoard, ↓ev_isNumber, ↓ev_foundN, ↓ev_found_1, ↓ev_found_2, ↓ev_found_3, ↓ev_found_4, ↓ev_found_5, true_and, and_true, and_self, eq_self, not_true_eq_false, not_false_eq_true, ite_true, ite_false, true_or, or_true, false_or, or_false, false_and, and_false, ← zi_ni_0, ← zi_ni_1, ← zi_ni_2, ← zi_ni_3, ← zi_ni_4, ← zi_ni_5, ← zi_ni_6, ← zi_ni_7, ← zi_ni_8, ← zi_ni_9, ← zi_ni_10, ← zi_ni_12, ← zi_ni_24, ← zi_ni_25, ← zi_ni_40, ← zi_ni_45, ← zi_ni_47, ← zi_ni_48, ← zi_ni_95, ← zi_ni_96, ← zi_ni_97, ← zi_ni_100, ← zi_ni_144, ← zi_ni_288, nI_ltI, nI_leI, nI_eqI, nlt_T, nlt_F, nle_T, nle_F, neq_T, neq_F, nI_add, pk_mul, nI_clamp, q_inT, ng_lt, ng_tl, ng_le, ng_el, ng_eq, ng_qe, q_b0, q_b1, nar_0, nar_1, b01, b01', q_bn0, q_bn1, nar_n0, nar_n1, si_k, si_i, si_s, si_e, si_2, sl_1, sl_22, sl_k, sl_i, sl_s, sl_e, sp_1, sp_21, sp_22, sc_k, sc_i, sc_e, sc_2, mF_k, mF_2, mF_0, ↓eu_X0_swapShut, e1, e2]
  exact K1
theorem ev_swapCells {o c d : Nat} {u : qM} {P : Unit → qM → Prop} (hc : c < 48) (hd : d < 48) (h5 : ∀ s, s < 96 → u.1 41 o s = 0 ∨ u.1 41 o s = 1) (K : ∀ u', (∀ k' i' s, ¬ (i' = o ∧ 37 ≤ k' ∧ k' ≤ 41) → u'.1 k' i' s = u.1 k' i' s) → u'.2 = u.2 → (∀ s, u'.1 37 o s = fsn id (u.1 37 o) c d s) → (∀ s, u'.1 38 o s = fsn id (u.1 38 o) c d s) → (∀ s, u'.1 39 o s = fsn id (fsn id (fsn id (u.1 39 o) c d) (48 + c) (48 + d)) (96 + c) (96 + d) s) → (∀ s, u'.1 40 o s = fsn id (u.1 40 o) (2 * c + 1) (2 * d + 1) s) → (∀ s, u'.1 41 o s = fsn id (u.1 41 o) (2 * c + 1) (2 * d + 1) s) → P () u') : Ev (f_X0_swapCells o (nI c) (nI d) u) P := by
  refine eu_X0_swapCells.mpr (ev_bd.mpr ?_)
  refine ev_swap (al_37 o) (by decide) hc hd (fun u1 a1 b1 c1 => ev_bd.mpr ?_)
  refine ev_swap (al_38 o) (by decide) hc hd (fun u2 a2 b2 c2 => ?_)
  obtain ⟨f, hf⟩ : ∃ f, q_fu = f + 1 + 1 + 1 + 1 := ⟨3996, rfl⟩
  rw [hf]
  try simp (disch := first | omega | decide) only [Nat.reduceAdd, Nat.reduceMul, ↓ev_bd, ↓ev_ck, ↓ev_if, ↓ev_lt, ↓ev_jn, ↓ev_so, ↓reduceIte, ↓ev_within, ↓ev_isBoard, ↓ev_isNumber, ↓ev_foundN, ↓ev_found_1, ↓ev_found_2, ↓ev_found_3, ↓ev_found_4, ↓ev_found_5, true_and, and_true, and_self, eq_self, not_true_eq_false, not_false_eq_true, ite_true, ite_false, true_or, or_true, false_or, or_false, false_and, and_false, ← zi_ni_0, ← zi_ni_1, ← zi_ni_2, ← zi_ni_3, ← zi_ni_4, ← zi_ni_5, ← zi_ni_6, ← zi_ni_7, ← zi_ni_8, ← zi_ni_9, ← zi_ni_10, ← zi_ni_12, ← zi_ni_24, ← zi_ni_25, ← zi_ni_40, ← zi_ni_45, ← zi_ni_47, ← zi_ni_48, ← zi_ni_95, ← zi_ni_96, ← zi_ni_97, ← zi_ni_100, ← zi_ni_144, ← zi_ni_288, nI_ltI, nI_leI, nI_eqI, nlt_T, nlt_F, nle_T, nle_F, neq_T, neq_F, nI_add, pk_mul, nI_clamp, q_inT, ng_lt, ng_tl, ng_le, ng_el, ng_eq, ng_qe, q_b0, q_b1, nar_0, nar_1, b01, b01', q_bn0, q_bn1, nar_n0, nar_n1, si_k, si_i, si_s, si_e, si_2, sl_1, sl_22, sl_k, sl_i, sl_s, sl_e, sp_1, sp_21, sp_22, sc_k, sc_i, sc_e, sc_2, mF_k, mF_2, mF_0, ↓eu_L_X0_swapCells_20]
  refine ev_swap (al_39 o) (by decide) (by omega) (by omega) (fun u3 a3 b3 c3 => ?_)
  try simp (disch := first | omega | decide) only [Nat.reduceAdd, Nat.reduceMul, ↓ev_bd, ↓ev_ck, ↓ev_if, ↓ev_lt, ↓ev_jn, ↓ev_so, ↓reduceIte, ↓ev_within, ↓ev_isBoard, ↓ev_isNumber, ↓ev_foundN, ↓ev_found_1, ↓ev_found_2, ↓ev_found_3, ↓ev_found_4, ↓ev_found_5, true_and, and_true, and_self, eq_self, not_true_eq_false, not_false_eq_true, ite_true, ite_false, true_or, or_true, false_or, or_false, false_and, and_false, ← zi_ni_0, ← zi_ni_1, ← zi_ni_2, ← zi_ni_3, ← zi_ni_4, ← zi_ni_5, ← zi_ni_6, ← zi_ni_7, ← zi_ni_8, ← zi_ni_9, ← zi_ni_10, ← zi_ni_12, ← zi_ni_24, ← zi_ni_25, ← zi_ni_40, ← zi_ni_45, ← zi_ni_47, ← zi_ni_48, ← zi_ni_95, ← zi_ni_96, ← zi_ni_97, ← zi_ni_100, ← zi_ni_144, ← zi_ni_288, nI_ltI, nI_leI, nI_eqI, nlt_T, nlt_F, nle_T, nle_F, neq_T, neq_F, nI_add, pk_mul, nI_clamp, q_inT, ng_lt, ng_tl, ng_le, ng_el, ng_eq, ng_qe, q_b0, q_b1, nar_0, nar_1, b01, b01', q_bn0, q_bn1, nar_n0, nar_n1, si_k, si_i, si_s, si_e, si_2, sl_1, sl_22, sl_k, sl_i, sl_s, sl_e, sp_1, sp_21, sp_22, sc_k, sc_i, sc_e, sc_2, mF_k, mF_2, mF_0, ↓eu_L_X0_swapCells_20]
  refine ev_swap (al_39 o) (by decide) (by omega) (by omega) (fun u4 a4 b4 c4 => ?_)
  try simp (disch := first | omega | decide) only [Nat.reduceAdd, Nat.reduceMul, ↓ev_bd, ↓ev_ck, ↓ev_if, ↓ev_lt, ↓ev_jn, ↓ev_so, ↓reduceIte, ↓ev_within, ↓ev_isBoard, ↓ev_isNumber, ↓ev_foundN, ↓ev_found_1, ↓ev_found_2, ↓ev_found_3, ↓ev_found_4, ↓ev_found_5, true_and, and_true, and_self, eq_self, not_true_eq_false, not_false_eq_true, ite_true, ite_false, true_or, or_true, false_or, or_false, false_and, and_false, ← zi_ni_0, ← zi_ni_1, ← zi_ni_2, ← zi_ni_3, ← zi_ni_4, ← zi_ni_5, ← zi_ni_6, ← zi_ni_7, ← zi_ni_8, ← zi_ni_9, ← zi_ni_10, ← zi_ni_12, ← zi_ni_24, ← zi_ni_25, ← zi_ni_40, ← zi_ni_45, ← zi_ni_47, ← zi_ni_48, ← zi_ni_95, ← zi_ni_96, ← zi_ni_97, ← zi_ni_100, ← zi_ni_144, ← zi_ni_288, nI_ltI, nI_leI, nI_eqI, nlt_T, nlt_F, nle_T, nle_F, neq_T, neq_F, nI_add, pk_mul, nI_clamp, q_inT, ng_lt, ng_tl, ng_le, ng_el, ng_eq, ng_qe, q_b0, q_b1, nar_0, nar_1, b01, b01', q_bn0, q_bn1, nar_n0, nar_n1, si_k, si_i, si_s, si_e, si_2, sl_1, sl_22, sl_k, sl_i, sl_s, sl_e, sp_1, sp_21, sp_22, sc_k, sc_i, sc_e, sc_2, mF_k, mF_2, mF_0, ↓eu_L_X0_swapCells_20]
  refine ev_swap (al_39 o) (by decide) (by omega) (by omega) (fun u5 a5 b5 c5 => ?_)
  try simp (disch := first | omega | decide) only [Nat.reduceAdd, Nat.reduceMul, ↓ev_bd, ↓ev_ck, ↓ev_if, ↓ev_lt, ↓ev_jn, ↓ev_so, ↓reduceIte, ↓ev_within, ↓ev_isBoard, ↓ev_isNumber, ↓ev_foundN, ↓ev_found_1, ↓ev_found_2, ↓ev_found_3, ↓ev_found_4, ↓ev_found_5, true_and, and_true, and_self, eq_self, not_true_eq_false, not_false_eq_true, ite_true, ite_false, true_or, or_true, false_or, or_false, false_and, and_false, ← zi_ni_0, ← zi_ni_1, ← zi_ni_2, ← zi_ni_3, ← zi_ni_4, ← zi_ni_5, ← zi_ni_6, ← zi_ni_7, ← zi_ni_8, ← zi_ni_9, ← zi_ni_10, ← zi_ni_12, ← zi_ni_24, ← zi_ni_25, ← zi_ni_40, ← zi_ni_45, ← zi_ni_47, ← zi_ni_48, ← zi_ni_95, ← zi_ni_96, ← zi_ni_97, ← zi_ni_100, ← zi_ni_144, ← zi_ni_288, nI_ltI, nI_leI, nI_eqI, nlt_T, nlt_F, nle_T, nle_F, neq_T, neq_F, nI_add, pk_mul, nI_clamp, q_inT, ng_lt, ng_tl, ng_le, ng_el, ng_eq, ng_qe, q_b0, q_b1, nar_0, nar_1, b01, b01', q_bn0, q_bn1, nar_n0, nar_n1, si_k, si_i, si_s, si_e, si_2, sl_1, sl_22, sl_k, sl_i, sl_s, sl_e, sp_1, sp_21, sp_22, sc_k, sc_i, sc_e, sc_2, mF_k, mF_2, mF_0, ↓eu_L_X0_swapCells_20]
  refine ev_swap (al_40 o) (by decide) (by omega) (by omega) (fun u6 a6 b6 c6 => ?_)
  have e41 : u6.1 41 o = u.1 41 o := funext (fun s => by rw [a6 41 o s (by omega), a5 41 o s (by omega), a4 41 o s (by omega), a3 41 o s (by omega), a2 41 o s (by omega), a1 41 o s (by omega)])
  try simp (disch := first | omega | decide) only [Nat.reduceAdd, Nat.reduceMul, ↓ev_bd, ↓ev_ck, ↓ev_if, ↓ev_lt, ↓ev_jn, ↓ev_so, ↓reduceIte, ↓ev_within, ↓ev_isBoard, ↓ev_isNumber, ↓ev_foundN, ↓ev_found_1, ↓ev_found_2, ↓ev_found_3, ↓ev_found_4, ↓ev_found_5, true_and, and_true, and_self, eq_self, not_true_eq_false, not_false_eq_true, ite_true, ite_false, true_or, or_true, false_or, or_false, false_and, and_false, ← zi_ni_0, ← zi_ni_1, ← zi_ni_2, ← zi_ni_3, ← zi_ni_4, ← zi_ni_5, ← zi_ni_6, ← zi_ni_7, ← zi_ni_8, ← zi_ni_9, ← zi_ni_10, ← zi_ni_12, ← zi_ni_24, ← zi_ni_25, ← zi_ni_40, ← zi_ni_45, ← zi_ni_47, ← zi_ni_48, ← zi_ni_95, ← zi_ni_96, ← zi_ni_97, ← zi_ni_100, ← zi_ni_144, ← zi_ni_288, nI_ltI, nI_leI, nI_eqI, nlt_T, nlt_F, nle_T, nle_F, neq_T, neq_F, nI_add, pk_mul, nI_clamp, q_inT, ng_lt, ng_tl, ng_le, ng_el, ng_eq, ng_qe, q_b0, q_b1, nar_0, nar_1, b01, b01', q_bn0, q_bn1, nar_n0, nar_n1, si_k, si_i, si_s, si_e, si_2, sl_1, sl_22, sl_k, sl_i, sl_s, sl_e, sp_1, sp_21, sp_22, sc_k, sc_i, sc_e, sc_2, mF_k, mF_2, mF_0, ↓eu_L_X0_swapCells_20]
  refine ev_swapShut (by omega) (by omega) (by rw [e41]; exact h5 _ (by omega)) (by rw [e41]; exact h5 _ (by omega)) (fun u7 a7 b7 c7 => ?_)
  try simp (disch := first | omega | decide) only [Nat.reduceAdd, Nat.reduceMul, ↓ev_bd, ↓ev_ck, ↓ev_if, ↓ev_lt, ↓ev_jn, ↓ev_so, ↓reduceIte, ↓ev_within, ↓ev_isBoard, ↓ev_isNumber, ↓ev_foundN, ↓ev_found_1, ↓ev_found_2, ↓ev_found_3, ↓ev_found_4, ↓ev_found_5, true_and, and_true, and_self, eq_self, not_true_eq_false, not_false_eq_true, ite_true, ite_false, true_or, or_true, false_or, or_false, false_and, and_false, ← zi_ni_0, ← zi_ni_1, ← zi_ni_2, ← zi_ni_3, ← zi_ni_4, ← zi_ni_5, ← zi_ni_6, ← zi_ni_7, ← zi_ni_8, ← zi_ni_9, ← zi_ni_10, ← zi_ni_12, ← zi_ni_24, ← zi_ni_25, ← zi_ni_40, ← zi_ni_45, ← zi_ni_47, ← zi_ni_48, ← zi_ni_95, ← zi_ni_96, ← zi_ni_97, ← zi_ni_100, ← zi_ni_144, ← zi_ni_288, nI_ltI, nI_leI, nI_eqI, nlt_T, nlt_F, nle_T, nle_F, neq_T, neq_F, nI_add, pk_mul, nI_clamp, q_inT, ng_lt, ng_tl, ng_le, ng_el, ng_eq, ng_qe, q_b0, q_b1, nar_0, nar_1, b01, b01', q_bn0, q_bn1, nar_n0, nar_n1, si_k, si_i, si_s, si_e, si_2, sl_1, sl_22, sl_k, sl_i, sl_s, sl_e, sp_1, sp_21, sp_22, sc_k, sc_i, sc_e, sc_2, mF_k, mF_2, mF_0, ↓eu_L_X0_swapCells_20]
  refine K u7 (fun k' i' s q => ?_) (b7.trans (b6.trans (b5.trans (b4.trans (b3.trans (b2.trans b1)))))) (fun s => ?_) (fun s => ?_) (fun s => ?_) (fun s => ?_) (fun s => ?_)
  · rw [a7 k' i' s (by omega), a6 k' i' s (by omega), a5 k' i' s (by omega), a4 k' i' s (by omega), a3 k' i' s (by omega), a2 k' i' s (by omega), a1 k' i' s (by omega)]
  · rw [a7 37 o s (by omega), a6 37 o s (by omega), a5 37 o s (by omega), a4 37 o s (by omega), a3 37 o s (by omega), a2 37 o s (by omega)]
    exact c1 s
  · rw [a7 38 o s (by omega), a6 38 o s (by omega), a5 38 o s (by omega), a4 38 o s (by omega), a3 38 o s (by omega), c2 s]
    rw [show u1.1 38 o = u.1 38 o from funext (fun s => a1 38 o s (by omega))]
  · rw [a7 39 o s (by omega), a6 39 o s (by omega), c5 s, show u4.1 39 o = _ from funext c4, show u3.1 39 o = _ from funext c3, show u2.1 39 o = u.1 39 o from funext (fun s => (a2 39 o s (by omega)).trans (a1 39 o s (by omega)))]
    rw [show 0 * 48 + c = c by omega, show 0 * 48 + d = d by omega, show 1 * 48 + c = 48 + c by omega, show 1 * 48 + d = 48 + d by omega, show 2 * 48 + c = 96 + c by omega, show 2 * 48 + d = 96 + d by omega]
  · rw [a7 40 o s (by omega), c6 s, show u5.1 40 o = u.1 40 o from funext (fun s => (a5 40 o s (by omega)).trans ((a4 40 o s (by omega)).trans ((a3 40 o s (by omega)).trans ((a2 40 o s (by omega)).trans (a1 40 o s (by omega))))))]
  · rw [c7 s, e41]
theorem ev_swapR {o a b : Nat} {u : qM} {P : Unit → qM → Prop} (ha : a < 96) (hb : b < 96) (h5 : ∀ s, s < 96 → u.1 41 o s = 0 ∨ u.1 41 o s = 1) (K : ∀ u', (∀ k' i' s, ¬ (i' = o ∧ (k' = 40 ∨ k' = 41)) → u'.1 k' i' s = u.1 k' i' s) → u'.2 = u.2 → (∀ s, u'.1 40 o s = fsn (fun x => -x) (u.1 40 o) a b s) → (∀ s, u'.1 41 o s = fsn id (u.1 41 o) a b s) → P () u') : Ev (f_X0_swapRightSides o (nI a) (nI b) u) P := by
  by_cases hab : a = b
  · subst hab
    have key : ∀ u1 : qM, u1 = q_si u 40 o a (-(u.1 40 o a)) → Ev (f_X0_swapShut o (nI a) (nI a) u1) P := fun u1 h1 => by
      have e41 : u1.1 41 o = u.1 41 o := by rw [h1, si_k (by decide)]
      refine ev_swapShut ha ha (by rw [e41]; exact h5 _ ha) (by rw [e41]; exact h5 _ ha) (fun u2 a2 b2 c2 => ?_)
      refine K u2 (fun k' i' s q => ?_) (b2.trans (by rw [h1]; rfl)) (fun s => ?_) (fun s => ?_)
      · rw [a2 k' i' s (by omega), h1, si_n (by omega)]
      · rw [a2 40 o s (by omega), h1, si_c]
        unfold fsn
        by_cases q : s = a
        · rw [if_pos q, if_pos q]
        · rw [if_neg q, if_neg q]
      · rw [c2 s, e41]
    have k1 := key _ rfl
    simp (disch := first | omega | decide) only [Nat.reduceAdd, Nat.reduceMul, ↓ev_bd, ↓ev_ck, ↓ev_if, ↓ev_lt, ↓ev_jn, ↓ev_so, ↓reduceIte, ↓ev_within, ↓ev_isBoard, ↓ev_isNumber, ↓ev_foundN, ↓ev_found_1, ↓ev_found_2, ↓ev_found_3, ↓ev_found_4, ↓ev_found_5, true_and, and_true, and_self, eq_self, not_true_eq_false, not_false_eq_true, ite_true, ite_false, true_or, or_true, false_or, or_false, false_and, and_false, ← zi_ni_0, ← zi_ni_1, ← zi_ni_2, ← zi_ni_3, ← zi_ni_4, ← zi_ni_5, ← zi_ni_6, ← zi_ni_7, ← zi_ni_8, ← zi_ni_9, ← zi_ni_10, ← zi_ni_12, ← zi_ni_24, ← zi_ni_25, ← zi_ni_40, ← zi_ni_45, ← zi_ni_47, ← zi_ni_48, ← zi_ni_95, ← zi_ni_96, ← zi_ni_97, ← zi_ni_100, ← zi_ni_144, ← zi_ni_288, nI_ltI, nI_leI, nI_eqI, nlt_T, nlt_F, nle_T, nle_F, neq_T, neq_F, nI_add, pk_mul, nI_clamp, q_inT, ng_lt, ng_tl, ng_le, ng_el, ng_eq, ng_qe, q_b0, q_b1, nar_0, nar_1, b01, b01', q_bn0, q_bn1, nar_n0, nar_n1, si_k, si_i, si_s, si_e, si_2, sl_1, sl_22, sl_k, sl_i, sl_s, sl_e, sp_1, sp_21, sp_22, sc_k, sc_i, sc_e, sc_2, mF_k, mF_2, mF_0, ↓eu_X0_swapRightSides]
    exact k1
  · have key : ∀ u1 : qM, (∀ k' i' s, ¬ (k' = 40 ∧ i' = o) → u1.1 k' i' s = u.1 k' i' s) → u1.2 = u.2 → (∀ s, u1.1 40 o s = fsn (fun x => -x) (u.1 40 o) a b s) → Ev (f_X0_swapShut o (nI a) (nI b) u1) P := fun u1 h1 h2 h3 => by
      have e41 : u1.1 41 o = u.1 41 o := funext (fun s => h1 41 o s (by omega))
      refine ev_swapShut ha hb (by rw [e41]; exact h5 _ ha) (by rw [e41]; exact h5 _ hb) (fun u2 a2 b2 c2 => ?_)
      refine K u2 (fun k' i' s q => ?_) (b2.trans h2) (fun s => ?_) (fun s => ?_)
      · rw [a2 k' i' s (by omega), h1 k' i' s (by omega)]
      · rw [a2 40 o s (by omega), h3 s]
      · rw [c2 s, e41]
    refine eu_X0_swapRightSides.mpr ?_
    have hne : ¬ nI a = nI b := fun q => hab ((nI_eq (by omega) (by omega)).mp q)
    refine (show Ev (if nI a = nI b then _ else q_bd (f_X0_swap 40 o (nI a) (nI b) u) _) P from ?_)
    rw [if_neg hne]
    refine ev_bd.mpr (ev_swap (al_40 o) (by decide) ha hb (fun u1 a1 b1 c1 => ?_))
    have va : u1.1 40 o a = u.1 40 o b := by
      rw [c1]
      exact if_pos rfl
    have vb : u1.1 40 o b = u.1 40 o a := by
      rw [c1]
      exact (if_neg (fun q => hab q.symm)).trans (if_pos rfl)
    have k1 := key (q_si (q_si u1 40 o a (-(u.1 40 o b))) 40 o b (-(u.1 40 o a))) (fun k' i' s q => by rw [sw_n q]; exact a1 k' i' s q) b1 (fun s => by
      rw [si_c, si_c, c1]
      unfold fsn
      by_cases q : s = a
      · rw [if_neg (fun z => hab (q.symm.trans z)), if_pos q, if_pos q]
      · rw [if_neg q, if_neg q, if_neg q]
        by_cases q2 : s = b
        · rw [if_pos q2, if_pos q2]
        · rw [if_neg q2, if_neg q2, if_neg q2])
    have hba : ¬ b = a := fun q => hab q.symm
    simp (disch := first | omega | decide) only [Nat.reduceAdd, Nat.reduceMul, ↓ev_bd, ↓ev_ck, ↓ev_if, ↓ev_lt, ↓ev_jn, ↓ev_so, ↓reduceIte, ↓ev_within, ↓ev_isBoard, ↓ev_isNumber, ↓ev_foundN, ↓ev_found_1, ↓ev_found_2, ↓ev_found_3, ↓ev_found_4, ↓ev_found_5, true_and, and_true, and_self, eq_self, not_true_eq_false, not_false_eq_true, ite_true, ite_false, true_or, or_true, false_or, or_false, false_and, and_false, ← zi_ni_0, ← zi_ni_1, ← zi_ni_2, ← zi_ni_3, ← zi_ni_4, ← zi_ni_5, ← zi_ni_6, ← zi_ni_7, ← zi_ni_8, ← zi_ni_9, ← zi_ni_10, ← zi_ni_12, ← zi_ni_24, ← zi_ni_25, ← zi_ni_40, ← zi_ni_45, ← zi_ni_47, ← zi_ni_48, ← zi_ni_95, ← zi_ni_96, ← zi_ni_97, ← zi_ni_100, ← zi_ni_144, ← zi_ni_288, nI_ltI, nI_leI, nI_eqI, nlt_T, nlt_F, nle_T, nle_F, neq_T, neq_F, nI_add, pk_mul, nI_clamp, q_inT, ng_lt, ng_tl, ng_le, ng_el, ng_eq, ng_qe, q_b0, q_b1, nar_0, nar_1, b01, b01', q_bn0, q_bn1, nar_n0, nar_n1, si_k, si_i, si_s, si_e, si_2, sl_1, sl_22, sl_k, sl_i, sl_s, sl_e, sp_1, sp_21, sp_22, sc_k, sc_i, sc_e, sc_2, mF_k, mF_2, mF_0, va, vb]
    exact k1

