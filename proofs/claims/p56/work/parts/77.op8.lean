theorem nx_xor (a b : Nat) : nI a ^^^ nI b = nI (a ^^^ b) := by
  apply Int32.toBitVec_inj.1
  show BitVec.ofNat 32 a ^^^ BitVec.ofNat 32 b = BitVec.ofNat 32 (a ^^^ b)
  apply BitVec.eq_of_getLsbD_eq
  intro i hi
  simp [hi]
theorem xor_nn {a b : Nat} (ha : a < 2 ^ 31) (hb : b < 2 ^ 31) : (nI 0 ≤ nI a ^^^ nI b) = True := by
  rw [nx_xor]
  exact eq_true (nI_pos' (Nat.xor_lt_two_pow ha hb))
/-- the level that the rim comes to, where a tide is there -/
def td (v : qB) (sz : Nat → Int32) (rw : Nat → Nat → Int32) : Option Int32 := if (v 0 0 = nI 1 ∨ v 0 0 = nI 3) ∧ nI 0 ≤ v 0 6 ∧ v 0 6 < nI 6 ∧ nI 0 < sz (v 0 6).toNatClampNeg then some (rw (v 0 6).toNatClampNeg ((v 0 3).toNatClampNeg % (sz (v 0 6).toNatClampNeg).toNatClampNeg) + v 0 7) else none
def tdC (μ : qM) (v : qB) : Option Int32 := td v (μ.1 33 0) (μ.1 30)
def SZ (sz : Nat → Int32) : Prop := ∀ r, r < 6 → sz r < nI 0 ∨ ∃ m, m ≤ 48 ∧ sz r = nI m
theorem td_some {v : qB} {sz : Nat → Int32} {rw : Nat → Nat → Int32} {x : Int32} {n : Nat} (hn : n ≤ 2000000) (hw : WF0 n v) (hs : SZ sz) (h : td v sz rw = some x) : ∃ r m st : Nat, (v 0 0 = nI 1 ∨ v 0 0 = nI 3) ∧ r < 6 ∧ v 0 6 = nI r ∧ 0 < m ∧ m ≤ 48 ∧ sz r = nI m ∧ st < 2 ^ 31 ∧ v 0 3 = nI st ∧ x = rw r (st % m) + v 0 7 := by
  unfold td at h
  split at h
  · rename_i hc
    obtain ⟨h1, h2, h3, h4⟩ := hc
    obtain ⟨k, wd, hg, st, p, d, rc, pc, a0, a1, a2, a3, a4, a5, a6, a7, a8, a9, b0, b1, b2, b3, b4, b5, b6, b7, b8, b9, c0, c1, c2⟩ := hw
    obtain ⟨r, hr, e6⟩ : ∃ r, r < 6 ∧ v 0 6 = nI r := by
      rcases c0 with c0 | c0
      · rw [c0] at h2
        exact absurd h2 (by decide +kernel)
      · exact c0
    rw [e6, nI_clamp (by omega)] at h4 h
    rcases hs r hr with q | ⟨m, hm, q⟩
    · exact absurd h4 (x_nlt.mpr (Int32.le_of_lt q))
    · rw [q] at h4
      have hm0 : 0 < m := (nI_ltI (by decide) (by omega)).mp h4
      rw [q, a8, nI_clamp (by omega), nI_clamp (by omega)] at h
      exact ⟨r, m, st, h1, hr, e6, hm0, hm, q, by omega, a8, (Option.some.inj h).symm⟩
  · cases h
theorem td_none {v : qB} {sz : Nat → Int32} {rw : Nat → Nat → Int32} {n : Nat} (hn : n ≤ 2000000) (hw : WF0 n v) (hs : SZ sz) (h : td v sz rw = none) : (v 0 0 = nI 0 ∨ v 0 0 = nI 2) ∨ ((v 0 0 = nI 1 ∨ v 0 0 = nI 3) ∧ (v 0 6 = -nI 9 ∨ ∃ r, r < 6 ∧ v 0 6 = nI r ∧ sz r ≤ nI 0)) := by
  obtain ⟨k, wd, hg, st, p, d, rc, pc, a0, a1, a2, a3, a4, a5, a6, a7, a8, a9, b0, b1, b2, b3, b4, b5, b6, b7, b8, b9, c0, c1, c2⟩ := hw
  unfold td at h
  split at h
  · cases h
  · rename_i hc
    rcases (show k = 0 ∨ k = 1 ∨ k = 2 ∨ k = 3 by omega) with rfl | rfl | rfl | rfl
    · exact .inl (.inl a0)
    · right
      refine ⟨.inl a0, ?_⟩
      rcases c0 with c0 | ⟨r, hr, e6⟩
      · exact .inl c0
      · refine .inr ⟨r, hr, e6, x_nlt.mp (fun q => hc ⟨.inl a0, ?_, ?_, ?_⟩)⟩
        · rw [e6]; exact nI_pos' (by omega)
        · rw [e6]; exact nI_lt (by omega) (by decide)
        · rw [e6, nI_clamp (by omega)]; exact q
    · exact .inl (.inr a0)
    · right
      refine ⟨.inr a0, ?_⟩
      rcases c0 with c0 | ⟨r, hr, e6⟩
      · exact .inl c0
      · refine .inr ⟨r, hr, e6, x_nlt.mp (fun q => hc ⟨.inr a0, ?_, ?_, ?_⟩)⟩
        · rw [e6]; exact nI_pos' (by omega)
        · rw [e6]; exact nI_lt (by omega) (by decide)
        · rw [e6, nI_clamp (by omega)]; exact q
theorem ev_hasTide1 {o n : Nat} {x : Int32} {u : qM} {P : Int32 → qM → Prop} (hn : n ≤ 2000000) (hw : WF0 n (cB u o)) (hs : SZ (u.1 33 0)) (h : tdC u (cB u o) = some x) (K : P 1 u) : Ev (f_X0_hasTide o u) P := by
  obtain ⟨r, m, st, h1, h2, h3, h4, h5, h6, h7, h8, h9⟩ := td_some hn hw hs h
  have e3 : u.1 2 o 17 = nI r := h3
  rcases h1 with h1 | h1
  all_goals
    have e1 : u.1 2 o 11 = _ := h1
    simp (disch := first | omega | decide) only [Nat.reduceAdd, Nat.reduceMul, ↓ev_bd, ↓ev_ck, ↓ev_if, ↓ev_lt, ↓ev_jn, ↓ev_so, ↓reduceIte, ↓ev_within, ↓ev_isBoard, ↓ev_isNumber, ↓ev_foundN, ↓ev_found_1, ↓ev_found_2, ↓ev_found_3, ↓ev_found_4, ↓ev_found_5, true_and, and_true, and_self, eq_self, not_true_eq_false, not_false_eq_true, ite_true, ite_false, true_or, or_true, false_or, or_false, false_and, and_false, ← zi_ni_0, ← zi_ni_1, ← zi_ni_2, ← zi_ni_3, ← zi_ni_4, ← zi_ni_5, ← zi_ni_6, ← zi_ni_7, ← zi_ni_8, ← zi_ni_9, ← zi_ni_10, ← zi_ni_12, ← zi_ni_24, ← zi_ni_25, ← zi_ni_40, ← zi_ni_45, ← zi_ni_47, ← zi_ni_48, ← zi_ni_95, ← zi_ni_96, ← zi_ni_97, ← zi_ni_100, ← zi_ni_144, ← zi_ni_288, nI_ltI, nI_leI, nI_eqI, nlt_T, nlt_F, nle_T, nle_F, neq_T, neq_F, nI_add, pk_mul, nI_clamp, q_inT, ng_lt, ng_tl, ng_le, ng_el, ng_eq, ng_qe, q_b0, q_b1, nar_0, nar_1, b01, b01', q_bn0, q_bn1, nar_n0, nar_n1, si_k, si_i, si_s, si_e, si_2, sl_1, sl_22, sl_k, sl_i, sl_s, sl_e, sp_1, sp_21, sp_22, sc_k, sc_i, sc_e, sc_2, mF_k, mF_2, mF_0, ↓eu_X0_hasTide, ↓eu_X0_isTidal, e1, e3, h6]
    exact K
theorem ev_hasTide0 {o n : Nat} {u : qM} {P : Int32 → qM → Prop} (hn : n ≤ 2000000) (hw : WF0 n (cB u o)) (hs : SZ (u.1 33 0)) (h : tdC u (cB u o) = none) (K : P 0 u) : Ev (f_X0_hasTide o u) P := by
  rcases td_none hn hw hs h with h1 | ⟨h1, h2 | ⟨r, hr, h2, h3⟩⟩
  · rcases h1 with h1 | h1
    all_goals
      have e1 : u.1 2 o 11 = _ := h1
      simp (disch := first | omega | decide) only [Nat.reduceAdd, Nat.reduceMul, ↓ev_bd, ↓ev_ck, ↓ev_if, ↓ev_lt, ↓ev_jn, ↓ev_so, ↓reduceIte, ↓ev_within, ↓ev_isBoard, ↓ev_isNumber, ↓ev_foundN, ↓ev_found_1, ↓ev_found_2, ↓ev_found_3, ↓ev_found_4, ↓ev_found_5, true_and, and_true, and_self, eq_self, not_true_eq_false, not_false_eq_true, ite_true, ite_false, true_or, or_true, false_or, or_false, false_and, and_false, ← zi_ni_0, ← zi_ni_1, ← zi_ni_2, ← zi_ni_3, ← zi_ni_4, ← zi_ni_5, ← zi_ni_6, ← zi_ni_7, ← zi_ni_8, ← zi_ni_9, ← zi_ni_10, ← zi_ni_12, ← zi_ni_24, ← zi_ni_25, ← zi_ni_40, ← zi_ni_45, ← zi_ni_47, ← zi_ni_48, ← zi_ni_95, ← zi_ni_96, ← zi_ni_97, ← zi_ni_100, ← zi_ni_144, ← zi_ni_288, nI_ltI, nI_leI, nI_eqI, nlt_T, nlt_F, nle_T, nle_F, neq_T, neq_F, nI_add, pk_mul, nI_clamp, q_inT, ng_lt, ng_tl, ng_le, ng_el, ng_eq, ng_qe, q_b0, q_b1, nar_0, nar_1, b01, b01', q_bn0, q_bn1, nar_n0, nar_n1, si_k, si_i, si_s, si_e, si_2, sl_1, sl_22, sl_k, sl_i, sl_s, sl_e, sp_1, sp_21, sp_22, sc_k, sc_i, sc_e, sc_2, mF_k, mF_2, mF_0, ↓eu_X0_hasTide, ↓eu_X0_isTidal, e1, e1]
      exact K
  · have e3 : u.1 2 o 17 = -nI 9 := h2
    have hx : ¬ (nI 0 ≤ -nI 9 ∧ -nI 9 < nI 6) := by decide +kernel
    rcases h1 with h1 | h1
    all_goals
      have e1 : u.1 2 o 11 = _ := h1
      simp (disch := first | omega | decide) only [Nat.reduceAdd, Nat.reduceMul, ↓ev_bd, ↓ev_ck, ↓ev_if, ↓ev_lt, ↓ev_jn, ↓ev_so, ↓reduceIte, ↓ev_within, ↓ev_isBoard, ↓ev_isNumber, ↓ev_foundN, ↓ev_found_1, ↓ev_found_2, ↓ev_found_3, ↓ev_found_4, ↓ev_found_5, true_and, and_true, and_self, eq_self, not_true_eq_false, not_false_eq_true, ite_true, ite_false, true_or, or_true, false_or, or_false, false_and, and_false, ← zi_ni_0, ← zi_ni_1, ← zi_ni_2, ← zi_ni_3, ← zi_ni_4, ← zi_ni_5, ← zi_ni_6, ← zi_ni_7, ← zi_ni_8, ← zi_ni_9, ← zi_ni_10, ← zi_ni_12, ← zi_ni_24, ← zi_ni_25, ← zi_ni_40, ← zi_ni_45, ← zi_ni_47, ← zi_ni_48, ← zi_ni_95, ← zi_ni_96, ← zi_ni_97, ← zi_ni_100, ← zi_ni_144, ← zi_ni_288, nI_ltI, nI_leI, nI_eqI, nlt_T, nlt_F, nle_T, nle_F, neq_T, neq_F, nI_add, pk_mul, nI_clamp, q_inT, ng_lt, ng_tl, ng_le, ng_el, ng_eq, ng_qe, q_b0, q_b1, nar_0, nar_1, b01, b01', q_bn0, q_bn1, nar_n0, nar_n1, si_k, si_i, si_s, si_e, si_2, sl_1, sl_22, sl_k, sl_i, sl_s, sl_e, sp_1, sp_21, sp_22, sc_k, sc_i, sc_e, sc_2, mF_k, mF_2, mF_0, ↓eu_X0_hasTide, ↓eu_X0_isTidal, e1, e3, hx]
      exact K
  · have e3 : u.1 2 o 17 = nI r := h2
    rcases h1 with h1 | h1
    all_goals
      have e1 : u.1 2 o 11 = _ := h1
      simp (disch := first | omega | decide) only [Nat.reduceAdd, Nat.reduceMul, ↓ev_bd, ↓ev_ck, ↓ev_if, ↓ev_lt, ↓ev_jn, ↓ev_so, ↓reduceIte, ↓ev_within, ↓ev_isBoard, ↓ev_isNumber, ↓ev_foundN, ↓ev_found_1, ↓ev_found_2, ↓ev_found_3, ↓ev_found_4, ↓ev_found_5, true_and, and_true, and_self, eq_self, not_true_eq_false, not_false_eq_true, ite_true, ite_false, true_or, or_true, false_or, or_false, false_and, and_false, ← zi_ni_0, ← zi_ni_1, ← zi_ni_2, ← zi_ni_3, ← zi_ni_4, ← zi_ni_5, ← zi_ni_6, ← zi_ni_7, ← zi_ni_8, ← zi_ni_9, ← zi_ni_10, ← zi_ni_12, ← zi_ni_24, ← zi_ni_25, ← zi_ni_40, ← zi_ni_45, ← zi_ni_47, ← zi_ni_48, ← zi_ni_95, ← zi_ni_96, ← zi_ni_97, ← zi_ni_100, ← zi_ni_144, ← zi_ni_288, nI_ltI, nI_leI, nI_eqI, nlt_T, nlt_F, nle_T, nle_F, neq_T, neq_F, nI_add, pk_mul, nI_clamp, q_inT, ng_lt, ng_tl, ng_le, ng_el, ng_eq, ng_qe, q_b0, q_b1, nar_0, nar_1, b01, b01', q_bn0, q_bn1, nar_n0, nar_n1, si_k, si_i, si_s, si_e, si_2, sl_1, sl_22, sl_k, sl_i, sl_s, sl_e, sp_1, sp_21, sp_22, sc_k, sc_i, sc_e, sc_2, mF_k, mF_2, mF_0, ↓eu_X0_hasTide, ↓eu_X0_isTidal, e1, e3, h3]
      exact K
theorem ev_tideLevel {o n : Nat} {x : Int32} {u : qM} {P : Int32 → qM → Prop} (hn : n ≤ 2000000) (hw : WF0 n (cB u o)) (hs : SZ (u.1 33 0)) (h : tdC u (cB u o) = some x) (K : P x u) : Ev (f_X0_tideLevel o u) P := by
  obtain ⟨r, m, st, h1, h2, h3, h4, h5, h6, h7, h8, h9⟩ := td_some hn hw hs h
  have e3 : u.1 2 o 17 = nI r := h3
  have e4 : u.1 2 o 14 = nI st := h8
  have hl : st % m < m := Nat.mod_lt _ h4
  have hd : st / m ≤ st := Nat.div_le_self _ _
  subst h9
  simp (disch := first | omega | decide) only [Nat.reduceAdd, Nat.reduceMul, ↓ev_bd, ↓ev_ck, ↓ev_if, ↓ev_lt, ↓ev_jn, ↓ev_so, ↓reduceIte, ↓ev_within, ↓ev_isBoard, ↓ev_isNumber, ↓ev_foundN, ↓ev_found_1, ↓ev_found_2, ↓ev_found_3, ↓ev_found_4, ↓ev_found_5, true_and, and_true, and_self, eq_self, not_true_eq_false, not_false_eq_true, ite_true, ite_false, true_or, or_true, false_or, or_false, false_and, and_false, ← zi_ni_0, ← zi_ni_1, ← zi_ni_2, ← zi_ni_3, ← zi_ni_4, ← zi_ni_5, ← zi_ni_6, ← zi_ni_7, ← zi_ni_8, ← zi_ni_9, ← zi_ni_10, ← zi_ni_12, ← zi_ni_24, ← zi_ni_25, ← zi_ni_40, ← zi_ni_45, ← zi_ni_47, ← zi_ni_48, ← zi_ni_95, ← zi_ni_96, ← zi_ni_97, ← zi_ni_100, ← zi_ni_144, ← zi_ni_288, nI_ltI, nI_leI, nI_eqI, nlt_T, nlt_F, nle_T, nle_F, neq_T, neq_F, nI_add, pk_mul, nI_clamp, q_inT, ng_lt, ng_tl, ng_le, ng_el, ng_eq, ng_qe, q_b0, q_b1, nar_0, nar_1, b01, b01', q_bn0, q_bn1, nar_n0, nar_n1, si_k, si_i, si_s, si_e, si_2, sl_1, sl_22, sl_k, sl_i, sl_s, sl_e, sp_1, sp_21, sp_22, sc_k, sc_i, sc_e, sc_2, mF_k, mF_2, mF_0, ↓eu_X0_tideLevel, ↓eu_J9_floorMod_7cf53, e3, e4, h6, q_nzI, pk_div, pk_rem', n_rem, xor_nn]
  exact K
