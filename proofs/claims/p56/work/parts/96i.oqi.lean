def vV (x : Int32) : Int32 := if nI 0 ≤ x then (if x / nI 4 ≤ 100000 then x / nI 4 else 100000) else nI 0
def cl (y : Int32) : Int32 := if 0 < (if y < 100000 then y else 100000) then (if y < 100000 then y else 100000) else 0
theorem x_100k : (100000 : Int32).toInt = 100000 := by decide +kernel
theorem nI0 : (nI 0).toInt = 0 := by decide +kernel
theorem cl_neg {y : Int32} (h : y.toInt ≤ 0) : cl y = nI 0 := by
  have h1 : y < 100000 := by rw [x_lt, x_100k]; omega
  unfold cl
  rw [if_pos h1, if_neg (by rw [x_lt]; have : (0 : Int32).toInt = 0 := nI0; omega)]
  rfl
theorem cl_pos {y : Int32} (h : 0 ≤ y.toInt) : cl y = if y ≤ 100000 then y else 100000 := by
  have z : (0 : Int32).toInt = 0 := nI0
  unfold cl
  by_cases h1 : y < 100000
  · have h2 := h1
    rw [x_lt, x_100k] at h2
    rw [if_pos h1, if_pos (show y ≤ 100000 by rw [x_le, x_100k]; omega)]
    by_cases h3 : 0 < y
    · rw [if_pos h3]
    · rw [if_neg h3]
      rw [x_lt, z] at h3
      exact Int32.toInt_inj.mp (by omega)
  · have h2 := h1
    rw [x_lt, x_100k] at h2
    rw [if_neg h1, if_pos (by decide +kernel)]
    by_cases h3 : y ≤ 100000
    · rw [if_pos h3]
      rw [x_le, x_100k] at h3
      exact Int32.toInt_inj.mp (by rw [x_100k]; omega)
    · rw [if_neg h3]
theorem vV_bd (x : Int32) : 0 ≤ (vV x).toInt ∧ (vV x).toInt ≤ 100000 := by
  unfold vV
  split
  · rename_i h
    rw [x_le, nI0] at h
    have hx : x.toInt < 2147483648 := by have := x.toInt_lt; omega
    have h4 : (x / nI 4).toInt = x.toInt.tdiv 4 := (z_div (x := x) (d := 4) (by decide) (by decide) (m := 2147483647) (by decide) (by omega) (by omega)).1
    have h5 : 0 ≤ x.toInt.tdiv 4 := Int.tdiv_nonneg h (by decide)
    split
    · rename_i h6
      rw [x_le, x_100k] at h6
      omega
    · rw [x_100k]; decide
  · rw [nI0]; decide
theorem ev_fdiv {x : Int32} {u : qM} {P : Int32 → qM → Prop} (K : ∀ y, cl y = vV x → P y u) : Ev (f_J9_floorDiv_7cf53 x 4 u) P := by
  have hx : x.toInt < 2147483648 := by have := x.toInt_lt; omega
  have hx2 : -2147483648 ≤ x.toInt := by have := x.le_toInt; omega
  have e4 : (nI 4).toInt = 4 := by decide +kernel
  have h4 : (x / nI 4).toInt = x.toInt.tdiv 4 := by
    rw [Int32.toInt_div, e4]
    have h5 : x.toInt.tdiv 4 = x.toInt.tdiv 4 := rfl
    have h6 : (x.toInt.tdiv 4).natAbs ≤ x.toInt.natAbs / 4 := by
      rw [Int.natAbs_tdiv]
      exact Nat.le_refl _
    exact bm32 (by omega) (by omega)
  have h6 : (x.toInt.tdiv 4).natAbs ≤ x.toInt.natAbs / 4 := by
    rw [Int.natAbs_tdiv]
    exact Nat.le_refl _
  by_cases h : nI 0 ≤ x
  · have h' := h
    rw [x_le, nI0] at h'
    have hv : cl (x / nI 4) = vV x := by
      unfold vV
      rw [if_pos h]
      exact cl_pos (by rw [h4]; exact Int.tdiv_nonneg h' (by decide))
    obtain ⟨a, ha, rfl⟩ : ∃ a : Nat, a < 2 ^ 31 ∧ x = nI a := ⟨x.toInt.toNat, by omega, Int32.toInt_inj.mp (by rw [nI_toInt (by omega)]; omega)⟩
    have hx' := xor_nn (a := a) (b := 4) ha (by decide)
    simp (disch := first | omega | decide) only [Nat.reduceAdd, Nat.reduceMul, ↓ev_bd, ↓ev_ck, ↓ev_if, ↓ev_lt, ↓ev_jn, ↓ev_so, ↓reduceIte, ↓ev_within, ↓ev_isBoard, ↓ev_isNumber, ↓ev_foundN, ↓ev_found_1, ↓ev_found_2, ↓ev_found_3, ↓ev_found_4, ↓ev_found_5, true_and, and_true, and_self, eq_self, not_true_eq_false, not_false_eq_true, ite_true, ite_false, true_or, or_true, false_or, or_false, false_and, and_false, ← zi_ni_0, ← zi_ni_1, ← zi_ni_2, ← zi_ni_3, ← zi_ni_4, ← zi_ni_5, ← zi_ni_6, ← zi_ni_7, ← zi_ni_8, ← zi_ni_9, ← zi_ni_10, ← zi_ni_12, ← zi_ni_24, ← zi_ni_25, ← zi_ni_40, ← zi_ni_45, ← zi_ni_47, ← zi_ni_48, ← zi_ni_95, ← zi_ni_96, ← zi_ni_97, ← zi_ni_100, ← zi_ni_144, ← zi_ni_288, nI_ltI, nI_leI, nI_eqI, nlt_T, nlt_F, nle_T, nle_F, neq_T, neq_F, nI_add, pk_mul, nI_clamp, q_inT, ng_lt, ng_tl, ng_le, ng_el, ng_eq, ng_qe, q_b0, q_b1, nar_0, nar_1, b01, b01', q_bn0, q_bn1, nar_n0, nar_n1, si_k, si_i, si_s, si_e, si_2, sl_1, sl_22, sl_k, sl_i, sl_s, sl_e, sp_1, sp_21, sp_22, sc_k, sc_i, sc_e, sc_2, mF_k, mF_2, mF_0, ↓eu_J9_floorDiv_7cf53, hx', q_nzI, pk_div]
    have := K _ hv
    rw [pk_div] at this
    · exact this
    all_goals first | omega | decide
  · have hv0 : vV x = nI 0 := if_neg h
    have h' := h
    rw [x_le, nI0] at h'
    have h7 : x.toInt.tdiv 4 ≤ 0 := by
      have := Int.tdiv_nonneg (a := -x.toInt) (b := 4) (by omega) (by decide)
      rw [Int.neg_tdiv] at this
      omega
    have k1 := K (x / nI 4) (by rw [hv0]; exact cl_neg (by rw [h4]; exact h7))
    have k2 := K (x / nI 4 - nI 1) (by
      rw [hv0]
      have e1 : (nI 1).toInt = 1 := by decide +kernel
      exact cl_neg (by rw [z_sub (by rw [h4, e1]; omega) (by rw [h4, e1]; omega), h4, e1]; omega))
    simp (disch := first | omega | decide) only [Nat.reduceAdd, Nat.reduceMul, ↓ev_bd, ↓ev_ck, ↓ev_if, ↓ev_lt, ↓ev_jn, ↓ev_so, ↓reduceIte, ↓ev_within, ↓ev_isBoard, ↓ev_isNumber, ↓ev_foundN, ↓ev_found_1, ↓ev_found_2, ↓ev_found_3, ↓ev_found_4, ↓ev_found_5, true_and, and_true, and_self, eq_self, not_true_eq_false, not_false_eq_true, ite_true, ite_false, true_or, or_true, false_or, or_false, false_and, and_false, ← zi_ni_0, ← zi_ni_1, ← zi_ni_2, ← zi_ni_3, ← zi_ni_4, ← zi_ni_5, ← zi_ni_6, ← zi_ni_7, ← zi_ni_8, ← zi_ni_9, ← zi_ni_10, ← zi_ni_12, ← zi_ni_24, ← zi_ni_25, ← zi_ni_40, ← zi_ni_45, ← zi_ni_47, ← zi_ni_48, ← zi_ni_95, ← zi_ni_96, ← zi_ni_97, ← zi_ni_100, ← zi_ni_144, ← zi_ni_288, nI_ltI, nI_leI, nI_eqI, nlt_T, nlt_F, nle_T, nle_F, neq_T, neq_F, nI_add, pk_mul, nI_clamp, q_inT, ng_lt, ng_tl, ng_le, ng_el, ng_eq, ng_qe, q_b0, q_b1, nar_0, nar_1, b01, b01', q_bn0, q_bn1, nar_n0, nar_n1, si_k, si_i, si_s, si_e, si_2, sl_1, sl_22, sl_k, sl_i, sl_s, sl_e, sp_1, sp_21, sp_22, sc_k, sc_i, sc_e, sc_2, mF_k, mF_2, mF_0, ↓eu_J9_floorDiv_7cf53, q_nzI]
    repeat' split
    all_goals first | exact k1 | exact k2
theorem ev_sumC {b o2 k wd hg : Nat} {x1 x4 x6 : Int32} {u : qM} {e : Int32 → qM → Option (Int32 × qM)} {P : Int32 → qM → Prop} (hw : 1 ≤ wd) (hw4 : wd ≤ 4) (hg3 : hg ≤ 3) (hk : k < wd * hg) (e2 : u.1 2 b 12 = nI (2 * wd)) (K : Ev (e (x6 + u.1 38 b (fineN wd k 0) + u.1 38 b (fineN wd k 1) + u.1 38 b (fineN wd k 2) + u.1 38 b (fineN wd k 3)) u) P) : Ev (L_X0_giveUp_36 b o2 x1 (nI k) x4 q_fu x6 (nI 0) u e) P := by
  have hk2 : k < 12 := Nat.lt_of_lt_of_le hk (Nat.mul_le_mul hw4 hg3)
  have hlt : ∀ q, q < 4 → fineN wd k q < 48 := fun q hq => Nat.lt_of_lt_of_le (fineN_lt hw hk hq) (Nat.mul_le_mul (Nat.mul_le_mul_left 2 hw4) (Nat.mul_le_mul_left 2 hg3))
  have l0 := hlt 0 (by decide)
  have l1 := hlt 1 (by decide)
  have l2 := hlt 2 (by decide)
  have l3 := hlt 3 (by decide)
  have f0 : ∀ P, Ev (f_X0_fineCell b (nI k) (nI 0) u) P ↔ P (nI (fineN wd k 0)) u := fun P => ev_fineC hw hw4 hk2 (by decide) e2
  have f1 : ∀ P, Ev (f_X0_fineCell b (nI k) (nI 1) u) P ↔ P (nI (fineN wd k 1)) u := fun P => ev_fineC hw hw4 hk2 (by decide) e2
  have f2 : ∀ P, Ev (f_X0_fineCell b (nI k) (nI 2) u) P ↔ P (nI (fineN wd k 2)) u := fun P => ev_fineC hw hw4 hk2 (by decide) e2
  have f3 : ∀ P, Ev (f_X0_fineCell b (nI k) (nI 3) u) P ↔ P (nI (fineN wd k 3)) u := fun P => ev_fineC hw hw4 hk2 (by decide) e2
  obtain ⟨f, hf⟩ : ∃ f, q_fu = f + 1 + 1 + 1 + 1 + 1 := ⟨3995, rfl⟩
  rw [hf]
  simp (disch := first | omega | decide) only [Nat.reduceAdd, Nat.reduceMul, ↓ev_bd, ↓ev_ck, ↓ev_if, ↓ev_lt, ↓ev_jn, ↓ev_so, ↓reduceIte, ↓ev_within, ↓ev_isBoard, ↓ev_isNumber, ↓ev_foundN, ↓ev_found_1, ↓ev_found_2, ↓ev_found_3, ↓ev_found_4, ↓ev_found_5, true_and, and_true, and_self, eq_self, not_true_eq_false, not_false_eq_true, ite_true, ite_false, true_or, or_true, false_or, or_false, false_and, and_false, ← zi_ni_0, ← zi_ni_1, ← zi_ni_2, ← zi_ni_3, ← zi_ni_4, ← zi_ni_5, ← zi_ni_6, ← zi_ni_7, ← zi_ni_8, ← zi_ni_9, ← zi_ni_10, ← zi_ni_12, ← zi_ni_24, ← zi_ni_25, ← zi_ni_40, ← zi_ni_45, ← zi_ni_47, ← zi_ni_48, ← zi_ni_95, ← zi_ni_96, ← zi_ni_97, ← zi_ni_100, ← zi_ni_144, ← zi_ni_288, nI_ltI, nI_leI, nI_eqI, nlt_T, nlt_F, nle_T, nle_F, neq_T, neq_F, nI_add, pk_mul, nI_clamp, q_inT, ng_lt, ng_tl, ng_le, ng_el, ng_eq, ng_qe, q_b0, q_b1, nar_0, nar_1, b01, b01', q_bn0, q_bn1, nar_n0, nar_n1, si_k, si_i, si_s, si_e, si_2, sl_1, sl_22, sl_k, sl_i, sl_s, sl_e, sp_1, sp_21, sp_22, sc_k, sc_i, sc_e, sc_2, mF_k, mF_2, mF_0, ↓eu_L_X0_giveUp_36, ↓f0, ↓f1, ↓f2, ↓f3]
  exact K
