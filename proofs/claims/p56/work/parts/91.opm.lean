theorem bm64 {z : Int} (h1 : -9223372036854775808 ≤ z) (h2 : z < 9223372036854775808) : z.bmod (2 ^ 64) = z := by
  rw [Int.bmod_def]
  split <;> omega
theorem bm32 {z : Int} (h1 : -2147483648 ≤ z) (h2 : z < 2147483648) : z.bmod (2 ^ 32) = z := by
  rw [Int.bmod_def]
  split <;> omega
theorem x_bd (x : Int32) : -2147483648 ≤ x.toInt ∧ x.toInt < 2147483648 := by
  have h1 := Int32.le_toInt x
  have h2 := Int32.toInt_lt x
  exact ⟨by omega, by omega⟩
theorem mul_bd {a b : Int} (ha : -2147483648 ≤ a ∧ a < 2147483648) (hb : 0 ≤ b ∧ b < 2147483648) : -9223372036854775808 ≤ a * b ∧ a * b < 9223372036854775808 := by
  have h1 : a * b ≤ 2147483648 * b := Int.mul_le_mul_of_nonneg_right (by omega) hb.1
  have h2 : -2147483648 * b ≤ a * b := Int.mul_le_mul_of_nonneg_right ha.1 hb.1
  omega
theorem shr_toInt {f W O : Int32} (h0 : 0 ≤ W.toInt) (h1 : W.toInt < O.toInt) : (shr f W O).toInt = (f.toInt * W.toInt).tdiv O.toInt := by
  have hf := x_bd f
  have hW := x_bd W
  have hO := x_bd O
  have hm := mul_bd hf ⟨h0, hW.2⟩
  have hd : -2147483648 ≤ (f.toInt * W.toInt).tdiv O.toInt ∧ (f.toInt * W.toInt).tdiv O.toInt < 2147483648 := by
    have hOp : 0 < O.toInt := by omega
    have hn : ((f.toInt * W.toInt).tdiv O.toInt).natAbs ≤ f.toInt.natAbs := by
      rw [Int.natAbs_tdiv, Int.natAbs_mul]
      have h3 : W.toInt.natAbs ≤ O.toInt.natAbs := by omega
      calc f.toInt.natAbs * W.toInt.natAbs / O.toInt.natAbs ≤ f.toInt.natAbs * O.toInt.natAbs / O.toInt.natAbs := Nat.div_le_div_right (Nat.mul_le_mul_left _ h3)
        _ = f.toInt.natAbs := Nat.mul_div_cancel _ (by omega)
    have hs : f.toInt = -2147483648 → (f.toInt * W.toInt).tdiv O.toInt ≤ 0 := by
      intro q
      rw [q]
      have e : (-2147483648 * W.toInt).tdiv O.toInt = -((2147483648 * W.toInt).tdiv O.toInt) := by
        rw [Int.neg_mul, Int.neg_tdiv]
      rw [e]
      have := Int.tdiv_nonneg (a := 2147483648 * W.toInt) (b := O.toInt) (by omega) (by omega)
      omega
    omega
  unfold shr
  rw [Int64.toInt_toInt32, Int64.toInt_div, Int64.toInt_mul, Int32.toInt_toInt64, Int32.toInt_toInt64, Int32.toInt_toInt64, bm64 hm.1 hm.2, bm64 (by omega) (by omega), bm32 hd.1 hd.2]
theorem shr_sign {f W O : Int32} (h0 : 0 ≤ W.toInt) (h1 : W.toInt < O.toInt) : (f.toInt ≤ 0 → (shr f W O).toInt ≤ 0) ∧ (0 ≤ f.toInt → 0 ≤ (shr f W O).toInt) := by
  rw [shr_toInt h0 h1]
  constructor
  · intro h
    have e : f.toInt * W.toInt = -((-f.toInt) * W.toInt) := by rw [Int.neg_mul, Int.neg_neg]
    rw [e, Int.neg_tdiv]
    have := Int.tdiv_nonneg (a := (-f.toInt) * W.toInt) (b := O.toInt) (Int.mul_nonneg (by omega) h0) (by omega)
    omega
  · intro h
    exact Int.tdiv_nonneg (Int.mul_nonneg h h0) (by omega)

theorem le0_iff {x : Int32} : x ≤ nI 0 ↔ x.toInt ≤ 0 := by
  rw [x_le, nI_toInt (by decide)]
  exact Iff.rfl
theorem eq0_iff {x : Int32} : x = nI 0 ↔ x.toInt = 0 := by
  rw [x_eq, nI_toInt (by decide)]
  exact Iff.rfl
/-- limiting doesn't turn a flow -/
theorem lfl_src {v : qB} {s : Nat} (hw2 : ∀ c, 0 ≤ (v 2 c).toInt) (h : ¬ lfl v s = nI 0) : srcF v (lfl v s) s = srcF v (pfl v s) s ∧ dstF v (lfl v s) s = dstF v (pfl v s) s := by
  have hp := lfl_pfl h
  have key : (lfl v s ≤ nI 0 ↔ pfl v s ≤ nI 0) := by
    unfold lfl at h ⊢
    rw [if_neg hp] at h ⊢
    by_cases q : outF v (2 * nN v) (srcF v (pfl v s) s) ≤ v 2 (srcF v (pfl v s) s)
    · rw [if_pos q]
    · rw [if_neg q] at h ⊢
      rw [x_le] at q
      have z := shr_sign (f := pfl v s) (hw2 (srcF v (pfl v s) s)) (show (v 2 (srcF v (pfl v s) s)).toInt < (outF v (2 * nN v) (srcF v (pfl v s) s)).toInt by omega)
      rw [le0_iff, le0_iff]
      rw [eq0_iff] at h hp
      omega
  unfold srcF dstF
  by_cases q : pfl v s ≤ nI 0
  · rw [if_pos q, if_pos (key.mpr q), if_pos q, if_pos (key.mpr q)]
    exact ⟨rfl, rfl⟩
  · rw [if_neg q, if_neg (fun z => q (key.mp z)), if_neg q, if_neg (fun z => q (key.mp z))]
    exact ⟨rfl, rfl⟩
theorem pfl_wat {v : qB} {s : Nat} (h : ¬ pfl v s = nI 0) : ¬ v 2 (srcF v (pfl v s) s) = nI 0 := by
  have hz : ∀ x : Int32, ¬ x ≤ nI 0 → ¬ (x ≤ nI 0) := fun _ q => q
  unfold pfl at h ⊢
  by_cases q : sd (nW v) (nN v) s = true ∧ v 5 s = nI 0
  · rw [if_pos q] at h ⊢
    unfold pfv at h ⊢
    by_cases c1 : pf1 v s ≤ nI 0
    · rw [if_pos c1] at h ⊢
      by_cases c2 : v 2 (far (nW v) s) = nI 0
      · rw [if_pos c2] at h
        exact absurd rfl h
      · rw [if_neg c2] at h ⊢
        by_cases c3 : v 1 (s / 2) < lev v (far (nW v) s)
        · rw [if_pos c3] at h ⊢
          unfold srcF
          rw [if_pos c1]
          exact c2
        · rw [if_neg c3] at h
          exact absurd rfl h
    · rw [if_neg c1] at h ⊢
      by_cases c2 : v 2 (s / 2) = nI 0
      · rw [if_pos c2] at h
        exact absurd rfl h
      · rw [if_neg c2] at h ⊢
        by_cases c3 : v 1 (far (nW v) s) < lev v (s / 2)
        · rw [if_pos c3] at h ⊢
          unfold srcF
          rw [if_neg c1]
          exact c2
        · rw [if_neg c3] at h
          exact absurd rfl h
  · rw [if_neg q] at h
    exact absurd rfl h
theorem lfl_wat {v : qB} {s : Nat} (hw2 : ∀ c, 0 ≤ (v 2 c).toInt) (h : ¬ lfl v s = nI 0) : ¬ v 2 (srcF v (lfl v s) s) = nI 0 := by
  rw [(lfl_src hw2 h).1]
  exact pfl_wat (lfl_pfl h)
theorem td_s {v v' : qB} {sz : Nat → Int32} {rw : Nat → Nat → Int32} (h0 : v' 0 0 = v 0 0) (h3 : v' 0 3 = v 0 3) (h6 : v' 0 6 = v 0 6) (h7 : v' 0 7 = v 0 7) : td v' sz rw = td v sz rw := by
  unfold td
  rw [h0, h3, h6, h7]
theorem lp_rim {o w h : Nat} {x : Int32} {u : qM} {e : qM → Option (Unit × qM)} {P : Unit → qM → Prop} (hd : DW (cB u o) w h) (K0 : ∀ u', (∀ k i s, ¬ (k = 2 ∧ i = o ∧ s = 16) → ¬ (k = 38 ∧ i = o) → u'.1 k i s = u.1 k i s) → u'.2 = u.2 → cB u' o = rimF x (cB u o) h → Ev (e u') P) : Ev (L_X8_leadRim_2 o x q_fu 0 u e) P := by
  obtain ⟨d1, d2, d3, d4, d5, d6, d7, d8, d9, d10⟩ := hd
  have rt : ∀ y t, t ≠ 0 → t ≠ 2 → rimF x (cB u o) y t = cB u o t := by
    intro y t q1 q2
    induction y with
    | zero => rfl
    | succ y ih =>
      show bset (bset (rimF x (cB u o) y) 0 5 _) 2 _ _ t = _
      rw [bs_t q2, bs_t q1, ih]
  refine lpc (fun f z t => L_X8_leadRim_2 o x f z t e) (fun y t => (∀ k i s, ¬ (k = 2 ∧ i = o ∧ s = 16) → ¬ (k = 38 ∧ i = o) → t.1 k i s = u.1 k i s) ∧ t.2 = u.2 ∧ cB t o = rimF x (cB u o) y) h (by omega) u ⟨fun _ _ _ _ _ => rfl, rfl, rfl⟩ ?_ ?_
  · rintro f y t hy ⟨g1, g2, g3⟩ K
    show Ev (L_X8_leadRim_2 o x (f + 1) (nI y) t e) P
    have c2 : t.1 2 o 12 = nI w := (g1 2 o 12 (by omega) (by omega)).trans d1
    have c3 : t.1 2 o 13 = nI h := (g1 2 o 13 (by omega) (by omega)).trans d2
    have hyw : y * w < w * h := by
      have h1 : (y + 1) * w ≤ h * w := Nat.mul_le_mul_right w hy
      rw [Nat.succ_mul, Nat.mul_comm h w] at h1
      omega
    have c4 : t.1 37 o (y * w) = cB u o 1 (y * w) := by rw [g1 37 o _ (by omega) (by omega), cR_1 (by omega)]
    have c5 : t.1 38 o (y * w) = rimF x (cB u o) y 2 (y * w) := by rw [← g3, cR_2 (by omega)]
    have c6 : t.1 2 o 16 = rimF x (cB u o) y 0 5 := by rw [← g3]; rfl
    simp (disch := first | omega | decide) only [Nat.reduceAdd, Nat.reduceMul, ↓ev_bd, ↓ev_ck, ↓ev_if, ↓ev_lt, ↓ev_jn, ↓ev_so, ↓reduceIte, ↓ev_within, ↓ev_isBoard, ↓ev_isNumber, ↓ev_foundN, ↓ev_found_1, ↓ev_found_2, ↓ev_found_3, ↓ev_found_4, ↓ev_found_5, true_and, and_true, and_self, eq_self, not_true_eq_false, not_false_eq_true, ite_true, ite_false, true_or, or_true, false_or, or_false, false_and, and_false, ← zi_ni_0, ← zi_ni_1, ← zi_ni_2, ← zi_ni_3, ← zi_ni_4, ← zi_ni_5, ← zi_ni_6, ← zi_ni_7, ← zi_ni_8, ← zi_ni_9, ← zi_ni_10, ← zi_ni_12, ← zi_ni_24, ← zi_ni_25, ← zi_ni_40, ← zi_ni_45, ← zi_ni_47, ← zi_ni_48, ← zi_ni_95, ← zi_ni_96, ← zi_ni_97, ← zi_ni_100, ← zi_ni_144, ← zi_ni_288, nI_ltI, nI_leI, nI_eqI, nlt_T, nlt_F, nle_T, nle_F, neq_T, neq_F, nI_add, pk_mul, nI_clamp, q_inT, ng_lt, ng_tl, ng_le, ng_el, ng_eq, ng_qe, q_b0, q_b1, nar_0, nar_1, b01, b01', q_bn0, q_bn1, nar_n0, nar_n1, si_k, si_i, si_s, si_e, si_2, sl_1, sl_22, sl_k, sl_i, sl_s, sl_e, sp_1, sp_21, sp_22, sc_k, sc_i, sc_e, sc_2, mF_k, mF_2, mF_0, ↓eu_L_X8_leadRim_2, c2, c3, c4, c5, c6]
    refine K _ ⟨fun k i s h1 h2 => ?_, g2, ?_⟩
    · rw [si_n (fun z => h2 ⟨z.1, z.2.1⟩), si_n h1]
      exact g1 k i s h1 h2
    · rw [cW_2 (by omega), cW_0_5, g3]
      show _ = bset (bset (rimF x (cB u o) y) 0 5 (rimF x (cB u o) y 0 5 + (led x (cB u o 1 (y * nW (cB u o))) - rimF x (cB u o) y 2 (y * nW (cB u o))))) 2 (y * nW (cB u o)) (led x (cB u o 1 (y * nW (cB u o))))
      rw [d7]
      rfl
  · rintro f t ⟨g1, g2, g3⟩
    show Ev (L_X8_leadRim_2 o x (f + 1) (nI h) t e) P
    have c3 : t.1 2 o 13 = nI h := (g1 2 o 13 (by omega) (by omega)).trans d2
    simp (disch := first | omega | decide) only [Nat.reduceAdd, Nat.reduceMul, ↓ev_bd, ↓ev_ck, ↓ev_if, ↓ev_lt, ↓ev_jn, ↓ev_so, ↓reduceIte, ↓ev_within, ↓ev_isBoard, ↓ev_isNumber, ↓ev_foundN, ↓ev_found_1, ↓ev_found_2, ↓ev_found_3, ↓ev_found_4, ↓ev_found_5, true_and, and_true, and_self, eq_self, not_true_eq_false, not_false_eq_true, ite_true, ite_false, true_or, or_true, false_or, or_false, false_and, and_false, ← zi_ni_0, ← zi_ni_1, ← zi_ni_2, ← zi_ni_3, ← zi_ni_4, ← zi_ni_5, ← zi_ni_6, ← zi_ni_7, ← zi_ni_8, ← zi_ni_9, ← zi_ni_10, ← zi_ni_12, ← zi_ni_24, ← zi_ni_25, ← zi_ni_40, ← zi_ni_45, ← zi_ni_47, ← zi_ni_48, ← zi_ni_95, ← zi_ni_96, ← zi_ni_97, ← zi_ni_100, ← zi_ni_144, ← zi_ni_288, nI_ltI, nI_leI, nI_eqI, nlt_T, nlt_F, nle_T, nle_F, neq_T, neq_F, nI_add, pk_mul, nI_clamp, q_inT, ng_lt, ng_tl, ng_le, ng_el, ng_eq, ng_qe, q_b0, q_b1, nar_0, nar_1, b01, b01', q_bn0, q_bn1, nar_n0, nar_n1, si_k, si_i, si_s, si_e, si_2, sl_1, sl_22, sl_k, sl_i, sl_s, sl_e, sp_1, sp_21, sp_22, sc_k, sc_i, sc_e, sc_2, mF_k, mF_2, mF_0, ↓eu_L_X8_leadRim_2, c3]
    exact K0 _ g1 g2 g3
/-- the cells of the class that a step changes -/
def FA (o : Nat) (u u' : qM) : Prop := (∀ k i s, k < 47 ∨ 50 < k → ¬ (i = o ∧ (k = 38 ∨ k = 39 ∨ k = 40 ∨ (k = 2 ∧ (s = 14 ∨ s = 15 ∨ s = 16)))) → u'.1 k i s = u.1 k i s) ∧ u'.2 = u.2
theorem lp_adv {v : qB} {o w h : Nat} {y : Int32} {u : qM} {e : qM → Option (Int32 × qM)} {P : Int32 → qM → Prop} (hd : DW v w h) (hw2 : ∀ c, 0 ≤ (v 2 c).toInt) (hn : SN v u o) (h39 : ∀ s, s < 144 → u.1 39 o s = v 3 s) (hf : ∀ s, s < 2 * (w * h) → u.1 47 0 s = lfl v s) (K0 : ∀ u', (∀ k i s, k ≠ 50 → ¬ (k = 39 ∧ i = o) → u'.1 k i s = u.1 k i s) → u'.2 = u.2 → (∀ s, s < 144 → u'.1 39 o s = if s % 48 < w * h then stuF v (s / 48) (2 * (w * h)) (s % 48) else v 3 s) → Ev (e u') P) : Ev (L_X8_advance_34 o y q_fu 0 u e) P := by
  have hd' := hd
  obtain ⟨d1, d2, d3, d4, d5, d6, d7, d8, d9, d10⟩ := hd'
  refine lpc (fun f x t => L_X8_advance_34 o y f x t e) (fun k t => (∀ a i s, a ≠ 50 → ¬ (a = 39 ∧ i = o) → t.1 a i s = u.1 a i s) ∧ t.2 = u.2 ∧ (∀ s, s < 144 → t.1 39 o s = if s / 48 < k ∧ s % 48 < w * h then stuF v (s / 48) (2 * (w * h)) (s % 48) else v 3 s)) 3 (by decide) u ⟨fun _ _ _ _ _ => rfl, rfl, fun s hs => by rw [if_neg (fun q => absurd q.1 (Nat.not_lt_zero _))]; exact h39 s hs⟩ ?_ ?_
  · rintro f k t hk ⟨g1, g2, g3⟩ K
    show Ev (L_X8_advance_34 o y (f + 1) (nI k) t e) P
    have hs' : ∀ a, a ≠ 50 → a ≠ 39 → t.1 a = u.1 a := fun a q1 q2 => funext (fun i => funext (fun s => g1 a i s q1 (fun z => q2 z.1)))
    have snf : ∀ t' : qM, (∀ a, a ≠ 50 → a ≠ 39 → t'.1 a = u.1 a) → SN v t' o := by
      intro t' q
      unfold SN
      rw [q 2 (by decide) (by decide), q 3 (by decide) (by decide), q 37 (by decide) (by decide), q 38 (by decide) (by decide), q 40 (by decide) (by decide), q 41 (by decide) (by decide)]
      exact hn
    have hn' := snf t hs'
    have c2 : t.1 2 o 12 = nI w := hn'.2.1.trans d1
    have c3 : t.1 2 o 13 = nI h := hn'.2.2.1.trans d2
    have cr1 : q_cr (nI (k * 48)) (nI 0) (nI (w * h)) 144 48 = true := q_crI (by omega) (by decide) (by omega) (by omega) (by omega)
    have cr2 : q_cr (nI 0) (nI (k * 48)) (nI (w * h)) 48 144 = true := q_crI (by decide) (by omega) (by omega) (by omega) (by omega)
    have o39 : ∀ c, c < w * h → t.1 39 o (k * 48 + c) = v 3 (k * 48 + c) := by
      intro c hc
      rw [g3 _ (by omega), if_neg (by omega)]
    simp (disch := first | omega | decide) only [Nat.reduceAdd, Nat.reduceMul, ↓ev_bd, ↓ev_ck, ↓ev_if, ↓ev_lt, ↓ev_jn, ↓ev_so, ↓reduceIte, ↓ev_within, ↓ev_isBoard, ↓ev_isNumber, ↓ev_foundN, ↓ev_found_1, ↓ev_found_2, ↓ev_found_3, ↓ev_found_4, ↓ev_found_5, true_and, and_true, and_self, eq_self, not_true_eq_false, not_false_eq_true, ite_true, ite_false, true_or, or_true, false_or, or_false, false_and, and_false, ← zi_ni_0, ← zi_ni_1, ← zi_ni_2, ← zi_ni_3, ← zi_ni_4, ← zi_ni_5, ← zi_ni_6, ← zi_ni_7, ← zi_ni_8, ← zi_ni_9, ← zi_ni_10, ← zi_ni_12, ← zi_ni_24, ← zi_ni_25, ← zi_ni_40, ← zi_ni_45, ← zi_ni_47, ← zi_ni_48, ← zi_ni_95, ← zi_ni_96, ← zi_ni_97, ← zi_ni_100, ← zi_ni_144, ← zi_ni_288, nI_ltI, nI_leI, nI_eqI, nlt_T, nlt_F, nle_T, nle_F, neq_T, neq_F, nI_add, pk_mul, nI_clamp, q_inT, ng_lt, ng_tl, ng_le, ng_el, ng_eq, ng_qe, q_b0, q_b1, nar_0, nar_1, b01, b01', q_bn0, q_bn1, nar_n0, nar_n1, si_k, si_i, si_s, si_e, si_2, sl_1, sl_22, sl_k, sl_i, sl_s, sl_e, sp_1, sp_21, sp_22, sc_k, sc_i, sc_e, sc_2, mF_k, mF_2, mF_0, ↓eu_L_X8_advance_34, ↓eu_X8_carryStuff, ↓eu_X0_cells, c2, c3, cr1]
    refine lp_carry (u := q_sc t 39 o 50 0 (k * 48) 0 (w * h)) hk hd hw2 (snf _ (fun a q1 q2 => by rw [sc_k q1]; exact hs' a q1 q2)) (fun s => lfl_wat hw2) (fun c hc => by rw [sc_k (by decide)]; exact o39 c hc) (fun s hs => by rw [sc_k (by decide), hs' 47 (by decide) (by decide)]; exact hf s hs) (fun c hc => by rw [sc_e, pk_cpy_in (Nat.zero_le _) (by omega), Nat.sub_zero]; exact o39 c hc) (fun u' hu' => ?_)
    obtain ⟨p1, p2, p3⟩ := hu'
    have e2 : u'.1 2 o 12 = nI w := by rw [p1 2 (by decide), sc_k (by decide)]; exact c2
    have e3 : u'.1 2 o 13 = nI h := by rw [p1 2 (by decide), sc_k (by decide)]; exact c3
    simp (disch := first | omega | decide) only [Nat.reduceAdd, Nat.reduceMul, ↓ev_bd, ↓ev_ck, ↓ev_if, ↓ev_lt, ↓ev_jn, ↓ev_so, ↓reduceIte, ↓ev_within, ↓ev_isBoard, ↓ev_isNumber, ↓ev_foundN, ↓ev_found_1, ↓ev_found_2, ↓ev_found_3, ↓ev_found_4, ↓ev_found_5, true_and, and_true, and_self, eq_self, not_true_eq_false, not_false_eq_true, ite_true, ite_false, true_or, or_true, false_or, or_false, false_and, and_false, ← zi_ni_0, ← zi_ni_1, ← zi_ni_2, ← zi_ni_3, ← zi_ni_4, ← zi_ni_5, ← zi_ni_6, ← zi_ni_7, ← zi_ni_8, ← zi_ni_9, ← zi_ni_10, ← zi_ni_12, ← zi_ni_24, ← zi_ni_25, ← zi_ni_40, ← zi_ni_45, ← zi_ni_47, ← zi_ni_48, ← zi_ni_95, ← zi_ni_96, ← zi_ni_97, ← zi_ni_100, ← zi_ni_144, ← zi_ni_288, nI_ltI, nI_leI, nI_eqI, nlt_T, nlt_F, nle_T, nle_F, neq_T, neq_F, nI_add, pk_mul, nI_clamp, q_inT, ng_lt, ng_tl, ng_le, ng_el, ng_eq, ng_qe, q_b0, q_b1, nar_0, nar_1, b01, b01', q_bn0, q_bn1, nar_n0, nar_n1, si_k, si_i, si_s, si_e, si_2, sl_1, sl_22, sl_k, sl_i, sl_s, sl_e, sp_1, sp_21, sp_22, sc_k, sc_i, sc_e, sc_2, mF_k, mF_2, mF_0, ↓eu_X0_cells, e2, e3, cr2]
    refine K _ ⟨fun a i s q1 q2 => ?_, ?_, fun s hs => ?_⟩
    · rw [sc_n q2, p1 a q1, sc_k q1]
      exact g1 a i s q1 q2
    · show u'.2 = u.2
      rw [p2]
      exact g2
    · rw [sc_e]
      by_cases q : k * 48 ≤ s ∧ s < k * 48 + w * h
      · rw [pk_cpy_in q.1 q.2, Nat.zero_add, p3 _ (by omega), if_pos (by omega), show s / 48 = k by omega, show s % 48 = s - k * 48 by omega]
      · rw [pk_cpy_out (by omega), p1 39 (by decide), sc_k (by decide), g3 s hs]
        by_cases q2 : s / 48 < k ∧ s % 48 < w * h
        · rw [if_pos q2, if_pos (by omega)]
        · rw [if_neg q2, if_neg (by omega)]
  · rintro f t ⟨g1, g2, g3⟩
    show Ev (L_X8_advance_34 o y (f + 1) (nI 3) t e) P
    simp (disch := first | omega | decide) only [Nat.reduceAdd, Nat.reduceMul, ↓ev_bd, ↓ev_ck, ↓ev_if, ↓ev_lt, ↓ev_jn, ↓ev_so, ↓reduceIte, ↓ev_within, ↓ev_isBoard, ↓ev_isNumber, ↓ev_foundN, ↓ev_found_1, ↓ev_found_2, ↓ev_found_3, ↓ev_found_4, ↓ev_found_5, true_and, and_true, and_self, eq_self, not_true_eq_false, not_false_eq_true, ite_true, ite_false, true_or, or_true, false_or, or_false, false_and, and_false, ← zi_ni_0, ← zi_ni_1, ← zi_ni_2, ← zi_ni_3, ← zi_ni_4, ← zi_ni_5, ← zi_ni_6, ← zi_ni_7, ← zi_ni_8, ← zi_ni_9, ← zi_ni_10, ← zi_ni_12, ← zi_ni_24, ← zi_ni_25, ← zi_ni_40, ← zi_ni_45, ← zi_ni_47, ← zi_ni_48, ← zi_ni_95, ← zi_ni_96, ← zi_ni_97, ← zi_ni_100, ← zi_ni_144, ← zi_ni_288, nI_ltI, nI_leI, nI_eqI, nlt_T, nlt_F, nle_T, nle_F, neq_T, neq_F, nI_add, pk_mul, nI_clamp, q_inT, ng_lt, ng_tl, ng_le, ng_el, ng_eq, ng_qe, q_b0, q_b1, nar_0, nar_1, b01, b01', q_bn0, q_bn1, nar_n0, nar_n1, si_k, si_i, si_s, si_e, si_2, sl_1, sl_22, sl_k, sl_i, sl_s, sl_e, sp_1, sp_21, sp_22, sc_k, sc_i, sc_e, sc_2, mF_k, mF_2, mF_0, ↓eu_L_X8_advance_34]
    refine K0 _ g1 g2 (fun s hs => ?_)
    rw [g3 s hs]
    by_cases q : s % 48 < w * h
    · rw [if_pos ⟨by omega, q⟩, if_pos q]
    · rw [if_neg (fun z => q z.2), if_neg q]


