/-! nest, the call. -/
theorem subx1 {W w X : Nat} (hW : W ≤ 8) (hw : w ≤ 8) (hX : X < 2 ^ 31) : (nI W - nI w < nI X) = (W < X + w) := by
  have e1 : (nI W).toInt = W := nI_toInt (by omega)
  have e2 : (nI w).toInt = w := nI_toInt (by omega)
  rw [x_lt, z_sub (by omega) (by omega), e1, e2, nI_toInt hX]
  exact propext ⟨fun _ => by omega, fun _ => by omega⟩
theorem subx2 {H h Y : Nat} (hH : H ≤ 8) (hh : h ≤ 8) (hY : Y < 2 ^ 31) : (nI Y ≤ nI H - nI h) = (Y + h ≤ H) := by
  have e1 : (nI H).toInt = H := nI_toInt (by omega)
  have e2 : (nI h).toInt = h := nI_toInt (by omega)
  rw [x_le, z_sub (by omega) (by omega), e1, e2, nI_toInt hY]
  exact propext ⟨fun _ => by omega, fun _ => by omega⟩
/-- a rank anew: one place is above all others -/
def rt (dep : Nat → Nat) (j x y : Nat) : Nat := if y ≠ j ∧ dep y < dep x then 1 else 0
theorem rt_1 {dep : Nat → Nat} {j x y : Nat} : rt dep j x y ≤ 1 := by
  unfold rt
  split <;> omega
theorem rt_m {dep : Nat → Nat} {j d b y : Nat} (h : dep d < dep b) : rt dep j d y ≤ rt dep j b y := by
  unfold rt
  by_cases q : y ≠ j ∧ dep y < dep d
  · rw [if_pos q, if_pos ⟨q.1, by omega⟩]
    exact Nat.le_refl _
  · rw [if_neg q]
    exact Nat.zero_le _
theorem rt_s {dep : Nat → Nat} {j x : Nat} : rt dep j x x = 0 := if_neg (fun q => Nat.lt_irrefl _ q.2)
theorem rt_j {dep : Nat → Nat} {j x : Nat} : rt dep j x j = 0 := if_neg (fun q => q.1 rfl)
theorem rt_d {dep : Nat → Nat} {j d b : Nat} (h : dep d < dep b) (hd : d ≠ j) : rt dep j b d = 1 := if_pos ⟨hd, h⟩
def rk (dep : Nat → Nat) (j x : Nat) : Nat := rt dep j x 0 + rt dep j x 1 + rt dep j x 2 + rt dep j x 3 + rt dep j x 4 + rt dep j x 5
theorem rk_4 {dep : Nat → Nat} {j x : Nat} (hj : j < 6) (hx : x < 6) (h : x ≠ j) : rk dep j x ≤ 4 := by
  unfold rk
  have a := fun y => rt_1 (dep := dep) (j := j) (x := x) (y := y)
  have a0 := a 0
  have a1 := a 1
  have a2 := a 2
  have a3 := a 3
  have a4 := a 4
  have a5 := a 5
  have c1 := rt_s (dep := dep) (j := j) (x := x)
  have c2 := rt_j (dep := dep) (j := j) (x := x)
  rcases (show j = 0 ∨ j = 1 ∨ j = 2 ∨ j = 3 ∨ j = 4 ∨ j = 5 by omega) with rfl | rfl | rfl | rfl | rfl | rfl <;> rcases (show x = 0 ∨ x = 1 ∨ x = 2 ∨ x = 3 ∨ x = 4 ∨ x = 5 by omega) with rfl | rfl | rfl | rfl | rfl | rfl <;> first | exact absurd rfl h | omega
theorem rk_lt {dep : Nat → Nat} {j d b : Nat} (hd6 : d < 6) (h : dep d < dep b) (hd : d ≠ j) : rk dep j d < rk dep j b := by
  unfold rk
  have a := fun y => rt_m (dep := dep) (j := j) (d := d) (b := b) (y := y) h
  have a0 := a 0
  have a1 := a 1
  have a2 := a 2
  have a3 := a 3
  have a4 := a 4
  have a5 := a 5
  have c1 := rt_s (dep := dep) (j := j) (x := d)
  have c2 := rt_d h hd
  rcases (show d = 0 ∨ d = 1 ∨ d = 2 ∨ d = 3 ∨ d = 4 ∨ d = 5 by omega) with rfl | rfl | rfl | rfl | rfl | rfl <;> omega
theorem R4_nest {μ μ' : qM} {j D : Nat} (h : R4 μ) (hj : j < 6) (hD : D < 6) (hDj : D ≠ j) (e : μ'.1 5 j 2 = nI D) (hb : ∀ x, x < 6 → x ≠ j → μ'.1 2 x 10 = 1 → μ'.1 2 x 11 = 2 → μ.1 2 x 10 = 1 ∧ μ.1 2 x 11 = 2 ∧ μ'.1 5 x 2 = μ.1 5 x 2 ∧ ¬ μ.1 5 x 2 = nI j) : R4 μ' := by
  obtain ⟨dep, h⟩ := h
  refine ⟨fun x => if x = j then 5 else rk dep j x, fun b d hb6 hd6 e1 e2 e3 => ?_⟩
  by_cases q : b = j
  · subst q
    rw [e] at e3
    obtain rfl : D = d := (nI_eq (by omega) (by omega)).mp e3
    dsimp only
    rw [if_neg hDj, if_pos rfl]
    have := rk_4 (dep := dep) hj hD hDj
    omega
  · obtain ⟨f1, f2, f3, f4⟩ := hb b hb6 q e1 e2
    rw [f3] at e3
    have hdj : d ≠ j := fun z => f4 (by rw [e3, z])
    have hr := (h b d hb6 hd6 f1 f2 e3).1
    dsimp only
    rw [if_neg q, if_neg hdj]
    have := rk_4 (dep := dep) hj hb6 q
    exact ⟨rk_lt hd6 hr hdj, by omega⟩
theorem op_nest (a e x y w v : Int32) : Op (f_X10_nest a e x y w v) (f_X11_nest a e x y w v) := by
  intro n μ hn h
  rcases y_ix6 a with ⟨t, ht, rfl⟩ | ha
  · by_cases hae : nI t = e
    · subst hae
      simp (disch := first | omega | decide) only [Nat.reduceAdd, Nat.reduceMul, ↓ev_bd, ↓ev_ck, ↓ev_if, ↓ev_lt, ↓ev_jn, ↓ev_so, ↓reduceIte, ↓ev_within, ↓ev_in, ↓ev_isBoard, ↓ev_isGauge, ↓ev_isNumber, ↓ev_isSix, ↓ev_isEight, ↓ev_foundN, ↓ev_meetsN, ↓ev_found_1, ↓ev_meets_1, ↓ev_found_2, ↓ev_meets_2, ↓ev_found_3, ↓ev_meets_3, ↓ev_found_4, ↓ev_meets_4, ↓ev_found_5, ↓ev_meets_5, true_and, and_true, and_self, eq_self, not_true_eq_false, not_false_eq_true, ite_true, ite_false, true_or, or_true, false_or, or_false, false_and, and_false, ← zi_ni_0, ← zi_ni_1, ← zi_ni_2, ← zi_ni_3, ← zi_ni_4, ← zi_ni_5, ← zi_ni_6, ← zi_ni_7, ← zi_ni_8, ← zi_ni_9, ← zi_ni_10, ← zi_ni_12, ← zi_ni_24, ← zi_ni_25, ← zi_ni_40, ← zi_ni_45, ← zi_ni_47, ← zi_ni_48, ← zi_ni_95, ← zi_ni_96, ← zi_ni_97, ← zi_ni_100, ← zi_ni_144, ← zi_ni_288, nI_ltI, nI_leI, nI_eqI, nlt_T, nlt_F, nle_T, nle_F, neq_T, neq_F, nI_add, pk_mul, nI_clamp, q_inT, ng_lt, ng_tl, ng_le, ng_el, ng_eq, ng_qe, q_b0, q_b1, nar_0, nar_1, b01, b01', q_bn0, q_bn1, nar_n0, nar_n1, si_k, si_i, si_s, si_e, si_2, sl_1, sl_22, sl_k, sl_i, sl_s, sl_e, sp_1, sp_21, sp_22, sc_k, sc_i, sc_e, sc_2, mF_k, mM_k, mF_2, mM_2, mF_0, mM_11, ↓eu_X10_nest, ↓eu_X11_nest, ↓eu_X10_boardRefused, ↓eu_X11_askedFor]
      exact h.succ
    · have hea : ¬ e = nI t := fun q => hae q.symm
      rcases y_ix6 e with ⟨j, hj, rfl⟩ | he
      · have htj : ¬ t = j := fun q => hae (by rw [q])
        have hjt : ¬ j = t := fun q => htj q.symm
        by_cases good : ¬ x < nI 0 ∧ ¬ y < nI 0 ∧ (nI 1 ≤ w ∧ w ≤ nI 4) ∧ (nI 1 ≤ v ∧ v ≤ nI 3)
        · obtain ⟨hx, hy, hw, hv⟩ := good
          obtain ⟨X, hX, rfl⟩ := nI_of (x := x) hx
          obtain ⟨Y, hY, rfl⟩ := nI_of (x := y) hy
          have hw0 : nI 0 ≤ w := by
            have e0 : (nI 0).toInt = 0 := nI_toInt (by decide)
            have e1 : (nI 1).toInt = 1 := nI_toInt (by decide)
            have q := hw.1
            rw [x_le] at q ⊢
            omega
          obtain ⟨wd, hwd, rfl⟩ := x_pos (N := 4) (by decide) hw0 hw.2
          have hwd1 : 1 ≤ wd := (nI_leI (by decide) (by omega)).mp hw.1
          have hv0 : nI 0 ≤ v := by
            have e0 : (nI 0).toInt = 0 := nI_toInt (by decide)
            have e1 : (nI 1).toInt = 1 := nI_toInt (by decide)
            have q := hv.1
            rw [x_le] at q ⊢
            omega
          obtain ⟨hg, hhg, rfl⟩ := x_pos (N := 3) (by decide) hv0 hv.2
          have hhg1 : 1 ≤ hg := (nI_leI (by decide) (by omega)).mp hv.1
          rcases BD_of (h.2.2.2.1 j hj) with ⟨g1, g2⟩ | ⟨k, W, H, st, p, d, rc, pc, hD, hN⟩
          · simp (disch := first | omega | decide) only [Nat.reduceAdd, Nat.reduceMul, ↓ev_bd, ↓ev_ck, ↓ev_if, ↓ev_lt, ↓ev_jn, ↓ev_so, ↓reduceIte, ↓ev_within, ↓ev_in, ↓ev_isBoard, ↓ev_isGauge, ↓ev_isNumber, ↓ev_isSix, ↓ev_isEight, ↓ev_foundN, ↓ev_meetsN, ↓ev_found_1, ↓ev_meets_1, ↓ev_found_2, ↓ev_meets_2, ↓ev_found_3, ↓ev_meets_3, ↓ev_found_4, ↓ev_meets_4, ↓ev_found_5, ↓ev_meets_5, true_and, and_true, and_self, eq_self, not_true_eq_false, not_false_eq_true, ite_true, ite_false, true_or, or_true, false_or, or_false, false_and, and_false, ← zi_ni_0, ← zi_ni_1, ← zi_ni_2, ← zi_ni_3, ← zi_ni_4, ← zi_ni_5, ← zi_ni_6, ← zi_ni_7, ← zi_ni_8, ← zi_ni_9, ← zi_ni_10, ← zi_ni_12, ← zi_ni_24, ← zi_ni_25, ← zi_ni_40, ← zi_ni_45, ← zi_ni_47, ← zi_ni_48, ← zi_ni_95, ← zi_ni_96, ← zi_ni_97, ← zi_ni_100, ← zi_ni_144, ← zi_ni_288, nI_ltI, nI_leI, nI_eqI, nlt_T, nlt_F, nle_T, nle_F, neq_T, neq_F, nI_add, pk_mul, nI_clamp, q_inT, ng_lt, ng_tl, ng_le, ng_el, ng_eq, ng_qe, q_b0, q_b1, nar_0, nar_1, b01, b01', q_bn0, q_bn1, nar_n0, nar_n1, si_k, si_i, si_s, si_e, si_2, sl_1, sl_22, sl_k, sl_i, sl_s, sl_e, sp_1, sp_21, sp_22, sc_k, sc_i, sc_e, sc_2, mF_k, mM_k, mF_2, mM_2, mF_0, mM_11, ↓eu_X10_nest, ↓eu_X11_nest, ↓eu_X10_boardRefused, ↓eu_X11_askedFor, g1, g2, hae, hea, htj, hjt]
            exact h.met
          · obtain ⟨d0, ⟨d1, f1⟩, ⟨d2, f2⟩, ⟨d3, f3⟩, ⟨d4, f4⟩, ⟨d5, f5⟩, ⟨d6, f6⟩, ⟨d7, f7⟩, ⟨d8, f8⟩⟩ := hD
            obtain ⟨n1, n2, n3, n4, n5, n6, n7, n8, n9, n10, n11, n12, n13, n14⟩ := hN
            have hb3 := h.2.2.2.1 j hj
            have hEq := bEq hb3 d0
            have hWF := bWF (h.succ.2.2.2.1 j hj) d0
            by_cases hfx : W < X + wd
            · simp (disch := first | omega | decide) only [Nat.reduceAdd, Nat.reduceMul, ↓ev_bd, ↓ev_ck, ↓ev_if, ↓ev_lt, ↓ev_jn, ↓ev_so, ↓reduceIte, ↓ev_within, ↓ev_in, ↓ev_isBoard, ↓ev_isGauge, ↓ev_isNumber, ↓ev_isSix, ↓ev_isEight, ↓ev_foundN, ↓ev_meetsN, ↓ev_found_1, ↓ev_meets_1, ↓ev_found_2, ↓ev_meets_2, ↓ev_found_3, ↓ev_meets_3, ↓ev_found_4, ↓ev_meets_4, ↓ev_found_5, ↓ev_meets_5, true_and, and_true, and_self, eq_self, not_true_eq_false, not_false_eq_true, ite_true, ite_false, true_or, or_true, false_or, or_false, false_and, and_false, ← zi_ni_0, ← zi_ni_1, ← zi_ni_2, ← zi_ni_3, ← zi_ni_4, ← zi_ni_5, ← zi_ni_6, ← zi_ni_7, ← zi_ni_8, ← zi_ni_9, ← zi_ni_10, ← zi_ni_12, ← zi_ni_24, ← zi_ni_25, ← zi_ni_40, ← zi_ni_45, ← zi_ni_47, ← zi_ni_48, ← zi_ni_95, ← zi_ni_96, ← zi_ni_97, ← zi_ni_100, ← zi_ni_144, ← zi_ni_288, nI_ltI, nI_leI, nI_eqI, nlt_T, nlt_F, nle_T, nle_F, neq_T, neq_F, nI_add, pk_mul, nI_clamp, q_inT, ng_lt, ng_tl, ng_le, ng_el, ng_eq, ng_qe, q_b0, q_b1, nar_0, nar_1, b01, b01', q_bn0, q_bn1, nar_n0, nar_n1, si_k, si_i, si_s, si_e, si_2, sl_1, sl_22, sl_k, sl_i, sl_s, sl_e, sp_1, sp_21, sp_22, sc_k, sc_i, sc_e, sc_2, mF_k, mM_k, mF_2, mM_2, mF_0, mM_11, ↓eu_X10_nest, ↓eu_X11_nest, ↓eu_X10_boardRefused, ↓eu_X11_askedFor, d0, d2, d3, f1, f2, f3, hae, hea, subx1, subx2, hfx]
              exact h.succ
            by_cases hfy : Y + hg ≤ H
            · obtain ⟨th, ne, on, dep, hf, hm, hnf, b1, b2, b3, b4⟩ := h.facts
              have hth : th j = true := by
                cases hq : th j
                · have z := hf.1 j hj
                  rw [hq, if_neg (by decide), d0] at z
                  exact absurd z (by decide +kernel)
                · rfl
              have hWH : W * H ≤ 48 := Nat.mul_le_mul n3 n5
              refine Ev.hide (fun P' K => ?_)
              simp (disch := first | omega | decide) only [Nat.reduceAdd, Nat.reduceMul, ↓ev_bd, ↓ev_ck, ↓ev_if, ↓ev_lt, ↓ev_jn, ↓ev_so, ↓reduceIte, ↓ev_within, ↓ev_in, ↓ev_isBoard, ↓ev_isGauge, ↓ev_isNumber, ↓ev_isSix, ↓ev_isEight, ↓ev_foundN, ↓ev_meetsN, ↓ev_found_1, ↓ev_meets_1, ↓ev_found_2, ↓ev_meets_2, ↓ev_found_3, ↓ev_meets_3, ↓ev_found_4, ↓ev_meets_4, ↓ev_found_5, ↓ev_meets_5, true_and, and_true, and_self, eq_self, not_true_eq_false, not_false_eq_true, ite_true, ite_false, true_or, or_true, false_or, or_false, false_and, and_false, ← zi_ni_0, ← zi_ni_1, ← zi_ni_2, ← zi_ni_3, ← zi_ni_4, ← zi_ni_5, ← zi_ni_6, ← zi_ni_7, ← zi_ni_8, ← zi_ni_9, ← zi_ni_10, ← zi_ni_12, ← zi_ni_24, ← zi_ni_25, ← zi_ni_40, ← zi_ni_45, ← zi_ni_47, ← zi_ni_48, ← zi_ni_95, ← zi_ni_96, ← zi_ni_97, ← zi_ni_100, ← zi_ni_144, ← zi_ni_288, nI_ltI, nI_leI, nI_eqI, nlt_T, nlt_F, nle_T, nle_F, neq_T, neq_F, nI_add, pk_mul, nI_clamp, q_inT, ng_lt, ng_tl, ng_le, ng_el, ng_eq, ng_qe, q_b0, q_b1, nar_0, nar_1, b01, b01', q_bn0, q_bn1, nar_n0, nar_n1, si_k, si_i, si_s, si_e, si_2, sl_1, sl_22, sl_k, sl_i, sl_s, sl_e, sp_1, sp_21, sp_22, sc_k, sc_i, sc_e, sc_2, mF_k, mM_k, mF_2, mM_2, mF_0, mM_11, ↓eu_X10_nest, ↓eu_X11_nest, ↓eu_X10_boardRefused, ↓eu_X11_askedFor, d0, d2, d3, f1, f2, f3, hae, hea, subx1, subx2]
              refine ev_liesIn ht hj hth hf hnf (fun hl => ?_) (fun hl => ?_)
              · try simp (disch := first | omega | decide) only [Nat.reduceAdd, Nat.reduceMul, ↓ev_bd, ↓ev_ck, ↓ev_if, ↓ev_lt, ↓ev_jn, ↓ev_so, ↓reduceIte, ↓ev_within, ↓ev_in, ↓ev_isBoard, ↓ev_isGauge, ↓ev_isNumber, ↓ev_isSix, ↓ev_isEight, ↓ev_foundN, ↓ev_meetsN, ↓ev_found_1, ↓ev_meets_1, ↓ev_found_2, ↓ev_meets_2, ↓ev_found_3, ↓ev_meets_3, ↓ev_found_4, ↓ev_meets_4, ↓ev_found_5, ↓ev_meets_5, true_and, and_true, and_self, eq_self, not_true_eq_false, not_false_eq_true, ite_true, ite_false, true_or, or_true, false_or, or_false, false_and, and_false, ← zi_ni_0, ← zi_ni_1, ← zi_ni_2, ← zi_ni_3, ← zi_ni_4, ← zi_ni_5, ← zi_ni_6, ← zi_ni_7, ← zi_ni_8, ← zi_ni_9, ← zi_ni_10, ← zi_ni_12, ← zi_ni_24, ← zi_ni_25, ← zi_ni_40, ← zi_ni_45, ← zi_ni_47, ← zi_ni_48, ← zi_ni_95, ← zi_ni_96, ← zi_ni_97, ← zi_ni_100, ← zi_ni_144, ← zi_ni_288, nI_ltI, nI_leI, nI_eqI, nlt_T, nlt_F, nle_T, nle_F, neq_T, neq_F, nI_add, pk_mul, nI_clamp, q_inT, ng_lt, ng_tl, ng_le, ng_el, ng_eq, ng_qe, q_b0, q_b1, nar_0, nar_1, b01, b01', q_bn0, q_bn1, nar_n0, nar_n1, si_k, si_i, si_s, si_e, si_2, sl_1, sl_22, sl_k, sl_i, sl_s, sl_e, sp_1, sp_21, sp_22, sc_k, sc_i, sc_e, sc_2, mF_k, mM_k, mF_2, mM_2, mF_0, mM_11]
                refine K _ _ ?_
                show Ev (f_X11_nest _ _ _ _ _ _ μ) _
                refine Ev.hide (fun P'' K'' => ?_)
                simp (disch := first | omega | decide) only [Nat.reduceAdd, Nat.reduceMul, ↓ev_bd, ↓ev_ck, ↓ev_if, ↓ev_lt, ↓ev_jn, ↓ev_so, ↓reduceIte, ↓ev_within, ↓ev_in, ↓ev_isBoard, ↓ev_isGauge, ↓ev_isNumber, ↓ev_isSix, ↓ev_isEight, ↓ev_foundN, ↓ev_meetsN, ↓ev_found_1, ↓ev_meets_1, ↓ev_found_2, ↓ev_meets_2, ↓ev_found_3, ↓ev_meets_3, ↓ev_found_4, ↓ev_meets_4, ↓ev_found_5, ↓ev_meets_5, true_and, and_true, and_self, eq_self, not_true_eq_false, not_false_eq_true, ite_true, ite_false, true_or, or_true, false_or, or_false, false_and, and_false, ← zi_ni_0, ← zi_ni_1, ← zi_ni_2, ← zi_ni_3, ← zi_ni_4, ← zi_ni_5, ← zi_ni_6, ← zi_ni_7, ← zi_ni_8, ← zi_ni_9, ← zi_ni_10, ← zi_ni_12, ← zi_ni_24, ← zi_ni_25, ← zi_ni_40, ← zi_ni_45, ← zi_ni_47, ← zi_ni_48, ← zi_ni_95, ← zi_ni_96, ← zi_ni_97, ← zi_ni_100, ← zi_ni_144, ← zi_ni_288, nI_ltI, nI_leI, nI_eqI, nlt_T, nlt_F, nle_T, nle_F, neq_T, neq_F, nI_add, pk_mul, nI_clamp, q_inT, ng_lt, ng_tl, ng_le, ng_el, ng_eq, ng_qe, q_b0, q_b1, nar_0, nar_1, b01, b01', q_bn0, q_bn1, nar_n0, nar_n1, si_k, si_i, si_s, si_e, si_2, sl_1, sl_22, sl_k, sl_i, sl_s, sl_e, sp_1, sp_21, sp_22, sc_k, sc_i, sc_e, sc_2, mF_k, mM_k, mF_2, mM_2, mF_0, mM_11, ↓eu_X10_nest, ↓eu_X11_nest, ↓eu_X10_boardRefused, ↓eu_X11_askedFor, d0, d2, d3, f1, f2, f3, hae, hea, subx1, subx2]
                refine ev_mliesIn ht hj hth hm hnf (fun _ => ?_) (fun hl2 => ?_)
                · try simp (disch := first | omega | decide) only [Nat.reduceAdd, Nat.reduceMul, ↓ev_bd, ↓ev_ck, ↓ev_if, ↓ev_lt, ↓ev_jn, ↓ev_so, ↓reduceIte, ↓ev_within, ↓ev_in, ↓ev_isBoard, ↓ev_isGauge, ↓ev_isNumber, ↓ev_isSix, ↓ev_isEight, ↓ev_foundN, ↓ev_meetsN, ↓ev_found_1, ↓ev_meets_1, ↓ev_found_2, ↓ev_meets_2, ↓ev_found_3, ↓ev_meets_3, ↓ev_found_4, ↓ev_meets_4, ↓ev_found_5, ↓ev_meets_5, true_and, and_true, and_self, eq_self, not_true_eq_false, not_false_eq_true, ite_true, ite_false, true_or, or_true, false_or, or_false, false_and, and_false, ← zi_ni_0, ← zi_ni_1, ← zi_ni_2, ← zi_ni_3, ← zi_ni_4, ← zi_ni_5, ← zi_ni_6, ← zi_ni_7, ← zi_ni_8, ← zi_ni_9, ← zi_ni_10, ← zi_ni_12, ← zi_ni_24, ← zi_ni_25, ← zi_ni_40, ← zi_ni_45, ← zi_ni_47, ← zi_ni_48, ← zi_ni_95, ← zi_ni_96, ← zi_ni_97, ← zi_ni_100, ← zi_ni_144, ← zi_ni_288, nI_ltI, nI_leI, nI_eqI, nlt_T, nlt_F, nle_T, nle_F, neq_T, neq_F, nI_add, pk_mul, nI_clamp, q_inT, ng_lt, ng_tl, ng_le, ng_el, ng_eq, ng_qe, q_b0, q_b1, nar_0, nar_1, b01, b01', q_bn0, q_bn1, nar_n0, nar_n1, si_k, si_i, si_s, si_e, si_2, sl_1, sl_22, sl_k, sl_i, sl_s, sl_e, sp_1, sp_21, sp_22, sc_k, sc_i, sc_e, sc_2, mF_k, mM_k, mF_2, mM_2, mF_0, mM_11]
                  exact K'' _ _ ⟨rfl, h.succ⟩
                · rw [hl] at hl2
                  cases hl2
              · try simp (disch := first | omega | decide) only [Nat.reduceAdd, Nat.reduceMul, ↓ev_bd, ↓ev_ck, ↓ev_if, ↓ev_lt, ↓ev_jn, ↓ev_so, ↓reduceIte, ↓ev_within, ↓ev_in, ↓ev_isBoard, ↓ev_isGauge, ↓ev_isNumber, ↓ev_isSix, ↓ev_isEight, ↓ev_foundN, ↓ev_meetsN, ↓ev_found_1, ↓ev_meets_1, ↓ev_found_2, ↓ev_meets_2, ↓ev_found_3, ↓ev_meets_3, ↓ev_found_4, ↓ev_meets_4, ↓ev_found_5, ↓ev_meets_5, true_and, and_true, and_self, eq_self, not_true_eq_false, not_false_eq_true, ite_true, ite_false, true_or, or_true, false_or, or_false, false_and, and_false, ← zi_ni_0, ← zi_ni_1, ← zi_ni_2, ← zi_ni_3, ← zi_ni_4, ← zi_ni_5, ← zi_ni_6, ← zi_ni_7, ← zi_ni_8, ← zi_ni_9, ← zi_ni_10, ← zi_ni_12, ← zi_ni_24, ← zi_ni_25, ← zi_ni_40, ← zi_ni_45, ← zi_ni_47, ← zi_ni_48, ← zi_ni_95, ← zi_ni_96, ← zi_ni_97, ← zi_ni_100, ← zi_ni_144, ← zi_ni_288, nI_ltI, nI_leI, nI_eqI, nlt_T, nlt_F, nle_T, nle_F, neq_T, neq_F, nI_add, pk_mul, nI_clamp, q_inT, ng_lt, ng_tl, ng_le, ng_el, ng_eq, ng_qe, q_b0, q_b1, nar_0, nar_1, b01, b01', q_bn0, q_bn1, nar_n0, nar_n1, si_k, si_i, si_s, si_e, si_2, sl_1, sl_22, sl_k, sl_i, sl_s, sl_e, sp_1, sp_21, sp_22, sc_k, sc_i, sc_e, sc_2, mF_k, mM_k, mF_2, mM_2, mF_0, mM_11]
                refine ev_clear ht hnf hf b1 b2 (fun U u1 hE hC => ?_)
                have hUj : U j = true := lz_U hnf hE 6 j hj hth hjt (fun q => (hnf j hj hth q).2.2.2.2) hl
                have c10 : u1.1 2 j 10 = nI 1 := by rw [hC.2.2.1 j hj, hUj, if_pos rfl]
                have c12 : u1.1 2 j 12 = nI W := (hC.1 2 j 12 (by omega) (by omega) (by omega)).trans d2
                try simp (disch := first | omega | decide) only [Nat.reduceAdd, Nat.reduceMul, ↓ev_bd, ↓ev_ck, ↓ev_if, ↓ev_lt, ↓ev_jn, ↓ev_so, ↓reduceIte, ↓ev_within, ↓ev_in, ↓ev_isBoard, ↓ev_isGauge, ↓ev_isNumber, ↓ev_isSix, ↓ev_isEight, ↓ev_foundN, ↓ev_meetsN, ↓ev_found_1, ↓ev_meets_1, ↓ev_found_2, ↓ev_meets_2, ↓ev_found_3, ↓ev_meets_3, ↓ev_found_4, ↓ev_meets_4, ↓ev_found_5, ↓ev_meets_5, true_and, and_true, and_self, eq_self, not_true_eq_false, not_false_eq_true, ite_true, ite_false, true_or, or_true, false_or, or_false, false_and, and_false, ← zi_ni_0, ← zi_ni_1, ← zi_ni_2, ← zi_ni_3, ← zi_ni_4, ← zi_ni_5, ← zi_ni_6, ← zi_ni_7, ← zi_ni_8, ← zi_ni_9, ← zi_ni_10, ← zi_ni_12, ← zi_ni_24, ← zi_ni_25, ← zi_ni_40, ← zi_ni_45, ← zi_ni_47, ← zi_ni_48, ← zi_ni_95, ← zi_ni_96, ← zi_ni_97, ← zi_ni_100, ← zi_ni_144, ← zi_ni_288, nI_ltI, nI_leI, nI_eqI, nlt_T, nlt_F, nle_T, nle_F, neq_T, neq_F, nI_add, pk_mul, nI_clamp, q_inT, ng_lt, ng_tl, ng_le, ng_el, ng_eq, ng_qe, q_b0, q_b1, nar_0, nar_1, b01, b01', q_bn0, q_bn1, nar_n0, nar_n1, si_k, si_i, si_s, si_e, si_2, sl_1, sl_22, sl_k, sl_i, sl_s, sl_e, sp_1, sp_21, sp_22, sc_k, sc_i, sc_e, sc_2, mF_k, mM_k, mF_2, mM_2, mF_0, mM_11]
                refine ev_reset (fun u2 r0 r1 r2 r3 => ?_)
                have w0 : u2.1 2 t 11 = nI 2 := congrFun (congrFun r3 0) 0
                have w1 : u2.1 2 t 12 = nI (2 * wd) := congrFun (congrFun r3 0) 1
                have w2 : u2.1 2 t 13 = nI (2 * hg) := congrFun (congrFun r3 0) 2
                try simp (disch := first | omega | decide) only [Nat.reduceAdd, Nat.reduceMul, ↓ev_bd, ↓ev_ck, ↓ev_if, ↓ev_lt, ↓ev_jn, ↓ev_so, ↓reduceIte, ↓ev_within, ↓ev_in, ↓ev_isBoard, ↓ev_isGauge, ↓ev_isNumber, ↓ev_isSix, ↓ev_isEight, ↓ev_foundN, ↓ev_meetsN, ↓ev_found_1, ↓ev_meets_1, ↓ev_found_2, ↓ev_meets_2, ↓ev_found_3, ↓ev_meets_3, ↓ev_found_4, ↓ev_meets_4, ↓ev_found_5, ↓ev_meets_5, true_and, and_true, and_self, eq_self, not_true_eq_false, not_false_eq_true, ite_true, ite_false, true_or, or_true, false_or, or_false, false_and, and_false, ← zi_ni_0, ← zi_ni_1, ← zi_ni_2, ← zi_ni_3, ← zi_ni_4, ← zi_ni_5, ← zi_ni_6, ← zi_ni_7, ← zi_ni_8, ← zi_ni_9, ← zi_ni_10, ← zi_ni_12, ← zi_ni_24, ← zi_ni_25, ← zi_ni_40, ← zi_ni_45, ← zi_ni_47, ← zi_ni_48, ← zi_ni_95, ← zi_ni_96, ← zi_ni_97, ← zi_ni_100, ← zi_ni_144, ← zi_ni_288, nI_ltI, nI_leI, nI_eqI, nlt_T, nlt_F, nle_T, nle_F, neq_T, neq_F, nI_add, pk_mul, nI_clamp, q_inT, ng_lt, ng_tl, ng_le, ng_el, ng_eq, ng_qe, q_b0, q_b1, nar_0, nar_1, b01, b01', q_bn0, q_bn1, nar_n0, nar_n1, si_k, si_i, si_s, si_e, si_2, sl_1, sl_22, sl_k, sl_i, sl_s, sl_e, sp_1, sp_21, sp_22, sc_k, sc_i, sc_e, sc_2, mF_k, mM_k, mF_2, mM_2, mF_0, mM_11]
                have hcj : cB u2 j = cB μ j := (by
                  rw [← ClC_cB hC j]
                  apply cB_ext <;> exact funext (fun s => r0 _ j s (by omega)))
                refine ev_lay (W := W) (H := H) (x := X) (y := Y) (hg := hg) hjt (by omega) (by omega) (by omega) (by omega) (by omega) hWH w1 w2 ((r0 2 j 12 (by omega)).trans c12) ?_ ?_ ((cB_o (by decide)).trans ((cB_o (by decide)).trans ((cB_o (by decide)).trans r3))) ((cB_o (by decide)).trans ((cB_o (by decide)).trans ((cB_o (by decide)).trans hcj))) (fun u4 l0 l1 l2 l3 => ?_)
                · rw [si_s (by decide), si_e]
                · rw [si_e]
                have x1 : u4.1 2 t 12 = nI (2 * wd) := (l0 2 t 12 (by omega)).trans w1
                have x2 : u4.1 2 t 13 = nI (2 * hg) := (l0 2 t 13 (by omega)).trans w2
                have x3 : u4.1 5 t 2 = nI j := (l0 5 t 2 (by omega)).trans (by rw [si_s (by decide), si_s (by decide), si_e])
                have x4 : u4.1 5 t 3 = nI X := (l0 5 t 3 (by omega)).trans (by rw [si_s (by decide), si_e])
                have x5 : u4.1 5 t 4 = nI Y := (l0 5 t 4 (by omega)).trans (by rw [si_e])
                have x6 : u4.1 2 t 10 = nI 1 := (l0 2 t 10 (by omega)).trans r2
                have x7 : u4.1 2 t 11 = nI 2 := (l0 2 t 11 (by omega)).trans w0
                simp (disch := first | omega | decide) only [Nat.reduceAdd, Nat.reduceMul, ↓ev_bd, ↓ev_ck, ↓ev_if, ↓ev_lt, ↓ev_jn, ↓ev_so, ↓reduceIte, ↓ev_within, ↓ev_in, ↓ev_isBoard, ↓ev_isGauge, ↓ev_isNumber, ↓ev_isSix, ↓ev_isEight, ↓ev_foundN, ↓ev_meetsN, ↓ev_found_1, ↓ev_meets_1, ↓ev_found_2, ↓ev_meets_2, ↓ev_found_3, ↓ev_meets_3, ↓ev_found_4, ↓ev_meets_4, ↓ev_found_5, ↓ev_meets_5, true_and, and_true, and_self, eq_self, not_true_eq_false, not_false_eq_true, ite_true, ite_false, true_or, or_true, false_or, or_false, false_and, and_false, ← zi_ni_0, ← zi_ni_1, ← zi_ni_2, ← zi_ni_3, ← zi_ni_4, ← zi_ni_5, ← zi_ni_6, ← zi_ni_7, ← zi_ni_8, ← zi_ni_9, ← zi_ni_10, ← zi_ni_12, ← zi_ni_24, ← zi_ni_25, ← zi_ni_40, ← zi_ni_45, ← zi_ni_47, ← zi_ni_48, ← zi_ni_95, ← zi_ni_96, ← zi_ni_97, ← zi_ni_100, ← zi_ni_144, ← zi_ni_288, nI_ltI, nI_leI, nI_eqI, nlt_T, nlt_F, nle_T, nle_F, neq_T, neq_F, nI_add, pk_mul, nI_clamp, q_inT, ng_lt, ng_tl, ng_le, ng_el, ng_eq, ng_qe, q_b0, q_b1, nar_0, nar_1, b01, b01', q_bn0, q_bn1, nar_n0, nar_n1, si_k, si_i, si_s, si_e, si_2, sl_1, sl_22, sl_k, sl_i, sl_s, sl_e, sp_1, sp_21, sp_22, sc_k, sc_i, sc_e, sc_2, mF_k, mM_k, mF_2, mM_2, mF_0, mM_11, ↓eu_X0_cells, x1, x2]
                have hS : CS μ U t u4 := CS.of hC (fun k i s q => by rw [l0 k i s (by omega), si_n (by omega), si_n (by omega), si_n (by omega)]; exact r0 k i s (by omega)) (l1.trans r1)
                refine K _ _ ?_
                show Ev (f_X11_nest _ _ _ _ _ _ u4) _
                have e74 : u4.1 74 = μ.1 74 := hS.1 74 (by decide)
                have e75 : u4.1 75 = μ.1 75 := hS.1 75 (by decide)
                have e76 : u4.1 76 = μ.1 76 := hS.1 76 (by decide)
                have e96 : u4.1 96 = μ.1 96 := hS.1 96 (by decide)
                have e105 : u4.1 105 = μ.1 105 := hS.1 105 (by decide)
                have e108 : u4.1 108 = μ.1 108 := hS.1 108 (by decide)
                refine Ev.hide (fun P'' K'' => ?_)
                simp (disch := first | omega | decide) only [Nat.reduceAdd, Nat.reduceMul, ↓ev_bd, ↓ev_ck, ↓ev_if, ↓ev_lt, ↓ev_jn, ↓ev_so, ↓reduceIte, ↓ev_within, ↓ev_in, ↓ev_isBoard, ↓ev_isGauge, ↓ev_isNumber, ↓ev_isSix, ↓ev_isEight, ↓ev_foundN, ↓ev_meetsN, ↓ev_found_1, ↓ev_meets_1, ↓ev_found_2, ↓ev_meets_2, ↓ev_found_3, ↓ev_meets_3, ↓ev_found_4, ↓ev_meets_4, ↓ev_found_5, ↓ev_meets_5, true_and, and_true, and_self, eq_self, not_true_eq_false, not_false_eq_true, ite_true, ite_false, true_or, or_true, false_or, or_false, false_and, and_false, ← zi_ni_0, ← zi_ni_1, ← zi_ni_2, ← zi_ni_3, ← zi_ni_4, ← zi_ni_5, ← zi_ni_6, ← zi_ni_7, ← zi_ni_8, ← zi_ni_9, ← zi_ni_10, ← zi_ni_12, ← zi_ni_24, ← zi_ni_25, ← zi_ni_40, ← zi_ni_45, ← zi_ni_47, ← zi_ni_48, ← zi_ni_95, ← zi_ni_96, ← zi_ni_97, ← zi_ni_100, ← zi_ni_144, ← zi_ni_288, nI_ltI, nI_leI, nI_eqI, nlt_T, nlt_F, nle_T, nle_F, neq_T, neq_F, nI_add, pk_mul, nI_clamp, q_inT, ng_lt, ng_tl, ng_le, ng_el, ng_eq, ng_qe, q_b0, q_b1, nar_0, nar_1, b01, b01', q_bn0, q_bn1, nar_n0, nar_n1, si_k, si_i, si_s, si_e, si_2, sl_1, sl_22, sl_k, sl_i, sl_s, sl_e, sp_1, sp_21, sp_22, sc_k, sc_i, sc_e, sc_2, mF_k, mM_k, mF_2, mM_2, mF_0, mM_11, ↓eu_X10_nest, ↓eu_X11_nest, ↓eu_X10_boardRefused, ↓eu_X11_askedFor, e74, e75, e76, f1, f2, f3, hae, hea, subx1, subx2]
                refine ev_mliesIn ht hj hth (hm.of e74 e96) hnf (fun hl2 => ?_) (fun _ => ?_)
                · rw [hl] at hl2
                  cases hl2
                try simp (disch := first | omega | decide) only [Nat.reduceAdd, Nat.reduceMul, ↓ev_bd, ↓ev_ck, ↓ev_if, ↓ev_lt, ↓ev_jn, ↓ev_so, ↓reduceIte, ↓ev_within, ↓ev_in, ↓ev_isBoard, ↓ev_isGauge, ↓ev_isNumber, ↓ev_isSix, ↓ev_isEight, ↓ev_foundN, ↓ev_meetsN, ↓ev_found_1, ↓ev_meets_1, ↓ev_found_2, ↓ev_meets_2, ↓ev_found_3, ↓ev_meets_3, ↓ev_found_4, ↓ev_meets_4, ↓ev_found_5, ↓ev_meets_5, true_and, and_true, and_self, eq_self, not_true_eq_false, not_false_eq_true, ite_true, ite_false, true_or, or_true, false_or, or_false, false_and, and_false, ← zi_ni_0, ← zi_ni_1, ← zi_ni_2, ← zi_ni_3, ← zi_ni_4, ← zi_ni_5, ← zi_ni_6, ← zi_ni_7, ← zi_ni_8, ← zi_ni_9, ← zi_ni_10, ← zi_ni_12, ← zi_ni_24, ← zi_ni_25, ← zi_ni_40, ← zi_ni_45, ← zi_ni_47, ← zi_ni_48, ← zi_ni_95, ← zi_ni_96, ← zi_ni_97, ← zi_ni_100, ← zi_ni_144, ← zi_ni_288, nI_ltI, nI_leI, nI_eqI, nlt_T, nlt_F, nle_T, nle_F, neq_T, neq_F, nI_add, pk_mul, nI_clamp, q_inT, ng_lt, ng_tl, ng_le, ng_el, ng_eq, ng_qe, q_b0, q_b1, nar_0, nar_1, b01, b01', q_bn0, q_bn1, nar_n0, nar_n1, si_k, si_i, si_s, si_e, si_2, sl_1, sl_22, sl_k, sl_i, sl_s, sl_e, sp_1, sp_21, sp_22, sc_k, sc_i, sc_e, sc_2, mF_k, mM_k, mF_2, mM_2, mF_0, mM_11]
                refine ev_mclear ht hnf (hm.of e74 e96) (fun k hk => by rw [e105]; exact b3 k hk) (fun k hk => by rw [e108]; exact b4 k hk) (fun V u5 hE2 hC2 => ?_)
                have hVj : V j = true := by rw [← hE.uniq hnf hE2 j hj]; exact hUj
                have m1 : mB u5 j = cB μ j := by
                  rw [ClM_mBU hC2 hj hVj, ← hEq]
                  exact mB_ext (hS.1 _ (by decide)) (hS.1 _ (by decide)) (hS.1 _ (by decide)) (hS.1 _ (by decide)) (hS.1 _ (by decide)) (hS.1 _ (by decide)) (hS.1 _ (by decide)) (hS.1 _ (by decide)) (hS.1 _ (by decide)) (hS.1 _ (by decide)) (hS.1 _ (by decide)) (hS.1 _ (by decide)) (hS.1 _ (by decide)) (hS.1 _ (by decide)) (hS.1 _ (by decide)) (hS.1 _ (by decide)) (hS.1 _ (by decide)) (hS.1 _ (by decide)) (hS.1 _ (by decide)) (hS.1 _ (by decide)) (hS.1 _ (by decide)) (hS.1 _ (by decide))
                try simp (disch := first | omega | decide) only [Nat.reduceAdd, Nat.reduceMul, ↓ev_bd, ↓ev_ck, ↓ev_if, ↓ev_lt, ↓ev_jn, ↓ev_so, ↓reduceIte, ↓ev_within, ↓ev_in, ↓ev_isBoard, ↓ev_isGauge, ↓ev_isNumber, ↓ev_isSix, ↓ev_isEight, ↓ev_foundN, ↓ev_meetsN, ↓ev_found_1, ↓ev_meets_1, ↓ev_found_2, ↓ev_meets_2, ↓ev_found_3, ↓ev_meets_3, ↓ev_found_4, ↓ev_meets_4, ↓ev_found_5, ↓ev_meets_5, true_and, and_true, and_self, eq_self, not_true_eq_false, not_false_eq_true, ite_true, ite_false, true_or, or_true, false_or, or_false, false_and, and_false, ← zi_ni_0, ← zi_ni_1, ← zi_ni_2, ← zi_ni_3, ← zi_ni_4, ← zi_ni_5, ← zi_ni_6, ← zi_ni_7, ← zi_ni_8, ← zi_ni_9, ← zi_ni_10, ← zi_ni_12, ← zi_ni_24, ← zi_ni_25, ← zi_ni_40, ← zi_ni_45, ← zi_ni_47, ← zi_ni_48, ← zi_ni_95, ← zi_ni_96, ← zi_ni_97, ← zi_ni_100, ← zi_ni_144, ← zi_ni_288, nI_ltI, nI_leI, nI_eqI, nlt_T, nlt_F, nle_T, nle_F, neq_T, neq_F, nI_add, pk_mul, nI_clamp, q_inT, ng_lt, ng_tl, ng_le, ng_el, ng_eq, ng_qe, q_b0, q_b1, nar_0, nar_1, b01, b01', q_bn0, q_bn1, nar_n0, nar_n1, si_k, si_i, si_s, si_e, si_2, sl_1, sl_22, sl_k, sl_i, sl_s, sl_e, sp_1, sp_21, sp_22, sc_k, sc_i, sc_e, sc_2, mF_k, mM_k, mF_2, mM_2, mF_0, mM_11]
                refine ev_begin (by omega) (fun u6 s0 s1 s2 s3 s4 => ?_)
                have y1 : u6.1 75 0 t = nI (2 * wd) := congrFun (congrFun s2 0) 1
                have y2 : u6.1 75 0 j = nI W := (congrFun (congrFun ((s3 j hjt).trans m1) 0) 1).trans d2
                try simp (disch := first | omega | decide) only [Nat.reduceAdd, Nat.reduceMul, ↓ev_bd, ↓ev_ck, ↓ev_if, ↓ev_lt, ↓ev_jn, ↓ev_so, ↓reduceIte, ↓ev_within, ↓ev_in, ↓ev_isBoard, ↓ev_isGauge, ↓ev_isNumber, ↓ev_isSix, ↓ev_isEight, ↓ev_foundN, ↓ev_meetsN, ↓ev_found_1, ↓ev_meets_1, ↓ev_found_2, ↓ev_meets_2, ↓ev_found_3, ↓ev_meets_3, ↓ev_found_4, ↓ev_meets_4, ↓ev_found_5, ↓ev_meets_5, true_and, and_true, and_self, eq_self, not_true_eq_false, not_false_eq_true, ite_true, ite_false, true_or, or_true, false_or, or_false, false_and, and_false, ← zi_ni_0, ← zi_ni_1, ← zi_ni_2, ← zi_ni_3, ← zi_ni_4, ← zi_ni_5, ← zi_ni_6, ← zi_ni_7, ← zi_ni_8, ← zi_ni_9, ← zi_ni_10, ← zi_ni_12, ← zi_ni_24, ← zi_ni_25, ← zi_ni_40, ← zi_ni_45, ← zi_ni_47, ← zi_ni_48, ← zi_ni_95, ← zi_ni_96, ← zi_ni_97, ← zi_ni_100, ← zi_ni_144, ← zi_ni_288, nI_ltI, nI_leI, nI_eqI, nlt_T, nlt_F, nle_T, nle_F, neq_T, neq_F, nI_add, pk_mul, nI_clamp, q_inT, ng_lt, ng_tl, ng_le, ng_el, ng_eq, ng_qe, q_b0, q_b1, nar_0, nar_1, b01, b01', q_bn0, q_bn1, nar_n0, nar_n1, si_k, si_i, si_s, si_e, si_2, sl_1, sl_22, sl_k, sl_i, sl_s, sl_e, sp_1, sp_21, sp_22, sc_k, sc_i, sc_e, sc_2, mF_k, mM_k, mF_2, mM_2, mF_0, mM_11]
                refine ev_mlay (W := W) (H := H) (x := X) (y := Y) (hg := hg) ht hj hjt (by omega) (by omega) (by omega) (by omega) (by omega) hWH y1 y2 ?_ ?_ ?_ ((mB_o (by decide)).trans ((mB_o (by decide)).trans ((mB_o (by decide)).trans s2))) ((mB_o (by decide)).trans ((mB_o (by decide)).trans ((mB_o (by decide)).trans ((s3 j hjt).trans m1)))) (fun u8 t0 t1 t2 t3 t4 => ?_)
                · rw [si_k (by decide), si_e]
                · rw [si_e]
                · rw [si_k (by decide), si_k (by decide), si_e]
                have z1 : u8.1 96 0 t = nI j := (t0 96 0 t (by omega)).trans (by rw [si_k (by decide), si_k (by decide), si_e])
                have z2 : u8.1 97 0 t = nI X := (t0 97 0 t (by omega)).trans (by rw [si_k (by decide), si_e])
                have z3 : u8.1 98 0 t = nI Y := (t0 98 0 t (by omega)).trans (by rw [si_e])
                try simp (disch := first | omega | decide) only [Nat.reduceAdd, Nat.reduceMul, ↓ev_bd, ↓ev_ck, ↓ev_if, ↓ev_lt, ↓ev_jn, ↓ev_so, ↓reduceIte, ↓ev_within, ↓ev_in, ↓ev_isBoard, ↓ev_isGauge, ↓ev_isNumber, ↓ev_isSix, ↓ev_isEight, ↓ev_foundN, ↓ev_meetsN, ↓ev_found_1, ↓ev_meets_1, ↓ev_found_2, ↓ev_meets_2, ↓ev_found_3, ↓ev_meets_3, ↓ev_found_4, ↓ev_meets_4, ↓ev_found_5, ↓ev_meets_5, true_and, and_true, and_self, eq_self, not_true_eq_false, not_false_eq_true, ite_true, ite_false, true_or, or_true, false_or, or_false, false_and, and_false, ← zi_ni_0, ← zi_ni_1, ← zi_ni_2, ← zi_ni_3, ← zi_ni_4, ← zi_ni_5, ← zi_ni_6, ← zi_ni_7, ← zi_ni_8, ← zi_ni_9, ← zi_ni_10, ← zi_ni_12, ← zi_ni_24, ← zi_ni_25, ← zi_ni_40, ← zi_ni_45, ← zi_ni_47, ← zi_ni_48, ← zi_ni_95, ← zi_ni_96, ← zi_ni_97, ← zi_ni_100, ← zi_ni_144, ← zi_ni_288, nI_ltI, nI_leI, nI_eqI, nlt_T, nlt_F, nle_T, nle_F, neq_T, neq_F, nI_add, pk_mul, nI_clamp, q_inT, ng_lt, ng_tl, ng_le, ng_el, ng_eq, ng_qe, q_b0, q_b1, nar_0, nar_1, b01, b01', q_bn0, q_bn1, nar_n0, nar_n1, si_k, si_i, si_s, si_e, si_2, sl_1, sl_22, sl_k, sl_i, sl_s, sl_e, sp_1, sp_21, sp_22, sc_k, sc_i, sc_e, sc_2, mF_k, mM_k, mF_2, mM_2, mF_0, mM_11]
                have hans : nI (2 * wd * (2 * hg)) = nI (4 * wd * hg) := by
                  rw [show 2 * wd * (2 * hg) = 4 * wd * hg by rw [Nat.mul_mul_mul_comm, Nat.mul_assoc 4]]
                refine K'' _ _ ⟨hans, ?_⟩
                have hMS : MS u4 V t u8 := MS.of hC2 (fun k i s q1 q2 q3 q4 => by
                  have k1 : ¬ (k = 91 ∧ i = 0) := fun z => q1 ⟨by rw [z.1]; rfl, z.2⟩
                  have k2 : ¬ (k = 92 ∧ i = 0) := fun z => q1 ⟨by rw [z.1]; rfl, z.2⟩
                  rw [t0 k i s (by omega), si_n (by omega), si_n (by omega), si_n (by omega)]
                  exact s0 k i s q1 q3 q4) (t1.trans s1) (fun z q => by rw [t2 z q, mB_o (by decide), mB_o (by decide), mB_o (by decide)]; exact s3 z q)
                have cc : ∀ x, cB u8 x = cB u4 x := fun x => by apply cB_ext <;> exact congrFun (hMS.1 _ (nMK (by decide)) (by decide) (by decide) (by decide)) _
                have g2' : u8.1 2 = u4.1 2 := hMS.1 2 (nMK (by decide)) (by decide) (by decide) (by decide)
                have g5' : u8.1 5 = u4.1 5 := hMS.1 5 (nMK (by decide)) (by decide) (by decide) (by decide)
                have g45 : u8.1 45 = u4.1 45 := hMS.1 45 (nMK (by decide)) (by decide) (by decide) (by decide)
                have g46 : u8.1 46 = u4.1 46 := hMS.1 46 (nMK (by decide)) (by decide) (by decide) (by decide)
                have hct : cB u8 t = layF wd W X Y (cB μ j) (rstB (nI 2) (nI (2 * wd)) (nI (2 * hg)) (cB μ t)) (wd * hg) := by
                  rw [cc, l2, ClC_cB hC t]
                have hb3t := h.2.2.2.1 t ht
                have hmt : mB u8 t = cB u8 t := by
                  rw [hct, t3]
                  rw [show rstB (nI 2) (nI (2 * wd)) (nI (2 * hg)) (mB u5 t) = rstB (nI 2) (nI (2 * wd)) (nI (2 * hg)) (cB μ t) from rstB_eq (fun tb htb => by
                    rw [ClM_mB hC2 t tb htb, ← hb3t.1 tb htb]
                    exact congrFun (mB_ext (hS.1 _ (by decide)) (hS.1 _ (by decide)) (hS.1 _ (by decide)) (hS.1 _ (by decide)) (hS.1 _ (by decide)) (hS.1 _ (by decide)) (hS.1 _ (by decide)) (hS.1 _ (by decide)) (hS.1 _ (by decide)) (hS.1 _ (by decide)) (hS.1 _ (by decide)) (hS.1 _ (by decide)) (hS.1 _ (by decide)) (hS.1 _ (by decide)) (hS.1 _ (by decide)) (hS.1 _ (by decide)) (hS.1 _ (by decide)) (hS.1 _ (by decide)) (hS.1 _ (by decide)) (hS.1 _ (by decide)) (hS.1 _ (by decide)) (hS.1 _ (by decide))) tb)]
                have hcD : cB u8 j = cB μ j := by
                  rw [cc, hS.2.2.1 j hjt]
                have hW2 : nW (cB u8 j) = W := by
                  rw [hcD]
                  show (μ.1 2 j 12).toNatClampNeg = W
                  rw [d2]
                  exact nI_clamp (by omega)
                have hH2 : nH (cB u8 j) = H := by
                  rw [hcD]
                  show (μ.1 2 j 13).toNatClampNeg = H
                  rw [d3]
                  exact nI_clamp (by omega)
                have hWFj : WF (n + 1) (cB μ j) := hWF
                refine Rel_fin h ht hf hnf hE hE2 hS hMS ⟨fun tb _ => by rw [hmt], .inr ⟨?_, by rw [hmt], ?_, fun _ => ⟨j, X, Y, wd, hg, hj, hjt, ?_, z1, ?_, ?_, z2, ?_, z3, ?_, ?_, by omega, by omega, by omega, by omega, ?_, ?_, fun k hk => ⟨?_, ?_, ?_⟩⟩⟩⟩ (R4_nest (j := t) (D := j) h.2.2.2.2.1 ht hj hjt ?_ (fun x hx q e1 e2 => ?_))
                · rw [g2']; exact x6
                · rw [hct]
                  exact WF_layF hWFj (rst_WF (k := 2) (by omega) (by omega) (by omega) (by omega) (by omega)) _
                · rw [g5']; exact x3
                · rw [g2', hS.2.2.2.1 j hj hjt, hUj, if_pos rfl]; rfl
                · rw [g5']; exact x4
                · rw [g5']; exact x5
                · show (u8.1 2 t 12).toNatClampNeg = 2 * wd
                  rw [g2', x1]
                  exact nI_clamp (by omega)
                · show (u8.1 2 t 13).toNatClampNeg = 2 * hg
                  rw [g2', x2]
                  exact nI_clamp (by omega)
                · rw [hW2]; omega
                · rw [hH2]; omega
                · rw [g45, t4 k hk, (l3 k hk).1]
                · have hk12 : k < 12 := Nat.lt_of_lt_of_le hk (Nat.mul_le_mul (show wd ≤ 4 by omega) (show hg ≤ 3 by omega))
                  rw [g46, (l3 k hk).2, t0 100 0 _ (by omega), si_k (by decide), si_k (by decide), si_k (by decide)]
                  exact (s4 k (by omega)).2
                · rw [g45, (l3 k hk).1]
                  exact hWFj.2.1.2.1 _
                · rw [g5']; exact x3
                · rw [g2', hS.2.2.2.1 x hx q] at e1
                  have e11 : u4.1 2 x 11 = μ.1 2 x 11 := congrFun (congrFun (hS.2.2.1 x q) 0) 0
                  rw [g2', e11] at e2
                  have hu : U x = true := by
                    cases hu : U x
                    · rw [hu, if_neg (by decide)] at e1
                      exact absurd e1 (by decide +kernel)
                    · rfl
                  have hu' := (hE x hx).mp hu
                  have hnx : ne x = true := (hf.2.1 x hx hu'.1).mp e2
                  have e5 : μ.1 5 x 2 = nI (on x) := hf.2.2 x hx hu'.1 hnx
                  refine ⟨by rw [hf.1 x hx, hu'.1, if_pos rfl]; rfl, e2, by rw [g5', (hS.2.2.2.2.1 x q).1], fun z => ?_⟩
                  rw [e5] at z
                  have hon := (hnf x hx hu'.1 hnx).1
                  have z2 : on x = t := (nI_eq (by omega) (by omega)).mp z
                  have := hu'.2.2 hnx
                  rw [z2] at this
                  exact ((hE t ht).mp this).2.1 rfl
            · simp (disch := first | omega | decide) only [Nat.reduceAdd, Nat.reduceMul, ↓ev_bd, ↓ev_ck, ↓ev_if, ↓ev_lt, ↓ev_jn, ↓ev_so, ↓reduceIte, ↓ev_within, ↓ev_in, ↓ev_isBoard, ↓ev_isGauge, ↓ev_isNumber, ↓ev_isSix, ↓ev_isEight, ↓ev_foundN, ↓ev_meetsN, ↓ev_found_1, ↓ev_meets_1, ↓ev_found_2, ↓ev_meets_2, ↓ev_found_3, ↓ev_meets_3, ↓ev_found_4, ↓ev_meets_4, ↓ev_found_5, ↓ev_meets_5, true_and, and_true, and_self, eq_self, not_true_eq_false, not_false_eq_true, ite_true, ite_false, true_or, or_true, false_or, or_false, false_and, and_false, ← zi_ni_0, ← zi_ni_1, ← zi_ni_2, ← zi_ni_3, ← zi_ni_4, ← zi_ni_5, ← zi_ni_6, ← zi_ni_7, ← zi_ni_8, ← zi_ni_9, ← zi_ni_10, ← zi_ni_12, ← zi_ni_24, ← zi_ni_25, ← zi_ni_40, ← zi_ni_45, ← zi_ni_47, ← zi_ni_48, ← zi_ni_95, ← zi_ni_96, ← zi_ni_97, ← zi_ni_100, ← zi_ni_144, ← zi_ni_288, nI_ltI, nI_leI, nI_eqI, nlt_T, nlt_F, nle_T, nle_F, neq_T, neq_F, nI_add, pk_mul, nI_clamp, q_inT, ng_lt, ng_tl, ng_le, ng_el, ng_eq, ng_qe, q_b0, q_b1, nar_0, nar_1, b01, b01', q_bn0, q_bn1, nar_n0, nar_n1, si_k, si_i, si_s, si_e, si_2, sl_1, sl_22, sl_k, sl_i, sl_s, sl_e, sp_1, sp_21, sp_22, sc_k, sc_i, sc_e, sc_2, mF_k, mM_k, mF_2, mM_2, mF_0, mM_11, ↓eu_X10_nest, ↓eu_X11_nest, ↓eu_X10_boardRefused, ↓eu_X11_askedFor, d0, d2, d3, f1, f2, f3, hae, hea, subx1, subx2, hfx, hfy]
              exact h.succ
        · have hy2 : (nI 0 ≤ y) = ¬ (y < nI 0) := propext x_nlt.symm
          by_cases hx : x < nI 0 <;> by_cases hy : y < nI 0 <;> by_cases hw : (nI 1 ≤ w ∧ w ≤ nI 4) <;> by_cases hv : (nI 1 ≤ v ∧ v ≤ nI 3) <;> first | (simp (disch := first | omega | decide) only [Nat.reduceAdd, Nat.reduceMul, ↓ev_bd, ↓ev_ck, ↓ev_if, ↓ev_lt, ↓ev_jn, ↓ev_so, ↓reduceIte, ↓ev_within, ↓ev_in, ↓ev_isBoard, ↓ev_isGauge, ↓ev_isNumber, ↓ev_isSix, ↓ev_isEight, ↓ev_foundN, ↓ev_meetsN, ↓ev_found_1, ↓ev_meets_1, ↓ev_found_2, ↓ev_meets_2, ↓ev_found_3, ↓ev_meets_3, ↓ev_found_4, ↓ev_meets_4, ↓ev_found_5, ↓ev_meets_5, true_and, and_true, and_self, eq_self, not_true_eq_false, not_false_eq_true, ite_true, ite_false, true_or, or_true, false_or, or_false, false_and, and_false, ← zi_ni_0, ← zi_ni_1, ← zi_ni_2, ← zi_ni_3, ← zi_ni_4, ← zi_ni_5, ← zi_ni_6, ← zi_ni_7, ← zi_ni_8, ← zi_ni_9, ← zi_ni_10, ← zi_ni_12, ← zi_ni_24, ← zi_ni_25, ← zi_ni_40, ← zi_ni_45, ← zi_ni_47, ← zi_ni_48, ← zi_ni_95, ← zi_ni_96, ← zi_ni_97, ← zi_ni_100, ← zi_ni_144, ← zi_ni_288, nI_ltI, nI_leI, nI_eqI, nlt_T, nlt_F, nle_T, nle_F, neq_T, neq_F, nI_add, pk_mul, nI_clamp, q_inT, ng_lt, ng_tl, ng_le, ng_el, ng_eq, ng_qe, q_b0, q_b1, nar_0, nar_1, b01, b01', q_bn0, q_bn1, nar_n0, nar_n1, si_k, si_i, si_s, si_e, si_2, sl_1, sl_22, sl_k, sl_i, sl_s, sl_e, sp_1, sp_21, sp_22, sc_k, sc_i, sc_e, sc_2, mF_k, mM_k, mF_2, mM_2, mF_0, mM_11, ↓eu_X10_nest, ↓eu_X11_nest, ↓eu_X10_boardRefused, ↓eu_X11_askedFor, hae, hea, hx, hy, hy2, hw, hv]; exact h.succ) | exact absurd ⟨hx, hy, hw, hv⟩ good
      · by_cases hx : x < nI 0 <;> by_cases hy : y < nI 0 <;> by_cases hw : (nI 1 ≤ w ∧ w ≤ nI 4) <;> by_cases hv : (nI 1 ≤ v ∧ v ≤ nI 3) <;> (simp (disch := first | omega | decide) only [Nat.reduceAdd, Nat.reduceMul, ↓ev_bd, ↓ev_ck, ↓ev_if, ↓ev_lt, ↓ev_jn, ↓ev_so, ↓reduceIte, ↓ev_within, ↓ev_in, ↓ev_isBoard, ↓ev_isGauge, ↓ev_isNumber, ↓ev_isSix, ↓ev_isEight, ↓ev_foundN, ↓ev_meetsN, ↓ev_found_1, ↓ev_meets_1, ↓ev_found_2, ↓ev_meets_2, ↓ev_found_3, ↓ev_meets_3, ↓ev_found_4, ↓ev_meets_4, ↓ev_found_5, ↓ev_meets_5, true_and, and_true, and_self, eq_self, not_true_eq_false, not_false_eq_true, ite_true, ite_false, true_or, or_true, false_or, or_false, false_and, and_false, ← zi_ni_0, ← zi_ni_1, ← zi_ni_2, ← zi_ni_3, ← zi_ni_4, ← zi_ni_5, ← zi_ni_6, ← zi_ni_7, ← zi_ni_8, ← zi_ni_9, ← zi_ni_10, ← zi_ni_12, ← zi_ni_24, ← zi_ni_25, ← zi_ni_40, ← zi_ni_45, ← zi_ni_47, ← zi_ni_48, ← zi_ni_95, ← zi_ni_96, ← zi_ni_97, ← zi_ni_100, ← zi_ni_144, ← zi_ni_288, nI_ltI, nI_leI, nI_eqI, nlt_T, nlt_F, nle_T, nle_F, neq_T, neq_F, nI_add, pk_mul, nI_clamp, q_inT, ng_lt, ng_tl, ng_le, ng_el, ng_eq, ng_qe, q_b0, q_b1, nar_0, nar_1, b01, b01', q_bn0, q_bn1, nar_n0, nar_n1, si_k, si_i, si_s, si_e, si_2, sl_1, sl_22, sl_k, sl_i, sl_s, sl_e, sp_1, sp_21, sp_22, sc_k, sc_i, sc_e, sc_2, mF_k, mM_k, mF_2, mM_2, mF_0, mM_11, ↓eu_X10_nest, ↓eu_X11_nest, ↓eu_X10_boardRefused, ↓eu_X11_askedFor, hae, hea, he, hx, hy, hw, hv]; exact h.succ)
  · simp (disch := first | omega | decide) only [Nat.reduceAdd, Nat.reduceMul, ↓ev_bd, ↓ev_ck, ↓ev_if, ↓ev_lt, ↓ev_jn, ↓ev_so, ↓reduceIte, ↓ev_within, ↓ev_in, ↓ev_isBoard, ↓ev_isGauge, ↓ev_isNumber, ↓ev_isSix, ↓ev_isEight, ↓ev_foundN, ↓ev_meetsN, ↓ev_found_1, ↓ev_meets_1, ↓ev_found_2, ↓ev_meets_2, ↓ev_found_3, ↓ev_meets_3, ↓ev_found_4, ↓ev_meets_4, ↓ev_found_5, ↓ev_meets_5, true_and, and_true, and_self, eq_self, not_true_eq_false, not_false_eq_true, ite_true, ite_false, true_or, or_true, false_or, or_false, false_and, and_false, ← zi_ni_0, ← zi_ni_1, ← zi_ni_2, ← zi_ni_3, ← zi_ni_4, ← zi_ni_5, ← zi_ni_6, ← zi_ni_7, ← zi_ni_8, ← zi_ni_9, ← zi_ni_10, ← zi_ni_12, ← zi_ni_24, ← zi_ni_25, ← zi_ni_40, ← zi_ni_45, ← zi_ni_47, ← zi_ni_48, ← zi_ni_95, ← zi_ni_96, ← zi_ni_97, ← zi_ni_100, ← zi_ni_144, ← zi_ni_288, nI_ltI, nI_leI, nI_eqI, nlt_T, nlt_F, nle_T, nle_F, neq_T, neq_F, nI_add, pk_mul, nI_clamp, q_inT, ng_lt, ng_tl, ng_le, ng_el, ng_eq, ng_qe, q_b0, q_b1, nar_0, nar_1, b01, b01', q_bn0, q_bn1, nar_n0, nar_n1, si_k, si_i, si_s, si_e, si_2, sl_1, sl_22, sl_k, sl_i, sl_s, sl_e, sp_1, sp_21, sp_22, sc_k, sc_i, sc_e, sc_2, mF_k, mM_k, mF_2, mM_2, mF_0, mM_11, ↓eu_X10_nest, ↓eu_X11_nest, ↓eu_X10_boardRefused, ↓eu_X11_askedFor, ha]
    exact h.succ
