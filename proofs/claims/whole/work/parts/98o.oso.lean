/-! gates: posts are shut. -/
/-- the posts of a board that a number of bits shuts, the first k -/
def shP (v : qB) (x : Int32) : Nat → qB
  | 0 => v
  | k + 1 => if ((x >>> (nI k &&& 31)) &&& nI 1) = nI 1 then bset (shP v x k) 5 (v 6 k).toNatClampNeg (nI 1) else shP v x k
theorem shP_y {v : qB} {x : Int32} {k : Nat} (h : ((x >>> (nI k &&& 31)) &&& nI 1) = nI 1) : shP v x (k + 1) = bset (shP v x k) 5 (v 6 k).toNatClampNeg (nI 1) := if_pos h
theorem shP_n {v : qB} {x : Int32} {k : Nat} (h : ¬ ((x >>> (nI k &&& 31)) &&& nI 1) = nI 1) : shP v x (k + 1) = shP v x k := if_neg h
theorem shP_t {v : qB} {x : Int32} {t : Nat} (h : t ≠ 5) : ∀ k, shP v x k t = v t
  | 0 => rfl
  | k + 1 => by
    by_cases z : ((x >>> (nI k &&& 31)) &&& nI 1) = nI 1
    · rw [shP_y z, bs_t h]; exact shP_t h k
    · rw [shP_n z]; exact shP_t h k
theorem WF_shP {n : Nat} {v : qB} {x : Int32} (hw : WF n v) : ∀ k, WF n (shP v x k)
  | 0 => hw
  | k + 1 => by
    by_cases z : ((x >>> (nI k &&& 31)) &&& nI 1) = nI 1
    · rw [shP_y z]; exact WF_shut (WF_shP hw k) (.inr rfl)
    · rw [shP_n z]; exact WF_shP hw k
theorem WF.post {n k pc : Nat} {v : qB} (hw : WF n v) (hpc : v 0 13 = nI pc) (h4 : pc ≤ 4) (hk : k < pc) : ∃ f, f < 96 ∧ v 6 k = nI f := by
  obtain ⟨w, h, hd⟩ := hw.gd.dw
  obtain ⟨d1, d2, d3, d4, d5, d6, d7, d8, d9, d10⟩ := hd
  obtain ⟨f, h1, h2⟩ := hw.2.2.2 k (by rw [hpc, nI_clamp (by omega)]; exact hk)
  exact ⟨f, by omega, h2⟩
def F41 (o : Nat) (u u' : qM) : Prop := (∀ a i s, ¬ (a = 41 ∧ i = o) → u'.1 a i s = u.1 a i s) ∧ u'.2 = u.2
theorem lp_shutC {x : Int32} {v : qB} {n pc : Nat} {e1 : qM → Option (Unit × qM)} {P : Unit → qM → Prop} (hw : WF n v) (hpc : v 0 13 = nI pc) (h4 : pc ≤ 4) : ∀ k i u F, i + k = pc → k < F → cB u 6 = shP v x i → (∀ u', F41 6 u u' → cB u' 6 = shP v x pc → Ev (e1 u') P) → Ev (L_X0_shutPosts_2 6 x F (nI i) u e1) P := by
  intro k
  induction k with
  | zero =>
    intro i u F hi hF hc K
    obtain ⟨F, rfl⟩ : ∃ F', F = F' + 1 := ⟨F - 1, by omega⟩
    obtain rfl : i = pc := by omega
    have e29 : u.1 2 6 9 = nI i := (congrFun (congrFun hc 0) 13).trans ((congrFun (shP_t (by decide) i) 13).trans hpc)
    have K := K u ⟨fun _ _ _ _ => rfl, rfl⟩ hc
    refine eu_L_X0_shutPosts_2.mpr ?_
    simp (disch := first | omega | decide) only [Nat.reduceAdd, Nat.reduceMul, ↓ev_bd, ↓ev_ck, ↓ev_if, ↓ev_lt, ↓ev_jn, ↓ev_so, ↓reduceIte, ↓ev_within, ↓ev_in, ↓ev_isBoard, ↓ev_isGauge, ↓ev_isNumber, ↓ev_isSix, ↓ev_isEight, ↓ev_foundN, ↓ev_meetsN, ↓ev_found_1, ↓ev_meets_1, ↓ev_found_2, ↓ev_meets_2, ↓ev_found_3, ↓ev_meets_3, ↓ev_found_4, ↓ev_meets_4, ↓ev_found_5, ↓ev_meets_5, true_and, and_true, and_self, eq_self, not_true_eq_false, not_false_eq_true, ite_true, ite_false, true_or, or_true, false_or, or_false, false_and, and_false, ← zi_ni_0, ← zi_ni_1, ← zi_ni_2, ← zi_ni_3, ← zi_ni_4, ← zi_ni_5, ← zi_ni_6, ← zi_ni_7, ← zi_ni_8, ← zi_ni_9, ← zi_ni_10, ← zi_ni_12, ← zi_ni_24, ← zi_ni_25, ← zi_ni_40, ← zi_ni_45, ← zi_ni_47, ← zi_ni_48, ← zi_ni_95, ← zi_ni_96, ← zi_ni_97, ← zi_ni_100, ← zi_ni_144, ← zi_ni_288, nI_ltI, nI_leI, nI_eqI, nlt_T, nlt_F, nle_T, nle_F, neq_T, neq_F, nI_add, pk_mul, nI_clamp, q_inT, ng_lt, ng_tl, ng_le, ng_el, ng_eq, ng_qe, q_b0, q_b1, nar_0, nar_1, b01, b01', q_bn0, q_bn1, nar_n0, nar_n1, si_k, si_i, si_s, si_e, si_2, sl_1, sl_22, sl_k, sl_i, sl_s, sl_e, sp_1, sp_21, sp_22, sc_k, sc_i, sc_e, sc_2, mF_k, mM_k, mF_2, mM_2, mF_0, mM_11, e29]
    exact K
  | succ k ih =>
    intro i u F hi hF hc K
    obtain ⟨F, rfl⟩ : ∃ F', F = F' + 1 := ⟨F - 1, by omega⟩
    have e29 : u.1 2 6 9 = nI pc := (congrFun (congrFun hc 0) 13).trans ((congrFun (shP_t (by decide) i) 13).trans hpc)
    obtain ⟨f, hf, ef⟩ := hw.post hpc h4 (k := i) (by omega)
    have e42 : u.1 42 6 i = nI f := (cR_6 (by omega)).symm.trans ((congrFun (congrFun hc 6) i).trans ((congrFun (shP_t (by decide) i) i).trans ef))
    refine eu_L_X0_shutPosts_2.mpr ?_
    by_cases z : ((x >>> (nI i &&& 31)) &&& nI 1) = nI 1
    · have IH := ih (i + 1) (q_si u 41 6 f (nI 1)) F (by omega) (by omega) (by rw [cW_5 hf, hc, shP_y z, ef, nI_clamp (by omega)]) (fun u' h1 h2 => K u' ⟨fun a j s q => (h1.1 a j s q).trans (si_n (fun y => q ⟨y.1, y.2.1⟩)), h1.2⟩ h2)
      simp (disch := first | omega | decide) only [Nat.reduceAdd, Nat.reduceMul, ↓ev_bd, ↓ev_ck, ↓ev_if, ↓ev_lt, ↓ev_jn, ↓ev_so, ↓reduceIte, ↓ev_within, ↓ev_in, ↓ev_isBoard, ↓ev_isGauge, ↓ev_isNumber, ↓ev_isSix, ↓ev_isEight, ↓ev_foundN, ↓ev_meetsN, ↓ev_found_1, ↓ev_meets_1, ↓ev_found_2, ↓ev_meets_2, ↓ev_found_3, ↓ev_meets_3, ↓ev_found_4, ↓ev_meets_4, ↓ev_found_5, ↓ev_meets_5, true_and, and_true, and_self, eq_self, not_true_eq_false, not_false_eq_true, ite_true, ite_false, true_or, or_true, false_or, or_false, false_and, and_false, ← zi_ni_0, ← zi_ni_1, ← zi_ni_2, ← zi_ni_3, ← zi_ni_4, ← zi_ni_5, ← zi_ni_6, ← zi_ni_7, ← zi_ni_8, ← zi_ni_9, ← zi_ni_10, ← zi_ni_12, ← zi_ni_24, ← zi_ni_25, ← zi_ni_40, ← zi_ni_45, ← zi_ni_47, ← zi_ni_48, ← zi_ni_95, ← zi_ni_96, ← zi_ni_97, ← zi_ni_100, ← zi_ni_144, ← zi_ni_288, nI_ltI, nI_leI, nI_eqI, nlt_T, nlt_F, nle_T, nle_F, neq_T, neq_F, nI_add, pk_mul, nI_clamp, q_inT, ng_lt, ng_tl, ng_le, ng_el, ng_eq, ng_qe, q_b0, q_b1, nar_0, nar_1, b01, b01', q_bn0, q_bn1, nar_n0, nar_n1, si_k, si_i, si_s, si_e, si_2, sl_1, sl_22, sl_k, sl_i, sl_s, sl_e, sp_1, sp_21, sp_22, sc_k, sc_i, sc_e, sc_2, mF_k, mM_k, mF_2, mM_2, mF_0, mM_11, e29, e42, z]
      exact IH
    · have IH := ih (i + 1) u F (by omega) (by omega) (by rw [hc, shP_n z]) K
      simp (disch := first | omega | decide) only [Nat.reduceAdd, Nat.reduceMul, ↓ev_bd, ↓ev_ck, ↓ev_if, ↓ev_lt, ↓ev_jn, ↓ev_so, ↓reduceIte, ↓ev_within, ↓ev_in, ↓ev_isBoard, ↓ev_isGauge, ↓ev_isNumber, ↓ev_isSix, ↓ev_isEight, ↓ev_foundN, ↓ev_meetsN, ↓ev_found_1, ↓ev_meets_1, ↓ev_found_2, ↓ev_meets_2, ↓ev_found_3, ↓ev_meets_3, ↓ev_found_4, ↓ev_meets_4, ↓ev_found_5, ↓ev_meets_5, true_and, and_true, and_self, eq_self, not_true_eq_false, not_false_eq_true, ite_true, ite_false, true_or, or_true, false_or, or_false, false_and, and_false, ← zi_ni_0, ← zi_ni_1, ← zi_ni_2, ← zi_ni_3, ← zi_ni_4, ← zi_ni_5, ← zi_ni_6, ← zi_ni_7, ← zi_ni_8, ← zi_ni_9, ← zi_ni_10, ← zi_ni_12, ← zi_ni_24, ← zi_ni_25, ← zi_ni_40, ← zi_ni_45, ← zi_ni_47, ← zi_ni_48, ← zi_ni_95, ← zi_ni_96, ← zi_ni_97, ← zi_ni_100, ← zi_ni_144, ← zi_ni_288, nI_ltI, nI_leI, nI_eqI, nlt_T, nlt_F, nle_T, nle_F, neq_T, neq_F, nI_add, pk_mul, nI_clamp, q_inT, ng_lt, ng_tl, ng_le, ng_el, ng_eq, ng_qe, q_b0, q_b1, nar_0, nar_1, b01, b01', q_bn0, q_bn1, nar_n0, nar_n1, si_k, si_i, si_s, si_e, si_2, sl_1, sl_22, sl_k, sl_i, sl_s, sl_e, sp_1, sp_21, sp_22, sc_k, sc_i, sc_e, sc_2, mF_k, mM_k, mF_2, mM_2, mF_0, mM_11, e29, e42, z]
      exact IH
