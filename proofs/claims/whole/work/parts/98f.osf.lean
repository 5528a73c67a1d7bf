/-! fit: the misfit of a pull. -/
theorem cmp_neg {x y : Int64} : (lg_cmp x y < nI 0) = (x < y) := by
  unfold lg_cmp
  by_cases h : x > y
  · rw [if_pos h]
    exact propext ⟨fun q => absurd q (by decide +kernel), fun q => absurd h (fun z => by rw [gt_iff_lt, Int64.lt_iff_toInt_lt] at z; rw [Int64.lt_iff_toInt_lt] at q; omega)⟩
  · rw [if_neg h]
    by_cases h2 : x = y
    · rw [if_pos h2]
      exact propext ⟨fun q => absurd q (by decide +kernel), fun q => absurd (h2 ▸ q : x < x) (fun z => by rw [Int64.lt_iff_toInt_lt] at z; omega)⟩
    · rw [if_neg h2]
      refine propext ⟨fun _ => ?_, fun _ => by decide +kernel⟩
      rw [gt_iff_lt, Int64.lt_iff_toInt_lt] at h
      have h3 : ¬ x.toInt = y.toInt := fun q => h2 (Int64.toInt_inj.mp q)
      rw [Int64.lt_iff_toInt_lt]
      omega
theorem l_lt {a b : Int32} : (Int32.toInt64 a < Int32.toInt64 b) = (a < b) := by
  rw [Int64.lt_iff_toInt_lt, Int32.toInt_toInt64, Int32.toInt_toInt64, Int32.lt_iff_toInt_lt]
def dif (x y : Int32) : Int32 := if nI 0 ≤ x - y then x - y else nI 0 - (x - y)
theorem dif_bd {x y : Int32} (h1 : -1000 ≤ x.toInt ∧ x.toInt ≤ 101000) (h2 : -100000 ≤ y.toInt ∧ y.toInt ≤ 100000) : 0 ≤ (dif x y).toInt ∧ (dif x y).toInt ≤ 201000 := by
  have e := z_sub (x := x) (y := y) (by omega) (by omega)
  have e0 : (nI 0).toInt = 0 := by decide +kernel
  unfold dif
  by_cases q : nI 0 ≤ x - y
  · rw [if_pos q]
    rw [x_le, e0] at q
    omega
  · rw [if_neg q]
    rw [x_le, e0] at q
    have e2 := z_sub (x := nI 0) (y := x - y) (by omega) (by omega)
    omega
theorem lev_bd {n c : Nat} {v : qB} (h : WF n v) : -1000 ≤ (lev v c).toInt ∧ (lev v c).toInt ≤ 101000 := by
  have a := h.2.1.1 c
  have b := h.2.1.2.1 c
  unfold lev
  rw [z_add (by omega) (by omega)]
  omega
/-- the misfit of a trial; none where the time doesn't come -/
def msf (T : qB → Option Int32) (rd : Nat → Int32) (q : Nat) : Nat → Nat → Int32 → qB → Option Int32
  | 0, _, a, _ => some a
  | k + 1, i, a, v => if tmF v = true then none else msf T rd q k (i + 1) (if rd i = -nI 9 then a else a + dif (lev (nxt (T v) v) q) (rd i)) (nxt (T v) v)
theorem msf_t {T : qB → Option Int32} {rd : Nat → Int32} {q k i : Nat} {a : Int32} {v : qB} (h : tmF v = true) : msf T rd q (k + 1) i a v = none := if_pos h
theorem msf_f {T : qB → Option Int32} {rd : Nat → Int32} {q k i : Nat} {a : Int32} {v : qB} (h : tmF v = false) : msf T rd q (k + 1) i a v = msf T rd q k (i + 1) (if rd i = -nI 9 then a else a + dif (lev (nxt (T v) v) q) (rd i)) (nxt (T v) v) := if_neg (by rw [h]; decide)
theorem ac_bd {a x y : Int32} {i : Nat} (hi : i < 48) (h0 : 0 ≤ a.toInt ∧ a.toInt ≤ 201000 * (i : Int)) (h1 : -1000 ≤ x.toInt ∧ x.toInt ≤ 101000) (h2 : -100000 ≤ y.toInt ∧ y.toInt ≤ 100000) : 0 ≤ (if y = -nI 9 then a else a + dif x y).toInt ∧ (if y = -nI 9 then a else a + dif x y).toInt ≤ 201000 * ((i + 1 : Nat) : Int) := by
  have d := dif_bd h1 h2
  by_cases z : y = -nI 9
  · rw [if_pos z]; omega
  · rw [if_neg z, z_add (by omega) (by omega)]; omega
theorem msf_bd {T : qB → Option Int32} {rd : Nat → Int32} {q L : Nat} (hL : L ≤ 48) (hrd : ∀ i, i < L → -100000 ≤ (rd i).toInt ∧ (rd i).toInt ≤ 100000) : ∀ k i n (a : Int32) (v : qB) a', i + k = L → WF n v → 0 ≤ a.toInt ∧ a.toInt ≤ 201000 * (i : Int) → msf T rd q k i a v = some a' → 0 ≤ a'.toInt ∧ a'.toInt ≤ 201000 * 48 := by
  intro k
  induction k with
  | zero =>
    intro i n a v a' hi hw ha h
    have e : a = a' := Option.some.inj h
    subst e
    omega
  | succ k ih =>
    intro i n a v a' hi hw ha h
    cases ht : tmF v
    · rw [msf_f ht] at h
      have hw2 := WF_nxt (t := T v) hw ht
      exact ih (i + 1) (n + 1) _ _ a' (by omega) hw2 (ac_bd (by omega) ha (lev_bd hw2) (hrd i (by omega))) h
    · rw [msf_t ht] at h
      cases h
theorem FA.tr {o : Nat} {a b c : qM} (h : FA o a b) (h2 : FA o b c) : FA o a c := ⟨fun k i s q1 q2 => (h2.1 k i s q1 q2).trans (h.1 k i s q1 q2), h2.2.trans h.2⟩
theorem FA.rf {o : Nat} {a : qM} : FA o a a := ⟨fun _ _ _ _ _ => rfl, rfl⟩
theorem trC {T : qB → Option Int32} {rd : Nat → Int32} {q r L : Nat} {e1 : Int32 → qM → Option (Int32 × qM)} {e2 : qM → Option (Int32 × qM)} (hq : q < 48) (hr : r < 6) (hL : L ≤ 48) : ∀ k i n (a : Int32) (u : qM) F (P : Int32 → qM → Prop), i + k = L → k < F → n + k ≤ 2000000 → WF n (cB u 6) → SZ (u.1 33 0) → (∀ v, tdC u v = T v) → u.1 33 0 r = nI L → (∀ s, s < L → u.1 30 r s = rd s) → (∀ a', msf T rd q k i a (cB u 6) = some a' → ∀ u', FA 6 u u' → Ev (e1 a' u') P) → (msf T rd q k i a (cB u 6) = none → ∀ u', FA 6 u u' → Ev (e2 u') P) → Ev (L_X10_misfitOfTrial_5 (nI q) (nI r) F a (nI i) u e1 e2) P := by
  intro k
  induction k with
  | zero =>
    intro i n a u F P hi hF hn hw hs hT e33 e30 K1 K2
    obtain ⟨F, rfl⟩ : ∃ F', F = F' + 1 := ⟨F - 1, by omega⟩
    have K := K1 a rfl u FA.rf
    refine eu_L_X10_misfitOfTrial_5.mpr ?_
    simp (disch := first | omega | decide) only [Nat.reduceAdd, Nat.reduceMul, ↓ev_bd, ↓ev_ck, ↓ev_if, ↓ev_lt, ↓ev_jn, ↓ev_so, ↓reduceIte, ↓ev_within, ↓ev_in, ↓ev_isBoard, ↓ev_isGauge, ↓ev_isNumber, ↓ev_isSix, ↓ev_isEight, ↓ev_foundN, ↓ev_meetsN, ↓ev_found_1, ↓ev_meets_1, ↓ev_found_2, ↓ev_meets_2, ↓ev_found_3, ↓ev_meets_3, ↓ev_found_4, ↓ev_meets_4, ↓ev_found_5, ↓ev_meets_5, true_and, and_true, and_self, eq_self, not_true_eq_false, not_false_eq_true, ite_true, ite_false, true_or, or_true, false_or, or_false, false_and, and_false, ← zi_ni_0, ← zi_ni_1, ← zi_ni_2, ← zi_ni_3, ← zi_ni_4, ← zi_ni_5, ← zi_ni_6, ← zi_ni_7, ← zi_ni_8, ← zi_ni_9, ← zi_ni_10, ← zi_ni_12, ← zi_ni_24, ← zi_ni_25, ← zi_ni_40, ← zi_ni_45, ← zi_ni_47, ← zi_ni_48, ← zi_ni_95, ← zi_ni_96, ← zi_ni_97, ← zi_ni_100, ← zi_ni_144, ← zi_ni_288, nI_ltI, nI_leI, nI_eqI, nlt_T, nlt_F, nle_T, nle_F, neq_T, neq_F, nI_add, pk_mul, nI_clamp, q_inT, ng_lt, ng_tl, ng_le, ng_el, ng_eq, ng_qe, q_b0, q_b1, nar_0, nar_1, b01, b01', q_bn0, q_bn1, nar_n0, nar_n1, si_k, si_i, si_s, si_e, si_2, sl_1, sl_22, sl_k, sl_i, sl_s, sl_e, sp_1, sp_21, sp_22, sc_k, sc_i, sc_e, sc_2, mF_k, mM_k, mF_2, mM_2, mF_0, mM_11, e33]
    exact K
  | succ k ih =>
    intro i n a u F P hi hF hn hw hs hT e33 e30 K1 K2
    obtain ⟨F, rfl⟩ : ∃ F', F = F' + 1 := ⟨F - 1, by omega⟩
    refine eu_L_X10_misfitOfTrial_5.mpr ?_
    simp (disch := first | omega | decide) only [Nat.reduceAdd, Nat.reduceMul, ↓ev_ck, ↓ev_if, ↓ev_lt, ↓ev_jn, ↓ev_so, ↓reduceIte, ↓ev_within, ↓ev_in, ↓ev_isBoard, ↓ev_isGauge, ↓ev_isNumber, ↓ev_isSix, ↓ev_isEight, ↓ev_foundN, ↓ev_meetsN, ↓ev_found_1, ↓ev_meets_1, ↓ev_found_2, ↓ev_meets_2, ↓ev_found_3, ↓ev_meets_3, ↓ev_found_4, ↓ev_meets_4, ↓ev_found_5, ↓ev_meets_5, true_and, and_true, and_self, eq_self, not_true_eq_false, not_false_eq_true, ite_true, ite_false, true_or, or_true, false_or, or_false, false_and, and_false, ← zi_ni_0, ← zi_ni_1, ← zi_ni_2, ← zi_ni_3, ← zi_ni_4, ← zi_ni_5, ← zi_ni_6, ← zi_ni_7, ← zi_ni_8, ← zi_ni_9, ← zi_ni_10, ← zi_ni_12, ← zi_ni_24, ← zi_ni_25, ← zi_ni_40, ← zi_ni_45, ← zi_ni_47, ← zi_ni_48, ← zi_ni_95, ← zi_ni_96, ← zi_ni_97, ← zi_ni_100, ← zi_ni_144, ← zi_ni_288, nI_ltI, nI_leI, nI_eqI, nlt_T, nlt_F, nle_T, nle_F, neq_T, neq_F, nI_add, pk_mul, nI_clamp, q_inT, ng_lt, ng_tl, ng_le, ng_el, ng_eq, ng_qe, q_b0, q_b1, nar_0, nar_1, b01, b01', q_bn0, q_bn1, nar_n0, nar_n1, si_k, si_i, si_s, si_e, si_2, sl_1, sl_22, sl_k, sl_i, sl_s, sl_e, sp_1, sp_21, sp_22, sc_k, sc_i, sc_e, sc_2, mF_k, mM_k, mF_2, mM_2, mF_0, mM_11, e33]
    refine ev_bd.mpr (ev_advance (n := n) (by omega) hw hs (fun htm u' hFA hcb => ?_) (fun htm u' hFA hcb => ?_))
    · have K := K2 (msf_t htm) u' hFA
      simp (disch := first | omega | decide) only [Nat.reduceAdd, Nat.reduceMul, ↓ev_bd, ↓ev_ck, ↓ev_if, ↓ev_lt, ↓ev_jn, ↓ev_so, ↓reduceIte, ↓ev_within, ↓ev_in, ↓ev_isBoard, ↓ev_isGauge, ↓ev_isNumber, ↓ev_isSix, ↓ev_isEight, ↓ev_foundN, ↓ev_meetsN, ↓ev_found_1, ↓ev_meets_1, ↓ev_found_2, ↓ev_meets_2, ↓ev_found_3, ↓ev_meets_3, ↓ev_found_4, ↓ev_meets_4, ↓ev_found_5, ↓ev_meets_5, true_and, and_true, and_self, eq_self, not_true_eq_false, not_false_eq_true, ite_true, ite_false, true_or, or_true, false_or, or_false, false_and, and_false, ← zi_ni_0, ← zi_ni_1, ← zi_ni_2, ← zi_ni_3, ← zi_ni_4, ← zi_ni_5, ← zi_ni_6, ← zi_ni_7, ← zi_ni_8, ← zi_ni_9, ← zi_ni_10, ← zi_ni_12, ← zi_ni_24, ← zi_ni_25, ← zi_ni_40, ← zi_ni_45, ← zi_ni_47, ← zi_ni_48, ← zi_ni_95, ← zi_ni_96, ← zi_ni_97, ← zi_ni_100, ← zi_ni_144, ← zi_ni_288, nI_ltI, nI_leI, nI_eqI, nlt_T, nlt_F, nle_T, nle_F, neq_T, neq_F, nI_add, pk_mul, nI_clamp, q_inT, ng_lt, ng_tl, ng_le, ng_el, ng_eq, ng_qe, q_b0, q_b1, nar_0, nar_1, b01, b01', q_bn0, q_bn1, nar_n0, nar_n1, si_k, si_i, si_s, si_e, si_2, sl_1, sl_22, sl_k, sl_i, sl_s, sl_e, sp_1, sp_21, sp_22, sc_k, sc_i, sc_e, sc_2, mF_k, mM_k, mF_2, mM_2, mF_0, mM_11]
      exact K
    · rw [hT] at hcb
      have f33 : u'.1 33 = u.1 33 := funext (fun i => funext (fun s => hFA.1 33 i s (by omega) (by omega)))
      have f30 : u'.1 30 = u.1 30 := funext (fun i => funext (fun s => hFA.1 30 i s (by omega) (by omega)))
      have hw' : WF (n + 1) (cB u' 6) := by rw [hcb]; exact WF_nxt hw htm
      have e33' : u'.1 33 0 r = nI L := by rw [f33]; exact e33
      have e30' : u'.1 30 r i = rd i := by rw [f30]; exact e30 i (by omega)
      have hT' : ∀ v, tdC u' v = T v := fun v => by
        rw [← hT v]
        unfold tdC
        rw [f33, f30]
      have IH := ih (i + 1) (n + 1) (if rd i = -nI 9 then a else a + dif (lev (nxt (T (cB u 6)) (cB u 6)) q) (rd i)) u' F P (by omega) (by omega) (by omega) hw' (by rw [f33]; exact hs) hT' e33' (fun s h => by rw [f30]; exact e30 s h) (fun a' h u2 h2 => K1 a' (by rw [hcb] at h; rw [msf_f htm]; exact h) u2 (hFA.tr h2)) (fun h u2 h2 => K2 (by rw [hcb] at h; rw [msf_f htm]; exact h) u2 (hFA.tr h2))
      by_cases z : rd i = -nI 9
      · rw [if_pos z] at IH
        simp (disch := first | omega | decide) only [Nat.reduceAdd, Nat.reduceMul, ↓ev_bd, ↓ev_ck, ↓ev_if, ↓ev_lt, ↓ev_jn, ↓ev_so, ↓reduceIte, ↓ev_within, ↓ev_in, ↓ev_isBoard, ↓ev_isGauge, ↓ev_isNumber, ↓ev_isSix, ↓ev_isEight, ↓ev_foundN, ↓ev_meetsN, ↓ev_found_1, ↓ev_meets_1, ↓ev_found_2, ↓ev_meets_2, ↓ev_found_3, ↓ev_meets_3, ↓ev_found_4, ↓ev_meets_4, ↓ev_found_5, ↓ev_meets_5, true_and, and_true, and_self, eq_self, not_true_eq_false, not_false_eq_true, ite_true, ite_false, true_or, or_true, false_or, or_false, false_and, and_false, ← zi_ni_0, ← zi_ni_1, ← zi_ni_2, ← zi_ni_3, ← zi_ni_4, ← zi_ni_5, ← zi_ni_6, ← zi_ni_7, ← zi_ni_8, ← zi_ni_9, ← zi_ni_10, ← zi_ni_12, ← zi_ni_24, ← zi_ni_25, ← zi_ni_40, ← zi_ni_45, ← zi_ni_47, ← zi_ni_48, ← zi_ni_95, ← zi_ni_96, ← zi_ni_97, ← zi_ni_100, ← zi_ni_144, ← zi_ni_288, nI_ltI, nI_leI, nI_eqI, nlt_T, nlt_F, nle_T, nle_F, neq_T, neq_F, nI_add, pk_mul, nI_clamp, q_inT, ng_lt, ng_tl, ng_le, ng_el, ng_eq, ng_qe, q_b0, q_b1, nar_0, nar_1, b01, b01', q_bn0, q_bn1, nar_n0, nar_n1, si_k, si_i, si_s, si_e, si_2, sl_1, sl_22, sl_k, sl_i, sl_s, sl_e, sp_1, sp_21, sp_22, sc_k, sc_i, sc_e, sc_2, mF_k, mM_k, mF_2, mM_2, mF_0, mM_11, e33', e30', z]
        exact IH
      · rw [if_neg z] at IH
        simp (disch := first | omega | decide) only [Nat.reduceAdd, Nat.reduceMul, ↓ev_ck, ↓ev_if, ↓ev_lt, ↓ev_jn, ↓ev_so, ↓reduceIte, ↓ev_within, ↓ev_in, ↓ev_isBoard, ↓ev_isGauge, ↓ev_isNumber, ↓ev_isSix, ↓ev_isEight, ↓ev_foundN, ↓ev_meetsN, ↓ev_found_1, ↓ev_meets_1, ↓ev_found_2, ↓ev_meets_2, ↓ev_found_3, ↓ev_meets_3, ↓ev_found_4, ↓ev_meets_4, ↓ev_found_5, ↓ev_meets_5, true_and, and_true, and_self, eq_self, not_true_eq_false, not_false_eq_true, ite_true, ite_false, true_or, or_true, false_or, or_false, false_and, and_false, ← zi_ni_0, ← zi_ni_1, ← zi_ni_2, ← zi_ni_3, ← zi_ni_4, ← zi_ni_5, ← zi_ni_6, ← zi_ni_7, ← zi_ni_8, ← zi_ni_9, ← zi_ni_10, ← zi_ni_12, ← zi_ni_24, ← zi_ni_25, ← zi_ni_40, ← zi_ni_45, ← zi_ni_47, ← zi_ni_48, ← zi_ni_95, ← zi_ni_96, ← zi_ni_97, ← zi_ni_100, ← zi_ni_144, ← zi_ni_288, nI_ltI, nI_leI, nI_eqI, nlt_T, nlt_F, nle_T, nle_F, neq_T, neq_F, nI_add, pk_mul, nI_clamp, q_inT, ng_lt, ng_tl, ng_le, ng_el, ng_eq, ng_qe, q_b0, q_b1, nar_0, nar_1, b01, b01', q_bn0, q_bn1, nar_n0, nar_n1, si_k, si_i, si_s, si_e, si_2, sl_1, sl_22, sl_k, sl_i, sl_s, sl_e, sp_1, sp_21, sp_22, sc_k, sc_i, sc_e, sc_2, mF_k, mM_k, mF_2, mM_2, mF_0, mM_11, e33', e30', z]
        refine ev_bd.mpr (ev_level hq SN.mk ?_)
        rw [hcb]
        simp (disch := first | omega | decide) only [Nat.reduceAdd, Nat.reduceMul, ↓ev_bd, ↓ev_ck, ↓ev_if, ↓ev_lt, ↓ev_jn, ↓ev_so, ↓reduceIte, ↓ev_within, ↓ev_in, ↓ev_isBoard, ↓ev_isGauge, ↓ev_isNumber, ↓ev_isSix, ↓ev_isEight, ↓ev_foundN, ↓ev_meetsN, ↓ev_found_1, ↓ev_meets_1, ↓ev_found_2, ↓ev_meets_2, ↓ev_found_3, ↓ev_meets_3, ↓ev_found_4, ↓ev_meets_4, ↓ev_found_5, ↓ev_meets_5, true_and, and_true, and_self, eq_self, not_true_eq_false, not_false_eq_true, ite_true, ite_false, true_or, or_true, false_or, or_false, false_and, and_false, ← zi_ni_0, ← zi_ni_1, ← zi_ni_2, ← zi_ni_3, ← zi_ni_4, ← zi_ni_5, ← zi_ni_6, ← zi_ni_7, ← zi_ni_8, ← zi_ni_9, ← zi_ni_10, ← zi_ni_12, ← zi_ni_24, ← zi_ni_25, ← zi_ni_40, ← zi_ni_45, ← zi_ni_47, ← zi_ni_48, ← zi_ni_95, ← zi_ni_96, ← zi_ni_97, ← zi_ni_100, ← zi_ni_144, ← zi_ni_288, nI_ltI, nI_leI, nI_eqI, nlt_T, nlt_F, nle_T, nle_F, neq_T, neq_F, nI_add, pk_mul, nI_clamp, q_inT, ng_lt, ng_tl, ng_le, ng_el, ng_eq, ng_qe, q_b0, q_b1, nar_0, nar_1, b01, b01', q_bn0, q_bn1, nar_n0, nar_n1, si_k, si_i, si_s, si_e, si_2, sl_1, sl_22, sl_k, sl_i, sl_s, sl_e, sp_1, sp_21, sp_22, sc_k, sc_i, sc_e, sc_2, mF_k, mM_k, mF_2, mM_2, mF_0, mM_11, dif]
        exact IH
