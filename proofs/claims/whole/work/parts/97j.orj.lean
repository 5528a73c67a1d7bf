/-! tones: both sums, on both sides. -/
def sgn (p i : Nat) (x : Int32) : Int32 := if i % p < p / 2 then x else -x
def tn (L X : Nat → Int32) (p sh : Nat) : Nat → Int32
  | 0 => nI 0
  | i + 1 => if X i = nI 0 then tn L X p sh i + sgn p (i + sh) (L i) else tn L X p sh i
theorem sgn_bd {p i : Nat} {x : Int32} (h : -101000 ≤ x.toInt ∧ x.toInt ≤ 101000) : -101000 ≤ (sgn p i x).toInt ∧ (sgn p i x).toInt ≤ 101000 := by
  unfold sgn
  by_cases q : i % p < p / 2
  · rw [if_pos q]; exact h
  · rw [if_neg q, z_neg (by omega)]; omega
theorem tn_bd {L X : Nat → Int32} {p sh m : Nat} (hm : m ≤ 48) (h : ∀ i, i < m → -101000 ≤ (L i).toInt ∧ (L i).toInt ≤ 101000) : ∀ i, i ≤ m → -(101000 * (i : Int)) ≤ (tn L X p sh i).toInt ∧ (tn L X p sh i).toInt ≤ 101000 * (i : Int)
  | 0, _ => by
    show -(101000 * ((0 : Nat) : Int)) ≤ (nI 0).toInt ∧ (nI 0).toInt ≤ 101000 * ((0 : Nat) : Int)
    rw [nI0]
    omega
  | i + 1, hi => by
    have ih := tn_bd (L := L) (X := X) (p := p) (sh := sh) hm h i (by omega)
    have hs := sgn_bd (p := p) (i := i + sh) (h i (by omega))
    show -(101000 * ((i + 1 : Nat) : Int)) ≤ (if X i = nI 0 then tn L X p sh i + sgn p (i + sh) (L i) else tn L X p sh i : Int32).toInt ∧ (if X i = nI 0 then tn L X p sh i + sgn p (i + sh) (L i) else tn L X p sh i : Int32).toInt ≤ 101000 * ((i + 1 : Nat) : Int)
    by_cases q : X i = nI 0
    · rw [if_pos q, z_add (by omega) (by omega)]
      omega
    · rw [if_neg q]
      omega
theorem l_add {a b : Int32} (h1 : -2147483648 ≤ a.toInt + b.toInt) (h2 : a.toInt + b.toInt < 2147483648) : Int32.toInt64 a + Int32.toInt64 b = Int32.toInt64 (a + b) := by
  refine Int64.toInt_inj.mp ?_
  rw [Int64.toInt_add, Int32.toInt_toInt64, Int32.toInt_toInt64, Int32.toInt_toInt64, z_add h1 h2]
  exact bm64 (by omega) (by omega)
theorem tn_l {L X : Nat → Int32} {p sh m i : Nat} (hm : m ≤ 48) (h : ∀ i, i < m → -101000 ≤ (L i).toInt ∧ (L i).toInt ≤ 101000) (hi : i < m) (hx : X i = nI 0) : Int32.toInt64 (tn L X p sh i) + Int32.toInt64 (sgn p (i + sh) (L i)) = Int32.toInt64 (tn L X p sh (i + 1)) := by
  have b1 := tn_bd (L := L) (X := X) (p := p) (sh := sh) hm h i (by omega)
  have b2 := sgn_bd (p := p) (i := i + sh) (h i hi)
  rw [l_add (by omega) (by omega)]
  show _ = Int32.toInt64 (if X i = nI 0 then tn L X p sh i + sgn p (i + sh) (L i) else tn L X p sh i)
  rw [if_pos hx]
theorem tn_s {L X : Nat → Int32} {p sh i : Nat} (hx : ¬ X i = nI 0) : tn L X p sh (i + 1) = tn L X p sh i := if_neg hx
theorem tn_t {L X : Nat → Int32} {p sh i : Nat} (hx : X i = nI 0) : tn L X p sh (i + 1) = tn L X p sh i + sgn p (i + sh) (L i) := if_pos hx
theorem ev_signed {x : Int32} {i p : Nat} {u : qM} {P : Int32 → qM → Prop} (hp : 1 ≤ p) (hp2 : p < 1000) (hi : i < 1000) : Ev (f_X9_signed x (nI i) (nI p) u) P ↔ P (sgn p i x) u := by
  have g1 : i % p ≤ i := Nat.mod_le _ _
  unfold sgn
  by_cases q : i % p < p / 2
  · rw [if_pos q]
    generalize hm : i % p = m at *
    simp (disch := first | omega | decide) only [Nat.reduceAdd, Nat.reduceMul, ↓ev_bd, ↓ev_ck, ↓ev_if, ↓ev_lt, ↓ev_jn, ↓ev_so, ↓reduceIte, ↓ev_within, ↓ev_in, ↓ev_isBoard, ↓ev_isGauge, ↓ev_isNumber, ↓ev_isSix, ↓ev_isEight, ↓ev_foundN, ↓ev_meetsN, ↓ev_found_1, ↓ev_meets_1, ↓ev_found_2, ↓ev_meets_2, ↓ev_found_3, ↓ev_meets_3, ↓ev_found_4, ↓ev_meets_4, ↓ev_found_5, ↓ev_meets_5, true_and, and_true, and_self, eq_self, not_true_eq_false, not_false_eq_true, ite_true, ite_false, true_or, or_true, false_or, or_false, false_and, and_false, ← zi_ni_0, ← zi_ni_1, ← zi_ni_2, ← zi_ni_3, ← zi_ni_4, ← zi_ni_5, ← zi_ni_6, ← zi_ni_7, ← zi_ni_8, ← zi_ni_9, ← zi_ni_10, ← zi_ni_12, ← zi_ni_24, ← zi_ni_25, ← zi_ni_40, ← zi_ni_45, ← zi_ni_47, ← zi_ni_48, ← zi_ni_95, ← zi_ni_96, ← zi_ni_97, ← zi_ni_100, ← zi_ni_144, ← zi_ni_288, nI_ltI, nI_leI, nI_eqI, nlt_T, nlt_F, nle_T, nle_F, neq_T, neq_F, nI_add, pk_mul, nI_clamp, q_inT, ng_lt, ng_tl, ng_le, ng_el, ng_eq, ng_qe, q_b0, q_b1, nar_0, nar_1, b01, b01', q_bn0, q_bn1, nar_n0, nar_n1, si_k, si_i, si_s, si_e, si_2, sl_1, sl_22, sl_k, sl_i, sl_s, sl_e, sp_1, sp_21, sp_22, sc_k, sc_i, sc_e, sc_2, mF_k, mM_k, mF_2, mM_2, mF_0, mM_11, ↓eu_X9_signed, pk_rem', n_rem, pk_div, hm, q_nzI]
  · rw [if_neg q]
    generalize hm : i % p = m at *
    simp (disch := first | omega | decide) only [Nat.reduceAdd, Nat.reduceMul, ↓ev_bd, ↓ev_ck, ↓ev_if, ↓ev_lt, ↓ev_jn, ↓ev_so, ↓reduceIte, ↓ev_within, ↓ev_in, ↓ev_isBoard, ↓ev_isGauge, ↓ev_isNumber, ↓ev_isSix, ↓ev_isEight, ↓ev_foundN, ↓ev_meetsN, ↓ev_found_1, ↓ev_meets_1, ↓ev_found_2, ↓ev_meets_2, ↓ev_found_3, ↓ev_meets_3, ↓ev_found_4, ↓ev_meets_4, ↓ev_found_5, ↓ev_meets_5, true_and, and_true, and_self, eq_self, not_true_eq_false, not_false_eq_true, ite_true, ite_false, true_or, or_true, false_or, or_false, false_and, and_false, ← zi_ni_0, ← zi_ni_1, ← zi_ni_2, ← zi_ni_3, ← zi_ni_4, ← zi_ni_5, ← zi_ni_6, ← zi_ni_7, ← zi_ni_8, ← zi_ni_9, ← zi_ni_10, ← zi_ni_12, ← zi_ni_24, ← zi_ni_25, ← zi_ni_40, ← zi_ni_45, ← zi_ni_47, ← zi_ni_48, ← zi_ni_95, ← zi_ni_96, ← zi_ni_97, ← zi_ni_100, ← zi_ni_144, ← zi_ni_288, nI_ltI, nI_leI, nI_eqI, nlt_T, nlt_F, nle_T, nle_F, neq_T, neq_F, nI_add, pk_mul, nI_clamp, q_inT, ng_lt, ng_tl, ng_le, ng_el, ng_eq, ng_qe, q_b0, q_b1, nar_0, nar_1, b01, b01', q_bn0, q_bn1, nar_n0, nar_n1, si_k, si_i, si_s, si_e, si_2, sl_1, sl_22, sl_k, sl_i, sl_s, sl_e, sp_1, sp_21, sp_22, sc_k, sc_i, sc_e, sc_2, mF_k, mM_k, mF_2, mM_2, mF_0, mM_11, ↓eu_X9_signed, pk_rem', n_rem, pk_div, hm, q_nzI]
def GR (u : qM) (g f m : Nat) (L X : Nat → Int32) : Prop := f < 48 ∧ m ≤ 48 ∧ u.1 9 g 4 = nI f ∧ u.1 9 g 5 = nI m ∧ (∀ i, i < m → u.1 52 g ((f + i) % 48) = L i ∧ u.1 53 g ((f + i) % 48) = X i) ∧ ∀ i, i < m → -101000 ≤ (L i).toInt ∧ (L i).toInt ≤ 101000
theorem lp_hear {o g f m p : Nat} {L X : Nat → Int32} {u : qM} {e : qM → Option (Unit × qM)} {P : Unit → qM → Prop} (hp : 4 ≤ p ∧ p ≤ 48) (hG : GR u g f m L X) (z0 : u.2.1 10 o 0 = Int32.toInt64 (nI 0)) (z1 : u.2.1 10 o 1 = Int32.toInt64 (nI 0)) (K : ∀ t, t.1 = u.1 → (∀ k j s, ¬ (k = 10 ∧ j = o) → t.2.1 k j s = u.2.1 k j s) → t.2.2 = u.2.2 → t.2.1 10 o 0 = Int32.toInt64 (tn L X p 0 m) → t.2.1 10 o 1 = Int32.toInt64 (tn L X p (p / 4) m) → Ev (e t) P) : Ev (L_X9_hear_17 o g (nI p) q_fu (nI 0) u e) P := by
  obtain ⟨hf, hm, e4, e5, eL, bL⟩ := hG
  refine lpc (fun f x t => L_X9_hear_17 o g (nI p) f x t e) (fun i t => t.1 = u.1 ∧ (∀ k j s, ¬ (k = 10 ∧ j = o) → t.2.1 k j s = u.2.1 k j s) ∧ t.2.2 = u.2.2 ∧ t.2.1 10 o 0 = Int32.toInt64 (tn L X p 0 i) ∧ t.2.1 10 o 1 = Int32.toInt64 (tn L X p (p / 4) i)) m (by omega) u ⟨rfl, fun _ _ _ _ => rfl, rfl, z0, z1⟩ ?_ ?_
  · rintro F i t hi ⟨a1, a2, a3, a4, a5⟩ K2
    obtain ⟨rL, rX⟩ := eL i hi
    have q4 : t.1 9 g 4 = nI f := by rw [a1]; exact e4
    have q5 : t.1 9 g 5 = nI m := by rw [a1]; exact e5
    have qL : t.1 52 g ((f + i) % 48) = L i := by rw [a1]; exact rL
    have qX : t.1 53 g ((f + i) % 48) = X i := by rw [a1]; exact rX
    show Ev (L_X9_hear_17 o g (nI p) (F + 1) (nI i) t e) P
    by_cases hx : X i = nI 0
    · have K3 := K2 (q_sl (q_sl t 10 o 0 (t.2.1 10 o 0 + Int32.toInt64 (sgn p i (L i)))) 10 o 1 (t.2.1 10 o 1 + Int32.toInt64 (sgn p (i + p / 4) (L i)))) ⟨a1, fun k j s q => ?_, a3, ?_, ?_⟩
      · simp (disch := first | omega | decide) only [Nat.reduceAdd, Nat.reduceMul, ↓ev_bd, ↓ev_ck, ↓ev_if, ↓ev_lt, ↓ev_jn, ↓ev_so, ↓reduceIte, ↓ev_within, ↓ev_in, ↓ev_isBoard, ↓ev_isGauge, ↓ev_isNumber, ↓ev_isSix, ↓ev_isEight, ↓ev_foundN, ↓ev_meetsN, ↓ev_found_1, ↓ev_meets_1, ↓ev_found_2, ↓ev_meets_2, ↓ev_found_3, ↓ev_meets_3, ↓ev_found_4, ↓ev_meets_4, ↓ev_found_5, ↓ev_meets_5, true_and, and_true, and_self, eq_self, not_true_eq_false, not_false_eq_true, ite_true, ite_false, true_or, or_true, false_or, or_false, false_and, and_false, ← zi_ni_0, ← zi_ni_1, ← zi_ni_2, ← zi_ni_3, ← zi_ni_4, ← zi_ni_5, ← zi_ni_6, ← zi_ni_7, ← zi_ni_8, ← zi_ni_9, ← zi_ni_10, ← zi_ni_12, ← zi_ni_24, ← zi_ni_25, ← zi_ni_40, ← zi_ni_45, ← zi_ni_47, ← zi_ni_48, ← zi_ni_95, ← zi_ni_96, ← zi_ni_97, ← zi_ni_100, ← zi_ni_144, ← zi_ni_288, nI_ltI, nI_leI, nI_eqI, nlt_T, nlt_F, nle_T, nle_F, neq_T, neq_F, nI_add, pk_mul, nI_clamp, q_inT, ng_lt, ng_tl, ng_le, ng_el, ng_eq, ng_qe, q_b0, q_b1, nar_0, nar_1, b01, b01', q_bn0, q_bn1, nar_n0, nar_n1, si_k, si_i, si_s, si_e, si_2, sl_1, sl_22, sl_k, sl_i, sl_s, sl_e, sp_1, sp_21, sp_22, sc_k, sc_i, sc_e, sc_2, mF_k, mM_k, mF_2, mM_2, mF_0, mM_11, ↓eu_L_X9_hear_17, ↓eu_X2_fromOldest, ↓ev_signed, q4, q5, qX, qL, hx, pk_rem', n_rem, pk_div]
        exact K3
      · refine (if_neg (fun z => q ⟨z.1, z.2.1⟩)).trans ((if_neg (fun z => q ⟨z.1, z.2.1⟩)).trans (a2 k j s q))
      · rw [sl_s (by decide), sl_e, a4]
        exact tn_l (sh := 0) hm bL hi hx
      · rw [sl_e, a5]
        exact tn_l hm bL hi hx
    · have K3 := K2 t ⟨a1, a2, a3, by rw [tn_s hx]; exact a4, by rw [tn_s hx]; exact a5⟩
      simp (disch := first | omega | decide) only [Nat.reduceAdd, Nat.reduceMul, ↓ev_bd, ↓ev_ck, ↓ev_if, ↓ev_lt, ↓ev_jn, ↓ev_so, ↓reduceIte, ↓ev_within, ↓ev_in, ↓ev_isBoard, ↓ev_isGauge, ↓ev_isNumber, ↓ev_isSix, ↓ev_isEight, ↓ev_foundN, ↓ev_meetsN, ↓ev_found_1, ↓ev_meets_1, ↓ev_found_2, ↓ev_meets_2, ↓ev_found_3, ↓ev_meets_3, ↓ev_found_4, ↓ev_meets_4, ↓ev_found_5, ↓ev_meets_5, true_and, and_true, and_self, eq_self, not_true_eq_false, not_false_eq_true, ite_true, ite_false, true_or, or_true, false_or, or_false, false_and, and_false, ← zi_ni_0, ← zi_ni_1, ← zi_ni_2, ← zi_ni_3, ← zi_ni_4, ← zi_ni_5, ← zi_ni_6, ← zi_ni_7, ← zi_ni_8, ← zi_ni_9, ← zi_ni_10, ← zi_ni_12, ← zi_ni_24, ← zi_ni_25, ← zi_ni_40, ← zi_ni_45, ← zi_ni_47, ← zi_ni_48, ← zi_ni_95, ← zi_ni_96, ← zi_ni_97, ← zi_ni_100, ← zi_ni_144, ← zi_ni_288, nI_ltI, nI_leI, nI_eqI, nlt_T, nlt_F, nle_T, nle_F, neq_T, neq_F, nI_add, pk_mul, nI_clamp, q_inT, ng_lt, ng_tl, ng_le, ng_el, ng_eq, ng_qe, q_b0, q_b1, nar_0, nar_1, b01, b01', q_bn0, q_bn1, nar_n0, nar_n1, si_k, si_i, si_s, si_e, si_2, sl_1, sl_22, sl_k, sl_i, sl_s, sl_e, sp_1, sp_21, sp_22, sc_k, sc_i, sc_e, sc_2, mF_k, mM_k, mF_2, mM_2, mF_0, mM_11, ↓eu_L_X9_hear_17, ↓eu_X2_fromOldest, q4, q5, qX, hx, pk_rem', n_rem, pk_div]
      exact K3
  · rintro F t ⟨a1, a2, a3, a4, a5⟩
    have q5 : t.1 9 g 5 = nI m := by rw [a1]; exact e5
    show Ev (L_X9_hear_17 o g (nI p) (F + 1) (nI m) t e) P
    simp (disch := first | omega | decide) only [Nat.reduceAdd, Nat.reduceMul, ↓ev_bd, ↓ev_ck, ↓ev_if, ↓ev_lt, ↓ev_jn, ↓ev_so, ↓reduceIte, ↓ev_within, ↓ev_in, ↓ev_isBoard, ↓ev_isGauge, ↓ev_isNumber, ↓ev_isSix, ↓ev_isEight, ↓ev_foundN, ↓ev_meetsN, ↓ev_found_1, ↓ev_meets_1, ↓ev_found_2, ↓ev_meets_2, ↓ev_found_3, ↓ev_meets_3, ↓ev_found_4, ↓ev_meets_4, ↓ev_found_5, ↓ev_meets_5, true_and, and_true, and_self, eq_self, not_true_eq_false, not_false_eq_true, ite_true, ite_false, true_or, or_true, false_or, or_false, false_and, and_false, ← zi_ni_0, ← zi_ni_1, ← zi_ni_2, ← zi_ni_3, ← zi_ni_4, ← zi_ni_5, ← zi_ni_6, ← zi_ni_7, ← zi_ni_8, ← zi_ni_9, ← zi_ni_10, ← zi_ni_12, ← zi_ni_24, ← zi_ni_25, ← zi_ni_40, ← zi_ni_45, ← zi_ni_47, ← zi_ni_48, ← zi_ni_95, ← zi_ni_96, ← zi_ni_97, ← zi_ni_100, ← zi_ni_144, ← zi_ni_288, nI_ltI, nI_leI, nI_eqI, nlt_T, nlt_F, nle_T, nle_F, neq_T, neq_F, nI_add, pk_mul, nI_clamp, q_inT, ng_lt, ng_tl, ng_le, ng_el, ng_eq, ng_qe, q_b0, q_b1, nar_0, nar_1, b01, b01', q_bn0, q_bn1, nar_n0, nar_n1, si_k, si_i, si_s, si_e, si_2, sl_1, sl_22, sl_k, sl_i, sl_s, sl_e, sp_1, sp_21, sp_22, sc_k, sc_i, sc_e, sc_2, mF_k, mM_k, mF_2, mM_2, mF_0, mM_11, ↓eu_L_X9_hear_17, q5]
    exact K t a1 a2 a3 a4 a5
theorem ev_hear {o g f m p : Nat} {L X : Nat → Int32} {u : qM} {P : Unit → qM → Prop} (hp : 4 ≤ p ∧ p ≤ 48) (hG : GR u g f m L X) (K : ∀ t, (∀ k j s, ¬ (k = 10 ∧ j = o ∧ s = 2) → t.1 k j s = u.1 k j s) → t.1 10 o 2 = nI 1 → (∀ k j s, ¬ (k = 10 ∧ j = o) → t.2.1 k j s = u.2.1 k j s) → t.2.2 = u.2.2 → t.2.1 10 o 0 = Int32.toInt64 (tn L X p 0 m) → t.2.1 10 o 1 = Int32.toInt64 (tn L X p (p / 4) m) → P () t) : Ev (f_X9_hear o g (nI p) u) P := by
  refine eu_X9_hear.mpr (ev_lt.mpr (ev_lt.mpr (ev_lt.mpr ?_)))
  refine lp_hear (f := f) (m := m) (L := L) (X := X) hp hG ?_ ?_ (fun t a1 a2 a3 a4 a5 => ev_so.mpr (K t (fun k j s q => ?_) ?_ (fun k j s q => ?_) a3 a4 a5))
  · show (q_sl (q_sl u 10 o 0 0) 10 o 1 0).2.1 10 o 0 = _
    rw [sl_s (by decide), sl_e]
    rfl
  · show (q_sl (q_sl u 10 o 0 0) 10 o 1 0).2.1 10 o 1 = _
    rw [sl_e]
    rfl
  · rw [a1]
    exact si_n q
  · rw [a1]
    exact si_e
  · rw [a2 k j s q]
    exact (if_neg (fun z => q ⟨z.1, z.2.1⟩)).trans (if_neg (fun z => q ⟨z.1, z.2.1⟩))
def kq (X : Nat → Int32) (i : Nat) : Bool := decide (X i = nI 0)
theorem lp_kept {g f m : Nat} {L X : Nat → Int32} {u : qM} {e : Int32 → qM → Option (Int32 × qM)} {P : Int32 → qM → Prop} (hG : GR u g f m L X) (K : Ev (e (nI (cnt (kq X) m)) u) P) : Ev (L_X2_kept_4 g q_fu (nI 0) (nI 0) u e) P := by
  obtain ⟨hf, hm, e4, e5, eL, bL⟩ := hG
  refine lpa (fun f b x t => L_X2_kept_4 g f b x t e) (fun i b t => b = nI (cnt (kq X) i) ∧ t = u) m (by omega) (nI 0) u ⟨rfl, rfl⟩ ?_ ?_
  · rintro F i b t hi ⟨rfl, rfl⟩ K2
    obtain ⟨rL, rX⟩ := eL i hi
    show Ev (L_X2_kept_4 g (F + 1) (nI (cnt (kq X) i)) (nI i) t e) P
    by_cases hx : X i = nI 0
    · have K3 := K2 (nI (cnt (kq X) i + 1)) t ⟨by rw [cnt_t (decide_eq_true hx)], rfl⟩
      simp (disch := first | omega | decide) only [Nat.reduceAdd, Nat.reduceMul, ↓ev_bd, ↓ev_ck, ↓ev_if, ↓ev_lt, ↓ev_jn, ↓ev_so, ↓reduceIte, ↓ev_within, ↓ev_in, ↓ev_isBoard, ↓ev_isGauge, ↓ev_isNumber, ↓ev_isSix, ↓ev_isEight, ↓ev_foundN, ↓ev_meetsN, ↓ev_found_1, ↓ev_meets_1, ↓ev_found_2, ↓ev_meets_2, ↓ev_found_3, ↓ev_meets_3, ↓ev_found_4, ↓ev_meets_4, ↓ev_found_5, ↓ev_meets_5, true_and, and_true, and_self, eq_self, not_true_eq_false, not_false_eq_true, ite_true, ite_false, true_or, or_true, false_or, or_false, false_and, and_false, ← zi_ni_0, ← zi_ni_1, ← zi_ni_2, ← zi_ni_3, ← zi_ni_4, ← zi_ni_5, ← zi_ni_6, ← zi_ni_7, ← zi_ni_8, ← zi_ni_9, ← zi_ni_10, ← zi_ni_12, ← zi_ni_24, ← zi_ni_25, ← zi_ni_40, ← zi_ni_45, ← zi_ni_47, ← zi_ni_48, ← zi_ni_95, ← zi_ni_96, ← zi_ni_97, ← zi_ni_100, ← zi_ni_144, ← zi_ni_288, nI_ltI, nI_leI, nI_eqI, nlt_T, nlt_F, nle_T, nle_F, neq_T, neq_F, nI_add, pk_mul, nI_clamp, q_inT, ng_lt, ng_tl, ng_le, ng_el, ng_eq, ng_qe, q_b0, q_b1, nar_0, nar_1, b01, b01', q_bn0, q_bn1, nar_n0, nar_n1, si_k, si_i, si_s, si_e, si_2, sl_1, sl_22, sl_k, sl_i, sl_s, sl_e, sp_1, sp_21, sp_22, sc_k, sc_i, sc_e, sc_2, mF_k, mM_k, mF_2, mM_2, mF_0, mM_11, ↓eu_L_X2_kept_4, ↓eu_X2_fromOldest, e4, e5, rX, hx, pk_rem', n_rem, pk_div, Nat.add_zero]
      exact K3
    · have K3 := K2 (nI (cnt (kq X) i)) t ⟨by rw [cnt_f (fun z => hx (of_decide_eq_true z))], rfl⟩
      simp (disch := first | omega | decide) only [Nat.reduceAdd, Nat.reduceMul, ↓ev_bd, ↓ev_ck, ↓ev_if, ↓ev_lt, ↓ev_jn, ↓ev_so, ↓reduceIte, ↓ev_within, ↓ev_in, ↓ev_isBoard, ↓ev_isGauge, ↓ev_isNumber, ↓ev_isSix, ↓ev_isEight, ↓ev_foundN, ↓ev_meetsN, ↓ev_found_1, ↓ev_meets_1, ↓ev_found_2, ↓ev_meets_2, ↓ev_found_3, ↓ev_meets_3, ↓ev_found_4, ↓ev_meets_4, ↓ev_found_5, ↓ev_meets_5, true_and, and_true, and_self, eq_self, not_true_eq_false, not_false_eq_true, ite_true, ite_false, true_or, or_true, false_or, or_false, false_and, and_false, ← zi_ni_0, ← zi_ni_1, ← zi_ni_2, ← zi_ni_3, ← zi_ni_4, ← zi_ni_5, ← zi_ni_6, ← zi_ni_7, ← zi_ni_8, ← zi_ni_9, ← zi_ni_10, ← zi_ni_12, ← zi_ni_24, ← zi_ni_25, ← zi_ni_40, ← zi_ni_45, ← zi_ni_47, ← zi_ni_48, ← zi_ni_95, ← zi_ni_96, ← zi_ni_97, ← zi_ni_100, ← zi_ni_144, ← zi_ni_288, nI_ltI, nI_leI, nI_eqI, nlt_T, nlt_F, nle_T, nle_F, neq_T, neq_F, nI_add, pk_mul, nI_clamp, q_inT, ng_lt, ng_tl, ng_le, ng_el, ng_eq, ng_qe, q_b0, q_b1, nar_0, nar_1, b01, b01', q_bn0, q_bn1, nar_n0, nar_n1, si_k, si_i, si_s, si_e, si_2, sl_1, sl_22, sl_k, sl_i, sl_s, sl_e, sp_1, sp_21, sp_22, sc_k, sc_i, sc_e, sc_2, mF_k, mM_k, mF_2, mM_2, mF_0, mM_11, ↓eu_L_X2_kept_4, ↓eu_X2_fromOldest, e4, e5, rX, hx, pk_rem', n_rem, pk_div, Nat.add_zero]
      exact K3
  · rintro F b t ⟨rfl, rfl⟩
    show Ev (L_X2_kept_4 g (F + 1) (nI (cnt (kq X) m)) (nI m) t e) P
    simp (disch := first | omega | decide) only [Nat.reduceAdd, Nat.reduceMul, ↓ev_bd, ↓ev_ck, ↓ev_if, ↓ev_lt, ↓ev_jn, ↓ev_so, ↓reduceIte, ↓ev_within, ↓ev_in, ↓ev_isBoard, ↓ev_isGauge, ↓ev_isNumber, ↓ev_isSix, ↓ev_isEight, ↓ev_foundN, ↓ev_meetsN, ↓ev_found_1, ↓ev_meets_1, ↓ev_found_2, ↓ev_meets_2, ↓ev_found_3, ↓ev_meets_3, ↓ev_found_4, ↓ev_meets_4, ↓ev_found_5, ↓ev_meets_5, true_and, and_true, and_self, eq_self, not_true_eq_false, not_false_eq_true, ite_true, ite_false, true_or, or_true, false_or, or_false, false_and, and_false, ← zi_ni_0, ← zi_ni_1, ← zi_ni_2, ← zi_ni_3, ← zi_ni_4, ← zi_ni_5, ← zi_ni_6, ← zi_ni_7, ← zi_ni_8, ← zi_ni_9, ← zi_ni_10, ← zi_ni_12, ← zi_ni_24, ← zi_ni_25, ← zi_ni_40, ← zi_ni_45, ← zi_ni_47, ← zi_ni_48, ← zi_ni_95, ← zi_ni_96, ← zi_ni_97, ← zi_ni_100, ← zi_ni_144, ← zi_ni_288, nI_ltI, nI_leI, nI_eqI, nlt_T, nlt_F, nle_T, nle_F, neq_T, neq_F, nI_add, pk_mul, nI_clamp, q_inT, ng_lt, ng_tl, ng_le, ng_el, ng_eq, ng_qe, q_b0, q_b1, nar_0, nar_1, b01, b01', q_bn0, q_bn1, nar_n0, nar_n1, si_k, si_i, si_s, si_e, si_2, sl_1, sl_22, sl_k, sl_i, sl_s, sl_e, sp_1, sp_21, sp_22, sc_k, sc_i, sc_e, sc_2, mF_k, mM_k, mF_2, mM_2, mF_0, mM_11, ↓eu_L_X2_kept_4, e5]
    exact K
def HR (u : qM) (g m : Nat) (L X : Nat → Int32) : Prop := m ≤ 48 ∧ u.1 110 0 g = nI m ∧ (∀ i, i < m → u.1 111 0 (48 * g + i) = L i ∧ u.1 112 0 (48 * g + i) = X i)
def anyq (X : Nat → Int32) (i : Nat) : Int32 := if cnt (kq X) i = 0 then nI 0 else nI 1
theorem ev_sums {g m p : Nat} {L X : Nat → Int32} {u : qM} {P : Int32 → qM → Prop} (hg : g < 8) (hp : 4 ≤ p ∧ p ≤ 48) (hG : HR u g m L X) (K : ∀ t, (∀ k j s, ¬ (k = 11 ∧ j = 0 ∧ (s = 53 ∨ s = 54)) → t.1 k j s = u.1 k j s) → t.2 = u.2 → t.1 11 0 53 = tn L X p 0 m → t.1 11 0 54 = tn L X p (p / 4) m → P (anyq X m) t) : Ev (f_X11_sums (nI g) (nI p) u) P := by
  obtain ⟨hm, e5, eL⟩ := hG
  refine eu_X11_sums.mpr (ev_lt.mpr (ev_lt.mpr ?_))
  refine lpa (fun f b x t => L_X11_sums_15 (nI g) (nI p) f b x t (fun x10 u9 => q_ck (q_b x10) (some (x10, u9)))) (fun i b t => b = anyq X i ∧ (∀ k j s, ¬ (k = 11 ∧ j = 0 ∧ (s = 53 ∨ s = 54)) → t.1 k j s = u.1 k j s) ∧ t.2 = u.2 ∧ t.1 11 0 53 = tn L X p 0 i ∧ t.1 11 0 54 = tn L X p (p / 4) i) m (by omega) (nI 0) _ ⟨rfl, fun k j s q => ?_, rfl, ?_, ?_⟩ ?_ ?_
  · rw [si_n (by omega), si_n (by omega)]
  · rw [si_s (by decide), si_e]
    rfl
  · rw [si_e]
    rfl
  · rintro F i b t hi ⟨rfl, a1, a2, a3, a4⟩ K2
    obtain ⟨rL, rX⟩ := eL i hi
    have q5 : t.1 110 0 g = nI m := (a1 110 0 g (by omega)).trans e5
    have qL : t.1 111 0 (48 * g + i) = L i := (a1 111 0 _ (by omega)).trans rL
    have qX : t.1 112 0 (48 * g + i) = X i := (a1 112 0 _ (by omega)).trans rX
    show Ev (L_X11_sums_15 (nI g) (nI p) (F + 1) (anyq X i) (nI i) t _) P
    have g1 : i % p ≤ i := Nat.mod_le _ _
    have g2 : (i + p / 4) % p ≤ i + p / 4 := Nat.mod_le _ _
    by_cases hx : X i = nI 0
    · have K3 := K2 (nI 1) (q_si (q_si t 11 0 53 (t.1 11 0 53 + sgn p i (L i))) 11 0 54 (t.1 11 0 54 + sgn p (i + p / 4) (L i))) ⟨?_, fun k j s q => ?_, a2, ?_, ?_⟩
      · unfold sgn at K3
        generalize hm1 : i % p = m1 at *
        generalize hm2 : (i + p / 4) % p = m2 at *
        refine Ev.hide (fun P' K' => ?_)
        by_cases c1 : m1 < p / 2
        · rw [if_pos c1] at K3
          by_cases c2 : m2 < p / 2
          · rw [if_pos c2] at K3
            simp (disch := first | omega | decide) only [Nat.reduceAdd, Nat.reduceMul, ↓ev_bd, ↓ev_ck, ↓ev_if, ↓ev_lt, ↓ev_jn, ↓ev_so, ↓reduceIte, ↓ev_within, ↓ev_in, ↓ev_isBoard, ↓ev_isGauge, ↓ev_isNumber, ↓ev_isSix, ↓ev_isEight, ↓ev_foundN, ↓ev_meetsN, ↓ev_found_1, ↓ev_meets_1, ↓ev_found_2, ↓ev_meets_2, ↓ev_found_3, ↓ev_meets_3, ↓ev_found_4, ↓ev_meets_4, ↓ev_found_5, ↓ev_meets_5, true_and, and_true, and_self, eq_self, not_true_eq_false, not_false_eq_true, ite_true, ite_false, true_or, or_true, false_or, or_false, false_and, and_false, ← zi_ni_0, ← zi_ni_1, ← zi_ni_2, ← zi_ni_3, ← zi_ni_4, ← zi_ni_5, ← zi_ni_6, ← zi_ni_7, ← zi_ni_8, ← zi_ni_9, ← zi_ni_10, ← zi_ni_12, ← zi_ni_24, ← zi_ni_25, ← zi_ni_40, ← zi_ni_45, ← zi_ni_47, ← zi_ni_48, ← zi_ni_95, ← zi_ni_96, ← zi_ni_97, ← zi_ni_100, ← zi_ni_144, ← zi_ni_288, nI_ltI, nI_leI, nI_eqI, nlt_T, nlt_F, nle_T, nle_F, neq_T, neq_F, nI_add, pk_mul, nI_clamp, q_inT, ng_lt, ng_tl, ng_le, ng_el, ng_eq, ng_qe, q_b0, q_b1, nar_0, nar_1, b01, b01', q_bn0, q_bn1, nar_n0, nar_n1, si_k, si_i, si_s, si_e, si_2, sl_1, sl_22, sl_k, sl_i, sl_s, sl_e, sp_1, sp_21, sp_22, sc_k, sc_i, sc_e, sc_2, mF_k, mM_k, mF_2, mM_2, mF_0, mM_11, ↓eu_L_X11_sums_15, q5, qX, qL, hx, c1, c2, hm1, hm2, pk_rem', n_rem, pk_div, q_nzI]
            exact K3.mono K'
          · rw [if_neg c2] at K3
            simp (disch := first | omega | decide) only [Nat.reduceAdd, Nat.reduceMul, ↓ev_bd, ↓ev_ck, ↓ev_if, ↓ev_lt, ↓ev_jn, ↓ev_so, ↓reduceIte, ↓ev_within, ↓ev_in, ↓ev_isBoard, ↓ev_isGauge, ↓ev_isNumber, ↓ev_isSix, ↓ev_isEight, ↓ev_foundN, ↓ev_meetsN, ↓ev_found_1, ↓ev_meets_1, ↓ev_found_2, ↓ev_meets_2, ↓ev_found_3, ↓ev_meets_3, ↓ev_found_4, ↓ev_meets_4, ↓ev_found_5, ↓ev_meets_5, true_and, and_true, and_self, eq_self, not_true_eq_false, not_false_eq_true, ite_true, ite_false, true_or, or_true, false_or, or_false, false_and, and_false, ← zi_ni_0, ← zi_ni_1, ← zi_ni_2, ← zi_ni_3, ← zi_ni_4, ← zi_ni_5, ← zi_ni_6, ← zi_ni_7, ← zi_ni_8, ← zi_ni_9, ← zi_ni_10, ← zi_ni_12, ← zi_ni_24, ← zi_ni_25, ← zi_ni_40, ← zi_ni_45, ← zi_ni_47, ← zi_ni_48, ← zi_ni_95, ← zi_ni_96, ← zi_ni_97, ← zi_ni_100, ← zi_ni_144, ← zi_ni_288, nI_ltI, nI_leI, nI_eqI, nlt_T, nlt_F, nle_T, nle_F, neq_T, neq_F, nI_add, pk_mul, nI_clamp, q_inT, ng_lt, ng_tl, ng_le, ng_el, ng_eq, ng_qe, q_b0, q_b1, nar_0, nar_1, b01, b01', q_bn0, q_bn1, nar_n0, nar_n1, si_k, si_i, si_s, si_e, si_2, sl_1, sl_22, sl_k, sl_i, sl_s, sl_e, sp_1, sp_21, sp_22, sc_k, sc_i, sc_e, sc_2, mF_k, mM_k, mF_2, mM_2, mF_0, mM_11, ↓eu_L_X11_sums_15, q5, qX, qL, hx, c1, c2, hm1, hm2, pk_rem', n_rem, pk_div, q_nzI]
            exact K3.mono K'
        · rw [if_neg c1] at K3
          by_cases c2 : m2 < p / 2
          · rw [if_pos c2] at K3
            simp (disch := first | omega | decide) only [Nat.reduceAdd, Nat.reduceMul, ↓ev_bd, ↓ev_ck, ↓ev_if, ↓ev_lt, ↓ev_jn, ↓ev_so, ↓reduceIte, ↓ev_within, ↓ev_in, ↓ev_isBoard, ↓ev_isGauge, ↓ev_isNumber, ↓ev_isSix, ↓ev_isEight, ↓ev_foundN, ↓ev_meetsN, ↓ev_found_1, ↓ev_meets_1, ↓ev_found_2, ↓ev_meets_2, ↓ev_found_3, ↓ev_meets_3, ↓ev_found_4, ↓ev_meets_4, ↓ev_found_5, ↓ev_meets_5, true_and, and_true, and_self, eq_self, not_true_eq_false, not_false_eq_true, ite_true, ite_false, true_or, or_true, false_or, or_false, false_and, and_false, ← zi_ni_0, ← zi_ni_1, ← zi_ni_2, ← zi_ni_3, ← zi_ni_4, ← zi_ni_5, ← zi_ni_6, ← zi_ni_7, ← zi_ni_8, ← zi_ni_9, ← zi_ni_10, ← zi_ni_12, ← zi_ni_24, ← zi_ni_25, ← zi_ni_40, ← zi_ni_45, ← zi_ni_47, ← zi_ni_48, ← zi_ni_95, ← zi_ni_96, ← zi_ni_97, ← zi_ni_100, ← zi_ni_144, ← zi_ni_288, nI_ltI, nI_leI, nI_eqI, nlt_T, nlt_F, nle_T, nle_F, neq_T, neq_F, nI_add, pk_mul, nI_clamp, q_inT, ng_lt, ng_tl, ng_le, ng_el, ng_eq, ng_qe, q_b0, q_b1, nar_0, nar_1, b01, b01', q_bn0, q_bn1, nar_n0, nar_n1, si_k, si_i, si_s, si_e, si_2, sl_1, sl_22, sl_k, sl_i, sl_s, sl_e, sp_1, sp_21, sp_22, sc_k, sc_i, sc_e, sc_2, mF_k, mM_k, mF_2, mM_2, mF_0, mM_11, ↓eu_L_X11_sums_15, q5, qX, qL, hx, c1, c2, hm1, hm2, pk_rem', n_rem, pk_div, q_nzI]
            exact K3.mono K'
          · rw [if_neg c2] at K3
            simp (disch := first | omega | decide) only [Nat.reduceAdd, Nat.reduceMul, ↓ev_bd, ↓ev_ck, ↓ev_if, ↓ev_lt, ↓ev_jn, ↓ev_so, ↓reduceIte, ↓ev_within, ↓ev_in, ↓ev_isBoard, ↓ev_isGauge, ↓ev_isNumber, ↓ev_isSix, ↓ev_isEight, ↓ev_foundN, ↓ev_meetsN, ↓ev_found_1, ↓ev_meets_1, ↓ev_found_2, ↓ev_meets_2, ↓ev_found_3, ↓ev_meets_3, ↓ev_found_4, ↓ev_meets_4, ↓ev_found_5, ↓ev_meets_5, true_and, and_true, and_self, eq_self, not_true_eq_false, not_false_eq_true, ite_true, ite_false, true_or, or_true, false_or, or_false, false_and, and_false, ← zi_ni_0, ← zi_ni_1, ← zi_ni_2, ← zi_ni_3, ← zi_ni_4, ← zi_ni_5, ← zi_ni_6, ← zi_ni_7, ← zi_ni_8, ← zi_ni_9, ← zi_ni_10, ← zi_ni_12, ← zi_ni_24, ← zi_ni_25, ← zi_ni_40, ← zi_ni_45, ← zi_ni_47, ← zi_ni_48, ← zi_ni_95, ← zi_ni_96, ← zi_ni_97, ← zi_ni_100, ← zi_ni_144, ← zi_ni_288, nI_ltI, nI_leI, nI_eqI, nlt_T, nlt_F, nle_T, nle_F, neq_T, neq_F, nI_add, pk_mul, nI_clamp, q_inT, ng_lt, ng_tl, ng_le, ng_el, ng_eq, ng_qe, q_b0, q_b1, nar_0, nar_1, b01, b01', q_bn0, q_bn1, nar_n0, nar_n1, si_k, si_i, si_s, si_e, si_2, sl_1, sl_22, sl_k, sl_i, sl_s, sl_e, sp_1, sp_21, sp_22, sc_k, sc_i, sc_e, sc_2, mF_k, mM_k, mF_2, mM_2, mF_0, mM_11, ↓eu_L_X11_sums_15, q5, qX, qL, hx, c1, c2, hm1, hm2, pk_rem', n_rem, pk_div, q_nzI]
            exact K3.mono K'
      · unfold anyq
        rw [cnt_t (decide_eq_true hx), if_neg (by omega)]
      · rw [si_n (by omega), si_n (by omega)]
        exact a1 k j s q
      · rw [si_s (by decide), si_e, tn_t hx, a3]
        rfl
      · rw [si_e, tn_t hx, a4]
    · have K3 := K2 (anyq X i) t ⟨by unfold anyq; rw [cnt_f (fun z => hx (of_decide_eq_true z))], a1, a2, by rw [tn_s hx]; exact a3, by rw [tn_s hx]; exact a4⟩
      generalize anyq X i = aq at *
      simp (disch := first | omega | decide) only [Nat.reduceAdd, Nat.reduceMul, ↓ev_bd, ↓ev_ck, ↓ev_if, ↓ev_lt, ↓ev_jn, ↓ev_so, ↓reduceIte, ↓ev_within, ↓ev_in, ↓ev_isBoard, ↓ev_isGauge, ↓ev_isNumber, ↓ev_isSix, ↓ev_isEight, ↓ev_foundN, ↓ev_meetsN, ↓ev_found_1, ↓ev_meets_1, ↓ev_found_2, ↓ev_meets_2, ↓ev_found_3, ↓ev_meets_3, ↓ev_found_4, ↓ev_meets_4, ↓ev_found_5, ↓ev_meets_5, true_and, and_true, and_self, eq_self, not_true_eq_false, not_false_eq_true, ite_true, ite_false, true_or, or_true, false_or, or_false, false_and, and_false, ← zi_ni_0, ← zi_ni_1, ← zi_ni_2, ← zi_ni_3, ← zi_ni_4, ← zi_ni_5, ← zi_ni_6, ← zi_ni_7, ← zi_ni_8, ← zi_ni_9, ← zi_ni_10, ← zi_ni_12, ← zi_ni_24, ← zi_ni_25, ← zi_ni_40, ← zi_ni_45, ← zi_ni_47, ← zi_ni_48, ← zi_ni_95, ← zi_ni_96, ← zi_ni_97, ← zi_ni_100, ← zi_ni_144, ← zi_ni_288, nI_ltI, nI_leI, nI_eqI, nlt_T, nlt_F, nle_T, nle_F, neq_T, neq_F, nI_add, pk_mul, nI_clamp, q_inT, ng_lt, ng_tl, ng_le, ng_el, ng_eq, ng_qe, q_b0, q_b1, nar_0, nar_1, b01, b01', q_bn0, q_bn1, nar_n0, nar_n1, si_k, si_i, si_s, si_e, si_2, sl_1, sl_22, sl_k, sl_i, sl_s, sl_e, sp_1, sp_21, sp_22, sc_k, sc_i, sc_e, sc_2, mF_k, mM_k, mF_2, mM_2, mF_0, mM_11, ↓eu_L_X11_sums_15, q5, qX, hx]
      exact K3
  · rintro F b t ⟨rfl, a1, a2, a3, a4⟩
    have q5 : t.1 110 0 g = nI m := (a1 110 0 g (by omega)).trans e5
    have K1 := K t a1 a2 a3 a4
    have qb : q_b (anyq X m) = true := by
      unfold anyq
      by_cases q : cnt (kq X) m = 0
      · rw [if_pos q]; exact q_bn0
      · rw [if_neg q]; exact q_bn1
    generalize anyq X m = aq at *
    show Ev (L_X11_sums_15 (nI g) (nI p) (F + 1) aq (nI m) t _) P
    simp (disch := first | omega | decide) only [Nat.reduceAdd, Nat.reduceMul, ↓ev_bd, ↓ev_ck, ↓ev_if, ↓ev_lt, ↓ev_jn, ↓ev_so, ↓reduceIte, ↓ev_within, ↓ev_in, ↓ev_isBoard, ↓ev_isGauge, ↓ev_isNumber, ↓ev_isSix, ↓ev_isEight, ↓ev_foundN, ↓ev_meetsN, ↓ev_found_1, ↓ev_meets_1, ↓ev_found_2, ↓ev_meets_2, ↓ev_found_3, ↓ev_meets_3, ↓ev_found_4, ↓ev_meets_4, ↓ev_found_5, ↓ev_meets_5, true_and, and_true, and_self, eq_self, not_true_eq_false, not_false_eq_true, ite_true, ite_false, true_or, or_true, false_or, or_false, false_and, and_false, ← zi_ni_0, ← zi_ni_1, ← zi_ni_2, ← zi_ni_3, ← zi_ni_4, ← zi_ni_5, ← zi_ni_6, ← zi_ni_7, ← zi_ni_8, ← zi_ni_9, ← zi_ni_10, ← zi_ni_12, ← zi_ni_24, ← zi_ni_25, ← zi_ni_40, ← zi_ni_45, ← zi_ni_47, ← zi_ni_48, ← zi_ni_95, ← zi_ni_96, ← zi_ni_97, ← zi_ni_100, ← zi_ni_144, ← zi_ni_288, nI_ltI, nI_leI, nI_eqI, nlt_T, nlt_F, nle_T, nle_F, neq_T, neq_F, nI_add, pk_mul, nI_clamp, q_inT, ng_lt, ng_tl, ng_le, ng_el, ng_eq, ng_qe, q_b0, q_b1, nar_0, nar_1, b01, b01', q_bn0, q_bn1, nar_n0, nar_n1, si_k, si_i, si_s, si_e, si_2, sl_1, sl_22, sl_k, sl_i, sl_s, sl_e, sp_1, sp_21, sp_22, sc_k, sc_i, sc_e, sc_2, mF_k, mM_k, mF_2, mM_2, mF_0, mM_11, ↓eu_L_X11_sums_15, q5, qb]
    exact K1
theorem Rel.gau {n g : Nat} {μ : qM} (h : Rel n μ) (hg : g < 8) : (μ.1 9 g 2 = -nI 9 ∧ μ.1 108 0 g = -nI 9) ∨ ∃ b f m L X, b < 6 ∧ μ.1 9 g 2 = nI b ∧ μ.1 108 0 g = nI b ∧ GR μ g f m L X ∧ HR μ g m L X := by
  rcases h.2.2.2.2.2.2.1 g hg with z | ⟨b, c, f, m, hb, e1, e2, e3, e4, e5, e6, e7, e8, e9, e10, e11, e12⟩
  · exact .inl z
  · refine .inr ⟨b, f, m, fun i => μ.1 52 g ((f + i) % 48), fun i => μ.1 53 g ((f + i) % 48), hb, e2, e3, ⟨e7, e8, e9, e10, fun i hi => ⟨rfl, rfl⟩, fun i hi => ?_⟩, ⟨e8, e11, fun i hi => ⟨(e12 i hi).1, (e12 i hi).2.1⟩⟩⟩
    have := (e12 i hi).2.2.2
    dsimp only
    exact ⟨by omega, by omega⟩
