/-! The reference's step: water and stuffs, rivers, what is written back. -/
theorem shr_d {x y z : Int32} : Int64.toInt32 (Int32.toInt64 x * Int32.toInt64 y / Int32.toInt64 z) = shr x y z := rfl
theorem fu_c3 {x y z : Int32} {u : qM} {e : qM → Option (Unit × qM)} {P : Unit → qM → Prop} : Ev (L_X11_carryAll_30 x y q_fu z u e) P ↔ Ev (L_X11_carryAll_30 x y (3996 + 1 + 1 + 1 + 1) z u e) P := Iff.rfl
theorem fu_c195 {a b c d f z : Int32} {u : qM} {e : qM → Option (Unit × qM)} {P : Unit → qM → Prop} : Ev (L_X11_carryAll_195 a b c d f q_fu z u e) P ↔ Ev (L_X11_carryAll_195 a b c d f (3996 + 1 + 1 + 1 + 1) z u e) P := Iff.rfl
theorem fu_s178 {x y z : Int32} {u : qM} {e : qM → Option (Int32 × qM)} {P : Int32 → qM → Prop} : Ev (L_X11_stepOnce_178 x y q_fu z u e) P ↔ Ev (L_X11_stepOnce_178 x y (3996 + 1 + 1 + 1 + 1) z u e) P := Iff.rfl
theorem lp_mc0 {v : qB} {j w h : Nat} {u : qM} {e : qM → Option (Unit × qM)} {P : Unit → qM → Prop} (hj : j < 8) (hd : DW v w h) (hn : SM v u j) (K0 : ∀ u', (∀ k, k ≠ 103 → k ≠ 104 → u'.1 k = u.1 k) ∧ u'.2 = u.2 ∧ (∀ c, c < w * h → u'.1 103 0 c = v 2 c ∧ u'.1 104 0 c = v 3 c ∧ u'.1 104 0 (48 + c) = v 3 (48 + c) ∧ u'.1 104 0 (96 + c) = v 3 (96 + c)) → Ev (e u') P) : Ev (L_X11_carryAll_2 (nI j) q_fu 0 u e) P := by
  obtain ⟨d1, d2, d3, d4, d5, d6, d7, d8, d9, d10⟩ := hd
  refine lpc (fun f x t => L_X11_carryAll_2 (nI j) f x t e) (fun i t => (∀ k, k ≠ 103 → k ≠ 104 → t.1 k = u.1 k) ∧ t.2 = u.2 ∧ (∀ c, c < i → t.1 103 0 c = v 2 c ∧ t.1 104 0 c = v 3 c ∧ t.1 104 0 (48 + c) = v 3 (48 + c) ∧ t.1 104 0 (96 + c) = v 3 (96 + c))) (w * h) (by omega) u ⟨fun _ _ _ => rfl, rfl, fun s hs => absurd hs (Nat.not_lt_zero _)⟩ ?_ ?_
  · rintro f i t hi ⟨g1, g2, g3⟩ K
    show Ev (L_X11_carryAll_2 (nI j) (f + 1) (nI i) t e) P
    have hn' : SM v t j := hn.k (fun k q => g1 k (by omega) (by omega))
    have c2 : t.1 75 0 j = nI w := hn'.2.1.trans d1
    have c3 : t.1 76 0 j = nI h := hn'.2.2.1.trans d2
    have c9 : t.1 92 0 (48 * j + i) = v 2 i := hn'.2.2.2.2.2.2.2.2.1 _ (by omega)
    have s0 : t.1 93 0 (144 * j + i) = v 3 i := hn'.2.2.2.2.2.2.2.2.2.2.2 _ (by omega)
    have s1 : t.1 93 0 (144 * j + 48 + i) = v 3 (48 + i) := by rw [Nat.add_assoc]; exact hn'.2.2.2.2.2.2.2.2.2.2.2 _ (by omega)
    have s2 : t.1 93 0 (144 * j + 96 + i) = v 3 (96 + i) := by rw [Nat.add_assoc]; exact hn'.2.2.2.2.2.2.2.2.2.2.2 _ (by omega)
    simp (disch := first | omega | decide) only [Nat.reduceAdd, Nat.reduceMul, ↓ev_ck, ↓ev_if, ↓ev_lt, ↓ev_jn, ↓ev_so, ↓reduceIte, ↓ev_within, ↓ev_in, ↓ev_isBoard, ↓ev_isGauge, ↓ev_isNumber, ↓ev_isSix, ↓ev_isEight, ↓ev_foundN, ↓ev_meetsN, ↓ev_found_1, ↓ev_meets_1, ↓ev_found_2, ↓ev_meets_2, ↓ev_found_3, ↓ev_meets_3, ↓ev_found_4, ↓ev_meets_4, ↓ev_found_5, ↓ev_meets_5, true_and, and_true, and_self, eq_self, not_true_eq_false, not_false_eq_true, ite_true, ite_false, true_or, or_true, false_or, or_false, false_and, and_false, ← zi_ni_0, ← zi_ni_1, ← zi_ni_2, ← zi_ni_3, ← zi_ni_4, ← zi_ni_5, ← zi_ni_6, ← zi_ni_7, ← zi_ni_8, ← zi_ni_9, ← zi_ni_10, ← zi_ni_12, ← zi_ni_24, ← zi_ni_25, ← zi_ni_40, ← zi_ni_45, ← zi_ni_47, ← zi_ni_48, ← zi_ni_95, ← zi_ni_96, ← zi_ni_97, ← zi_ni_100, ← zi_ni_144, ← zi_ni_288, nI_ltI, nI_leI, nI_eqI, nlt_T, nlt_F, nle_T, nle_F, neq_T, neq_F, nI_add, pk_mul, nI_clamp, q_inT, ng_lt, ng_tl, ng_le, ng_el, ng_eq, ng_qe, q_b0, q_b1, nar_0, nar_1, b01, b01', q_bn0, q_bn1, nar_n0, nar_n1, si_k, si_i, si_s, si_e, si_2, sl_1, sl_22, sl_k, sl_i, sl_s, sl_e, sp_1, sp_21, sp_22, sc_k, sc_i, sc_e, sc_2, mF_k, mM_k, mF_2, mM_2, mF_0, mM_11, ↓eu_L_X11_carryAll_2, ↓bd_mcells, c2, c3, ↓fu_c3, ↓eu_L_X11_carryAll_30, c9, s0, s1, s2, Nat.add_zero, Nat.zero_add]
    refine K _ ⟨fun k q1 q2 => by rw [si_k q2, si_k q2, si_k q2, si_k q1]; exact g1 k q1 q2, g2, fun c hc => ?_⟩
    by_cases q : c = i
    · subst q
      refine ⟨?_, ?_, ?_, ?_⟩
      · rw [si_k (by decide), si_k (by decide), si_k (by decide), si_e]
      · rw [si_s (by omega), si_s (by omega)]
        exact if_pos ⟨rfl, rfl, by omega⟩
      · rw [si_s (by omega)]
        exact if_pos ⟨rfl, rfl, by omega⟩
      · exact if_pos ⟨rfl, rfl, by omega⟩
    · obtain ⟨y0, y1, y2, y3⟩ := g3 c (by omega)
      refine ⟨?_, ?_, ?_, ?_⟩
      · rw [si_n (by omega), si_n (by omega), si_n (by omega), si_n (by omega)]; exact y0
      · rw [si_n (by omega), si_n (by omega), si_n (by omega), si_n (by omega)]; exact y1
      · rw [si_n (by omega), si_n (by omega), si_n (by omega), si_n (by omega)]; exact y2
      · rw [si_n (by omega), si_n (by omega), si_n (by omega), si_n (by omega)]; exact y3
  · rintro f t g
    show Ev (L_X11_carryAll_2 (nI j) (f + 1) (nI (w * h)) t e) P
    have hn' : SM v t j := hn.k (fun k q => g.1 k (by omega) (by omega))
    have c2 : t.1 75 0 j = nI w := hn'.2.1.trans d1
    have c3 : t.1 76 0 j = nI h := hn'.2.2.1.trans d2
    simp (disch := first | omega | decide) only [Nat.reduceAdd, Nat.reduceMul, ↓ev_ck, ↓ev_if, ↓ev_lt, ↓ev_jn, ↓ev_so, ↓reduceIte, ↓ev_within, ↓ev_in, ↓ev_isBoard, ↓ev_isGauge, ↓ev_isNumber, ↓ev_isSix, ↓ev_isEight, ↓ev_foundN, ↓ev_meetsN, ↓ev_found_1, ↓ev_meets_1, ↓ev_found_2, ↓ev_meets_2, ↓ev_found_3, ↓ev_meets_3, ↓ev_found_4, ↓ev_meets_4, ↓ev_found_5, ↓ev_meets_5, true_and, and_true, and_self, eq_self, not_true_eq_false, not_false_eq_true, ite_true, ite_false, true_or, or_true, false_or, or_false, false_and, and_false, ← zi_ni_0, ← zi_ni_1, ← zi_ni_2, ← zi_ni_3, ← zi_ni_4, ← zi_ni_5, ← zi_ni_6, ← zi_ni_7, ← zi_ni_8, ← zi_ni_9, ← zi_ni_10, ← zi_ni_12, ← zi_ni_24, ← zi_ni_25, ← zi_ni_40, ← zi_ni_45, ← zi_ni_47, ← zi_ni_48, ← zi_ni_95, ← zi_ni_96, ← zi_ni_97, ← zi_ni_100, ← zi_ni_144, ← zi_ni_288, nI_ltI, nI_leI, nI_eqI, nlt_T, nlt_F, nle_T, nle_F, neq_T, neq_F, nI_add, pk_mul, nI_clamp, q_inT, ng_lt, ng_tl, ng_le, ng_el, ng_eq, ng_qe, q_b0, q_b1, nar_0, nar_1, b01, b01', q_bn0, q_bn1, nar_n0, nar_n1, si_k, si_i, si_s, si_e, si_2, sl_1, sl_22, sl_k, sl_i, sl_s, sl_e, sp_1, sp_21, sp_22, sc_k, sc_i, sc_e, sc_2, mF_k, mM_k, mF_2, mM_2, mF_0, mM_11, ↓eu_L_X11_carryAll_2, ↓bd_mcells, c2, c3]
    exact K0 _ g
theorem lp_mc1' {v : qB} {j w h : Nat} {u : qM} {e : qM → Option (Unit × qM)} {P : Unit → qM → Prop} (hj : j < 8) (hd : DW v w h) (hw2 : ∀ c, 0 ≤ (v 2 c).toInt) (hn : SM v u j) (hf : ∀ s, s < 2 * (w * h) → u.1 101 0 s = lfl v s) (hz : ∀ c, c < w * h → u.1 103 0 c = v 2 c ∧ u.1 104 0 c = v 3 c ∧ u.1 104 0 (48 + c) = v 3 (48 + c) ∧ u.1 104 0 (96 + c) = v 3 (96 + c)) (K0 : ∀ u', (∀ k, k ≠ 103 → k ≠ 104 → u'.1 k = u.1 k) ∧ u'.2 = u.2 ∧ (∀ c, c < w * h → u'.1 103 0 c = watF v (2 * (w * h)) c ∧ u'.1 104 0 c = stuF v 0 (2 * (w * h)) c ∧ u'.1 104 0 (48 + c) = stuF v 1 (2 * (w * h)) c ∧ u'.1 104 0 (96 + c) = stuF v 2 (2 * (w * h)) c) → Ev (e u') P) : Ev (L_X11_carryAll_77 (nI j) q_fu 0 u e) P := by
  have hd' := hd
  obtain ⟨d1, d2, d3, d4, d5, d6, d7, d8, d9, d10⟩ := hd'
  refine lpc (fun f x t => L_X11_carryAll_77 (nI j) f x t e) (fun i t => (∀ k, k ≠ 103 → k ≠ 104 → t.1 k = u.1 k) ∧ t.2 = u.2 ∧ (∀ c, c < w * h → t.1 103 0 c = watF v i c ∧ t.1 104 0 c = stuF v 0 i c ∧ t.1 104 0 (48 + c) = stuF v 1 i c ∧ t.1 104 0 (96 + c) = stuF v 2 i c)) (2 * (w * h)) (by omega) u ⟨fun _ _ _ => rfl, rfl, fun c hc => ?_⟩ ?_ ?_
  · obtain ⟨y0, y1, y2, y3⟩ := hz c hc
    refine ⟨y0, ?_, y2, y3⟩
    show _ = v 3 (0 * 48 + c)
    rw [Nat.zero_mul, Nat.zero_add]
    exact y1
  · rintro f i t hi ⟨g1, g2, g3⟩ K
    show Ev (L_X11_carryAll_77 (nI j) (f + 1) (nI i) t e) P
    have hn' : SM v t j := hn.k (fun k q => g1 k (by omega) (by omega))
    have c2 : t.1 75 0 j = nI w := hn'.2.1.trans d1
    have c3 : t.1 76 0 j = nI h := hn'.2.2.1.trans d2
    have c7 : t.1 101 0 i = lfl v i := by rw [g1 101 (by decide) (by decide)]; exact hf i hi
    have hwo : ∀ c, watF v (i + 1) c = if lfl v i = nI 0 then watF v i c else if c = i / 2 then watF v i c - lfl v i else if c = far (nW v) i then watF v i c + lfl v i else watF v i c := fun _ => rfl
    have hso : ∀ k c, stuF v k (i + 1) c = if lfl v i = nI 0 then stuF v k i c else if c = srcF v (lfl v i) i then stuF v k i c - shr (v 3 (k * 48 + c)) (ab (lfl v i)) (v 2 c) else if c = dstF v (lfl v i) i then stuF v k i c + shr (v 3 (k * 48 + srcF v (lfl v i) i)) (ab (lfl v i)) (v 2 (srcF v (lfl v i) i)) else stuF v k i c := fun _ _ => rfl
    by_cases hq : lfl v i = nI 0
    · simp (disch := first | omega | decide) only [Nat.reduceAdd, Nat.reduceMul, ↓ev_ck, ↓ev_if, ↓ev_lt, ↓ev_jn, ↓ev_so, ↓reduceIte, ↓ev_within, ↓ev_in, ↓ev_isBoard, ↓ev_isGauge, ↓ev_isNumber, ↓ev_isSix, ↓ev_isEight, ↓ev_foundN, ↓ev_meetsN, ↓ev_found_1, ↓ev_meets_1, ↓ev_found_2, ↓ev_meets_2, ↓ev_found_3, ↓ev_meets_3, ↓ev_found_4, ↓ev_meets_4, ↓ev_found_5, ↓ev_meets_5, true_and, and_true, and_self, eq_self, not_true_eq_false, not_false_eq_true, ite_true, ite_false, true_or, or_true, false_or, or_false, false_and, and_false, ← zi_ni_0, ← zi_ni_1, ← zi_ni_2, ← zi_ni_3, ← zi_ni_4, ← zi_ni_5, ← zi_ni_6, ← zi_ni_7, ← zi_ni_8, ← zi_ni_9, ← zi_ni_10, ← zi_ni_12, ← zi_ni_24, ← zi_ni_25, ← zi_ni_40, ← zi_ni_45, ← zi_ni_47, ← zi_ni_48, ← zi_ni_95, ← zi_ni_96, ← zi_ni_97, ← zi_ni_100, ← zi_ni_144, ← zi_ni_288, nI_ltI, nI_leI, nI_eqI, nlt_T, nlt_F, nle_T, nle_F, neq_T, neq_F, nI_add, pk_mul, nI_clamp, q_inT, ng_lt, ng_tl, ng_le, ng_el, ng_eq, ng_qe, q_b0, q_b1, nar_0, nar_1, b01, b01', q_bn0, q_bn1, nar_n0, nar_n1, si_k, si_i, si_s, si_e, si_2, sl_1, sl_22, sl_k, sl_i, sl_s, sl_e, sp_1, sp_21, sp_22, sc_k, sc_i, sc_e, sc_2, mF_k, mM_k, mF_2, mM_2, mF_0, mM_11, ↓eu_L_X11_carryAll_77, ↓bd_mcells, c2, c3, c7, hq]
      refine K _ ⟨g1, g2, fun c hc => ?_⟩
      rw [hwo, hso, hso, hso, if_pos hq, if_pos hq, if_pos hq, if_pos hq]
      exact g3 c hc
    · have hsd := lfl_sd hq
      rw [d7, d9] at hsd
      obtain ⟨l2, l3⟩ := sd_far (by omega) hsd
      have l1 : i / 2 < w * h := by omega
      -- source a, goal b, as much as y
      have fin : ∀ a b y, a = srcF v (lfl v i) i → b = dstF v (lfl v i) i → a < w * h → b < w * h → a ≠ b → y = ab (lfl v i) → (∀ c, (if c = b then watF v i c + y else if c = a then watF v i c - y else watF v i c) = watF v (i + 1) c) → ∀ r0 r1 r2, r0 = shr (v 3 a) y (v 2 a) → r1 = shr (v 3 (48 + a)) y (v 2 a) → r2 = shr (v 3 (96 + a)) y (v 2 a) → Ev (L_X11_carryAll_77 (nI j) f (nI (i + 1)) (q_si (q_si (q_si (q_si (q_si (q_si (q_si (q_si t 103 0 a (t.1 103 0 a - y)) 103 0 b (t.1 103 0 b + y)) 104 0 a (t.1 104 0 a - r0)) 104 0 b (t.1 104 0 b + r0)) 104 0 (48 + a) (t.1 104 0 (48 + a) - r1)) 104 0 (48 + b) (t.1 104 0 (48 + b) + r1)) 104 0 (96 + a) (t.1 104 0 (96 + a) - r2)) 104 0 (96 + b) (t.1 104 0 (96 + b) + r2)) e) P := by
        intro a b y ha hb la lb hab hy hwt r0 r1 r2 h0 h1 h2
        obtain ⟨ya0, ya1, ya2, ya3⟩ := g3 a la
        obtain ⟨yb0, yb1, yb2, yb3⟩ := g3 b lb
        refine K _ ⟨fun k q1 q2 => by rw [si_k q2, si_k q2, si_k q2, si_k q2, si_k q2, si_k q2, si_k q1, si_k q1]; exact g1 k q1 q2, g2, fun c hc => ?_⟩
        obtain ⟨yc0, yc1, yc2, yc3⟩ := g3 c hc
        rw [ya0, ya1, ya2, ya3, yb0, yb1, yb2, yb3]
        refine ⟨?_, ?_, ?_, ?_⟩
        · rw [si_k (by decide), si_k (by decide), si_k (by decide), si_k (by decide), si_k (by decide), si_k (by decide), si_c, si_c, ← hwt c]
          by_cases q : c = b
          · rw [if_pos q, if_pos q, q]
          · rw [if_neg q, if_neg q]
            by_cases q2 : c = a
            · rw [if_pos q2, if_pos q2, q2]
            · rw [if_neg q2, if_neg q2, yc0]
        · rw [si_s (by omega), si_s (by omega), si_s (by omega), si_s (by omega), si_c, si_c, si_k (by decide), si_k (by decide), hso, if_neg hq, ← ha, ← hb, h0, hy]
          by_cases q2 : c = a
          · have q : ¬ c = b := by omega
            rw [if_neg q, if_pos q2, if_pos q2, q2, Nat.zero_mul, Nat.zero_add]
          · by_cases q : c = b
            · rw [if_pos q, if_neg q2, if_pos q, q, Nat.zero_mul, Nat.zero_add]
            · rw [if_neg q, if_neg q2, if_neg q2, if_neg q, yc1]
        · rw [si_s (by omega), si_s (by omega), si_c, si_c, si_s (by omega), si_s (by omega), si_k (by decide), si_k (by decide), hso, if_neg hq, ← ha, ← hb, h1, hy]
          by_cases q2 : c = a
          · have q : ¬ 48 + c = 48 + b := by omega
            have q3 : 48 + c = 48 + a := by omega
            rw [if_neg q, if_pos q3, if_pos q2, q2]
          · have q3 : ¬ 48 + c = 48 + a := by omega
            by_cases q : c = b
            · have q4 : 48 + c = 48 + b := by omega
              rw [if_pos q4, if_neg q2, if_pos q, q]
            · have q4 : ¬ 48 + c = 48 + b := by omega
              rw [if_neg q4, if_neg q3, if_neg q2, if_neg q, yc2]
        · rw [si_c, si_c, si_s (by omega), si_s (by omega), si_s (by omega), si_s (by omega), si_k (by decide), si_k (by decide), hso, if_neg hq, ← ha, ← hb, h2, hy]
          by_cases q2 : c = a
          · have q : ¬ 96 + c = 96 + b := by omega
            have q3 : 96 + c = 96 + a := by omega
            rw [if_neg q, if_pos q3, if_pos q2, q2]
          · have q3 : ¬ 96 + c = 96 + a := by omega
            by_cases q : c = b
            · have q4 : 96 + c = 96 + b := by omega
              rw [if_pos q4, if_neg q2, if_pos q, q]
            · have q4 : ¬ 96 + c = 96 + b := by omega
              rw [if_neg q4, if_neg q3, if_neg q2, if_neg q, yc3]
      have hwz := lfl_wat hw2 hq
      by_cases hs : lfl v i ≤ nI 0
      · have es : srcF v (lfl v i) i = far w i := by unfold srcF; rw [if_pos hs, d7]
        have ed : dstF v (lfl v i) i = i / 2 := by unfold dstF; rw [if_pos hs]
        rw [es] at hwz
        have hpos : 0 < (v 2 (far w i)).toInt := by
          have z1 := hw2 (far w i)
          rw [x_eq, nI_toInt (by decide)] at hwz
          omega
        have hnz := q_nzl_pos hpos
        have c9 : t.1 92 0 (48 * j + far w i) = v 2 (far w i) := hn'.2.2.2.2.2.2.2.2.1 _ (by omega)
        have s0 : t.1 93 0 (144 * j + far w i) = v 3 (far w i) := hn'.2.2.2.2.2.2.2.2.2.2.2 _ (by omega)
        have s1 : t.1 93 0 (144 * j + 48 + far w i) = v 3 (48 + far w i) := by rw [Nat.add_assoc]; exact hn'.2.2.2.2.2.2.2.2.2.2.2 _ (by omega)
        have s2 : t.1 93 0 (144 * j + 96 + far w i) = v 3 (96 + far w i) := by rw [Nat.add_assoc]; exact hn'.2.2.2.2.2.2.2.2.2.2.2 _ (by omega)
        have k1 := fin (far w i) (i / 2) (-(lfl v i)) es.symm ed.symm l2 l1 l3 (by rw [← ab_alt, if_pos hs]) (fun c => by
          rw [hwo, if_neg hq, d7, sub_neg', add_neg']) _ _ _ rfl rfl rfl
        simp (disch := first | omega | decide) only [Nat.reduceAdd, Nat.reduceMul, ↓ev_ck, ↓ev_if, ↓ev_lt, ↓ev_jn, ↓ev_so, ↓reduceIte, ↓ev_within, ↓ev_in, ↓ev_isBoard, ↓ev_isGauge, ↓ev_isNumber, ↓ev_isSix, ↓ev_isEight, ↓ev_foundN, ↓ev_meetsN, ↓ev_found_1, ↓ev_meets_1, ↓ev_found_2, ↓ev_meets_2, ↓ev_found_3, ↓ev_meets_3, ↓ev_found_4, ↓ev_meets_4, ↓ev_found_5, ↓ev_meets_5, true_and, and_true, and_self, eq_self, not_true_eq_false, not_false_eq_true, ite_true, ite_false, true_or, or_true, false_or, or_false, false_and, and_false, ← zi_ni_0, ← zi_ni_1, ← zi_ni_2, ← zi_ni_3, ← zi_ni_4, ← zi_ni_5, ← zi_ni_6, ← zi_ni_7, ← zi_ni_8, ← zi_ni_9, ← zi_ni_10, ← zi_ni_12, ← zi_ni_24, ← zi_ni_25, ← zi_ni_40, ← zi_ni_45, ← zi_ni_47, ← zi_ni_48, ← zi_ni_95, ← zi_ni_96, ← zi_ni_97, ← zi_ni_100, ← zi_ni_144, ← zi_ni_288, nI_ltI, nI_leI, nI_eqI, nlt_T, nlt_F, nle_T, nle_F, neq_T, neq_F, nI_add, pk_mul, nI_clamp, q_inT, ng_lt, ng_tl, ng_le, ng_el, ng_eq, ng_qe, q_b0, q_b1, nar_0, nar_1, b01, b01', q_bn0, q_bn1, nar_n0, nar_n1, si_k, si_i, si_s, si_e, si_2, sl_1, sl_22, sl_k, sl_i, sl_s, sl_e, sp_1, sp_21, sp_22, sc_k, sc_i, sc_e, sc_2, mF_k, mM_k, mF_2, mM_2, mF_0, mM_11, ↓eu_L_X11_carryAll_77, ↓bd_mcells, c2, c3, c7, hq, hs, pk_div]
        refine ev_bd.mpr (ev_beyond hj hd (by omega) hn' (fun _ => ?_) (fun z => by rw [hsd] at z; cases z))
        simp (disch := first | omega | decide) only [Nat.reduceAdd, Nat.reduceMul, ↓ev_ck, ↓ev_if, ↓ev_lt, ↓ev_jn, ↓ev_so, ↓reduceIte, ↓ev_within, ↓ev_in, ↓ev_isBoard, ↓ev_isGauge, ↓ev_isNumber, ↓ev_isSix, ↓ev_isEight, ↓ev_foundN, ↓ev_meetsN, ↓ev_found_1, ↓ev_meets_1, ↓ev_found_2, ↓ev_meets_2, ↓ev_found_3, ↓ev_meets_3, ↓ev_found_4, ↓ev_meets_4, ↓ev_found_5, ↓ev_meets_5, true_and, and_true, and_self, eq_self, not_true_eq_false, not_false_eq_true, ite_true, ite_false, true_or, or_true, false_or, or_false, false_and, and_false, ← zi_ni_0, ← zi_ni_1, ← zi_ni_2, ← zi_ni_3, ← zi_ni_4, ← zi_ni_5, ← zi_ni_6, ← zi_ni_7, ← zi_ni_8, ← zi_ni_9, ← zi_ni_10, ← zi_ni_12, ← zi_ni_24, ← zi_ni_25, ← zi_ni_40, ← zi_ni_45, ← zi_ni_47, ← zi_ni_48, ← zi_ni_95, ← zi_ni_96, ← zi_ni_97, ← zi_ni_100, ← zi_ni_144, ← zi_ni_288, nI_ltI, nI_leI, nI_eqI, nlt_T, nlt_F, nle_T, nle_F, neq_T, neq_F, nI_add, pk_mul, nI_clamp, q_inT, ng_lt, ng_tl, ng_le, ng_el, ng_eq, ng_qe, q_b0, q_b1, nar_0, nar_1, b01, b01', q_bn0, q_bn1, nar_n0, nar_n1, si_k, si_i, si_s, si_e, si_2, sl_1, sl_22, sl_k, sl_i, sl_s, sl_e, sp_1, sp_21, sp_22, sc_k, sc_i, sc_e, sc_2, mF_k, mM_k, mF_2, mM_2, mF_0, mM_11, c7, hs, pk_div, c9, s0, s1, s2, hnz, ↓fu_c195, ↓eu_L_X11_carryAll_195, Nat.add_zero, Nat.zero_add, shr_d]
        exact k1
      · have es : srcF v (lfl v i) i = i / 2 := by unfold srcF; rw [if_neg hs]
        have ed : dstF v (lfl v i) i = far w i := by unfold dstF; rw [if_neg hs, d7]
        rw [es] at hwz
        have hpos : 0 < (v 2 (i / 2)).toInt := by
          have z1 := hw2 (i / 2)
          rw [x_eq, nI_toInt (by decide)] at hwz
          omega
        have hnz := q_nzl_pos hpos
        have c9 : t.1 92 0 (48 * j + i / 2) = v 2 (i / 2) := hn'.2.2.2.2.2.2.2.2.1 _ (by omega)
        have s0 : t.1 93 0 (144 * j + i / 2) = v 3 (i / 2) := hn'.2.2.2.2.2.2.2.2.2.2.2 _ (by omega)
        have s1 : t.1 93 0 (144 * j + 48 + i / 2) = v 3 (48 + i / 2) := by rw [Nat.add_assoc]; exact hn'.2.2.2.2.2.2.2.2.2.2.2 _ (by omega)
        have s2 : t.1 93 0 (144 * j + 96 + i / 2) = v 3 (96 + i / 2) := by rw [Nat.add_assoc]; exact hn'.2.2.2.2.2.2.2.2.2.2.2 _ (by omega)
        have l3' : i / 2 ≠ far w i := fun z => l3 z.symm
        have k1 := fin (i / 2) (far w i) (lfl v i) es.symm ed.symm l1 l2 l3' (by rw [← ab_alt, if_neg hs]) (fun c => by
          rw [hwo, if_neg hq, d7]
          by_cases q : c = far w i
          · have q2 : ¬ c = i / 2 := by omega
            rw [if_pos q, if_neg q2, if_pos q]
          · rw [if_neg q, if_neg q]) _ _ _ rfl rfl rfl
        simp (disch := first | omega | decide) only [Nat.reduceAdd, Nat.reduceMul, ↓ev_ck, ↓ev_if, ↓ev_lt, ↓ev_jn, ↓ev_so, ↓reduceIte, ↓ev_within, ↓ev_in, ↓ev_isBoard, ↓ev_isGauge, ↓ev_isNumber, ↓ev_isSix, ↓ev_isEight, ↓ev_foundN, ↓ev_meetsN, ↓ev_found_1, ↓ev_meets_1, ↓ev_found_2, ↓ev_meets_2, ↓ev_found_3, ↓ev_meets_3, ↓ev_found_4, ↓ev_meets_4, ↓ev_found_5, ↓ev_meets_5, true_and, and_true, and_self, eq_self, not_true_eq_false, not_false_eq_true, ite_true, ite_false, true_or, or_true, false_or, or_false, false_and, and_false, ← zi_ni_0, ← zi_ni_1, ← zi_ni_2, ← zi_ni_3, ← zi_ni_4, ← zi_ni_5, ← zi_ni_6, ← zi_ni_7, ← zi_ni_8, ← zi_ni_9, ← zi_ni_10, ← zi_ni_12, ← zi_ni_24, ← zi_ni_25, ← zi_ni_40, ← zi_ni_45, ← zi_ni_47, ← zi_ni_48, ← zi_ni_95, ← zi_ni_96, ← zi_ni_97, ← zi_ni_100, ← zi_ni_144, ← zi_ni_288, nI_ltI, nI_leI, nI_eqI, nlt_T, nlt_F, nle_T, nle_F, neq_T, neq_F, nI_add, pk_mul, nI_clamp, q_inT, ng_lt, ng_tl, ng_le, ng_el, ng_eq, ng_qe, q_b0, q_b1, nar_0, nar_1, b01, b01', q_bn0, q_bn1, nar_n0, nar_n1, si_k, si_i, si_s, si_e, si_2, sl_1, sl_22, sl_k, sl_i, sl_s, sl_e, sp_1, sp_21, sp_22, sc_k, sc_i, sc_e, sc_2, mF_k, mM_k, mF_2, mM_2, mF_0, mM_11, ↓eu_L_X11_carryAll_77, ↓bd_mcells, c2, c3, c7, hq, hs, pk_div]
        refine ev_bd.mpr (ev_beyond hj hd (by omega) hn' (fun _ => ?_) (fun z => by rw [hsd] at z; cases z))
        simp (disch := first | omega | decide) only [Nat.reduceAdd, Nat.reduceMul, ↓ev_ck, ↓ev_if, ↓ev_lt, ↓ev_jn, ↓ev_so, ↓reduceIte, ↓ev_within, ↓ev_in, ↓ev_isBoard, ↓ev_isGauge, ↓ev_isNumber, ↓ev_isSix, ↓ev_isEight, ↓ev_foundN, ↓ev_meetsN, ↓ev_found_1, ↓ev_meets_1, ↓ev_found_2, ↓ev_meets_2, ↓ev_found_3, ↓ev_meets_3, ↓ev_found_4, ↓ev_meets_4, ↓ev_found_5, ↓ev_meets_5, true_and, and_true, and_self, eq_self, not_true_eq_false, not_false_eq_true, ite_true, ite_false, true_or, or_true, false_or, or_false, false_and, and_false, ← zi_ni_0, ← zi_ni_1, ← zi_ni_2, ← zi_ni_3, ← zi_ni_4, ← zi_ni_5, ← zi_ni_6, ← zi_ni_7, ← zi_ni_8, ← zi_ni_9, ← zi_ni_10, ← zi_ni_12, ← zi_ni_24, ← zi_ni_25, ← zi_ni_40, ← zi_ni_45, ← zi_ni_47, ← zi_ni_48, ← zi_ni_95, ← zi_ni_96, ← zi_ni_97, ← zi_ni_100, ← zi_ni_144, ← zi_ni_288, nI_ltI, nI_leI, nI_eqI, nlt_T, nlt_F, nle_T, nle_F, neq_T, neq_F, nI_add, pk_mul, nI_clamp, q_inT, ng_lt, ng_tl, ng_le, ng_el, ng_eq, ng_qe, q_b0, q_b1, nar_0, nar_1, b01, b01', q_bn0, q_bn1, nar_n0, nar_n1, si_k, si_i, si_s, si_e, si_2, sl_1, sl_22, sl_k, sl_i, sl_s, sl_e, sp_1, sp_21, sp_22, sc_k, sc_i, sc_e, sc_2, mF_k, mM_k, mF_2, mM_2, mF_0, mM_11, c7, hs, pk_div, c9, s0, s1, s2, hnz, ↓fu_c195, ↓eu_L_X11_carryAll_195, Nat.add_zero, Nat.zero_add, shr_d]
        exact k1
  · rintro f t g
    show Ev (L_X11_carryAll_77 (nI j) (f + 1) (nI (2 * (w * h))) t e) P
    have hn' : SM v t j := hn.k (fun k q => g.1 k (by omega) (by omega))
    have c2 : t.1 75 0 j = nI w := hn'.2.1.trans d1
    have c3 : t.1 76 0 j = nI h := hn'.2.2.1.trans d2
    simp (disch := first | omega | decide) only [Nat.reduceAdd, Nat.reduceMul, ↓ev_ck, ↓ev_if, ↓ev_lt, ↓ev_jn, ↓ev_so, ↓reduceIte, ↓ev_within, ↓ev_in, ↓ev_isBoard, ↓ev_isGauge, ↓ev_isNumber, ↓ev_isSix, ↓ev_isEight, ↓ev_foundN, ↓ev_meetsN, ↓ev_found_1, ↓ev_meets_1, ↓ev_found_2, ↓ev_meets_2, ↓ev_found_3, ↓ev_meets_3, ↓ev_found_4, ↓ev_meets_4, ↓ev_found_5, ↓ev_meets_5, true_and, and_true, and_self, eq_self, not_true_eq_false, not_false_eq_true, ite_true, ite_false, true_or, or_true, false_or, or_false, false_and, and_false, ← zi_ni_0, ← zi_ni_1, ← zi_ni_2, ← zi_ni_3, ← zi_ni_4, ← zi_ni_5, ← zi_ni_6, ← zi_ni_7, ← zi_ni_8, ← zi_ni_9, ← zi_ni_10, ← zi_ni_12, ← zi_ni_24, ← zi_ni_25, ← zi_ni_40, ← zi_ni_45, ← zi_ni_47, ← zi_ni_48, ← zi_ni_95, ← zi_ni_96, ← zi_ni_97, ← zi_ni_100, ← zi_ni_144, ← zi_ni_288, nI_ltI, nI_leI, nI_eqI, nlt_T, nlt_F, nle_T, nle_F, neq_T, neq_F, nI_add, pk_mul, nI_clamp, q_inT, ng_lt, ng_tl, ng_le, ng_el, ng_eq, ng_qe, q_b0, q_b1, nar_0, nar_1, b01, b01', q_bn0, q_bn1, nar_n0, nar_n1, si_k, si_i, si_s, si_e, si_2, sl_1, sl_22, sl_k, sl_i, sl_s, sl_e, sp_1, sp_21, sp_22, sc_k, sc_i, sc_e, sc_2, mF_k, mM_k, mF_2, mM_2, mF_0, mM_11, ↓eu_L_X11_carryAll_77, ↓bd_mcells, c2, c3]
    exact K0 _ g


