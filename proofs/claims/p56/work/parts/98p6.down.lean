/-! p56: a nest of one cell taken down. -/
theorem dnS_id {s : (Nat → Int32) × Int32} {q : Nat} (h : 0 ≤ (s.1 q).toInt) : dnS s q = s := by
  have z0 : (nI 0).toInt = 0 := nI_toInt (by decide)
  have e : unF s.1 q = (s.1, nI 0) := by
    unfold unF
    rw [if_neg]
    rw [x_lt, z0, z_neg (by omega)]
    omega
  unfold dnS
  rw [e]
  show (s.1, s.2 - nI 0) = s
  have z : s.2 - nI 0 = s.2 := Int32.sub_zero _
  rw [z]
theorem cpS_id {s : (Nat → Int32) × Int32} {q : Nat} (h : 0 ≤ (s.1 q).toInt ∧ (s.1 q).toInt ≤ 100000) : cpS s q = s := by
  have z0 : (nI 0).toInt = 0 := nI_toInt (by decide)
  have e : cp (s.1 q) = nI 0 := by
    unfold cp
    rw [if_neg]
    rw [x_lt, z0, z_sub (by rw [x100]; omega) (by rw [x100]; omega), x100]
    omega
  unfold cpS
  rw [e]
  have z : s.2 + nI 0 = s.2 := Int32.add_zero _
  have y : s.1 q - nI 0 = s.1 q := Int32.sub_zero _
  rw [z, y]
  have f : fset s.1 q (s.1 q) = s.1 := by
    funext t
    unfold fset
    by_cases c : t = q
    · rw [if_pos c, c]
    · rw [if_neg c]
  rw [f]
theorem dnA_id {s : (Nat → Int32) × Int32} (h : ∀ q, q < 4 → 0 ≤ (s.1 q).toInt ∧ (s.1 q).toInt ≤ 100000) : dnA s = s := by
  unfold dnA
  rw [dnS_id (h 0 (by decide)).1, dnS_id (h 1 (by decide)).1, dnS_id (h 2 (by decide)).1, dnS_id (h 3 (by decide)).1, cpS_id (h 0 (by decide)), cpS_id (h 1 (by decide)), cpS_id (h 2 (by decide)), cpS_id (h 3 (by decide))]
theorem cB_n2 {μ μ' : qM} {b t : Nat} (ht : t ≠ 2) (h2 : μ'.1 2 b = μ.1 2 b) (h3 : μ'.1 3 b = μ.1 3 b) (h4 : μ'.1 4 b = μ.1 4 b) (h37 : μ'.1 37 b = μ.1 37 b) (h39 : μ'.1 39 b = μ.1 39 b) (h40 : μ'.1 40 b = μ.1 40 b) (h41 : μ'.1 41 b = μ.1 41 b) (h42 : μ'.1 42 b = μ.1 42 b) (h43 : μ'.1 43 b = μ.1 43 b) (h44 : μ'.1 44 b = μ.1 44 b) : cB μ' b t = cB μ b t := by
  funext s
  unfold cB
  rw [h2, h3, h4, h37, h39, h40, h41, h42, h43, h44]
  match t, ht with
  | 0, _ => rfl
  | 1, _ => rfl
  | 2, h => exact absurd rfl h
  | 3, _ => rfl
  | 4, _ => rfl
  | 5, _ => rfl
  | 6, _ => rfl
  | 7, _ => rfl
  | 8, _ => rfl
  | n + 9, _ => rfl
section CALLS6
variable {μ : qM} {sz : Nat → Int32} {rw : Nat → Nat → Int32} {th : Nat → Bool} {V : Nat → qB} {L mk rs : Nat → Nat → Int32} {b : Nat}
/-- what the cell's going down leaves of the memory -/
def DN (μ : qM) (w2 : Int32) (u : qM) : Prop := (∀ a i s, ¬ (a = 38 ∧ i = 2 ∧ s < 4) → ¬ (a = 46 ∧ i = 2) → ¬ (a = 45 ∧ i = 2) → u.1 a i s = μ.1 a i s) ∧ (∀ q, q < 4 → u.1 38 2 q = w2) ∧ u.1 45 2 0 = w2 ∧ u.1 46 2 0 = nI 0
theorem ev_td12 {W H X Y f : Nat} {x1 w1 w2 : Int32} {e : qM → Option (Int32 × qM)} {P : Int32 → qM → Prop} (h : St μ sz rw th V L mk rs) (t2 : th 2 = true) (hn : NU V L W H X Y) (hr : rs 2 0 = nI 0) (hm : mk 2 0 = w1) (hf : ∀ q, q < 4 → V 2 2 q = w1) (hU : V 0 2 (Y * W + X) = w2) (hw2 : 0 ≤ w2.toInt ∧ w2.toInt ≤ 100000)
    (K : ∀ u, DN μ w2 u → Ev (e u) P) : Ev (L_X0_takeDown_12 2 0 x1 (f + 1 + 1) (nI 0) μ e) P := by
  obtain ⟨m1, m2, m3, m4, m5, m6, m7, m8⟩ := h.nu t2 hn
  have hlt : Y * W + X < 48 := by
    obtain ⟨n1, n2, n3, n4, n5, n6, n7, n8, n9, n10, n11, n12, n13⟩ := hn
    have := und_lt n9 n10
    omega
  have er : μ.1 46 2 0 = nI 0 := by rw [h.2.2.2.2.2.2.2.2]; exact hr
  have em : μ.1 45 2 0 = w1 := by rw [h.2.2.2.2.2.2.2.1]; exact hm
  have ew : ∀ q, q < 4 → μ.1 38 2 (fineN 1 0 q) = w1 := fun q hq => by
    rw [fine1 hq]
    have : μ.1 38 2 q = cB μ 2 2 q := (cR_2 (by omega)).symm
    rw [this, h.tab (by decide)]
    exact hf q hq
  have eU : μ.1 38 0 (Y * W + X) = w2 := by
    have : μ.1 38 0 (Y * W + X) = cB μ 0 2 (Y * W + X) := (cR_2 (by omega)).symm
    rw [this, h.tab (by decide), hU]
  have cU : (nI (Y * W + X)).toNatClampNeg = Y * W + X := nI_clamp (by omega)
  have c0 : (nI 0).toNatClampNeg = 0 := nI_clamp (by decide)
  refine eu_L_X0_takeDown_12.mpr (ev_bd.mpr (eu_X0_cells.mpr (ev_so.mpr (ev_if.mpr ?_))))
  rw [m3, m4, if_neg (by decide +kernel)]
  refine ev_bd.mpr ((ev_undC (wd := 1) (W := W) (x := X) (y := Y) (by decide) (by decide) (by decide) m3 m5 m7 m8).mpr ?_)
  rw [und1]
  refine ev_ck.mpr ⟨q_inT (by omega) (by decide), ev_ck.mpr ⟨by decide +kernel, ev_lt.mpr ?_⟩⟩
  rw [cU, c0, eU, em]
  refine lp_down52 (hg := 1) (wd := 1) (v := fun _ => w1) (by decide) (by decide) (by decide) (by decide) m3 (fun q hq => ew q hq) (fun t1 a1 a2 a3 => ?_)
  have e12 : w1 + (w2 - w1) = w2 := by grind
  rw [er] at a2
  refine dn_all (hg := 1) (c := μ) (s := (fun _ => w1 + (w2 - w1), nI 0)) (by decide) (by decide) (by decide) (by decide) m3 ⟨a1, a3, a2⟩ (fun t2 b1 => ?_)
  rw [dnA_id (fun q _ => by
    show 0 ≤ (w1 + (w2 - w1)).toInt ∧ (w1 + (w2 - w1)).toInt ≤ 100000
    rw [e12]
    exact hw2)] at b1
  obtain ⟨b2, b3, b4⟩ := b1
  have b5 : ∀ q, q < 4 → t2.1 38 2 q = w2 := fun q hq => by
    have := b3 q hq
    rw [fine1 hq] at this
    exact this.trans e12
  have b6 : t2.1 46 2 0 = nI 0 := b4
  have b7 : t2.1 38 0 (Y * W + X) = w2 := (b2.1 38 0 _ (fun q => absurd q.2.1 (by decide)) (fun q => absurd q.1 (by decide))).trans eU
  have b8 : t2.1 2 = μ.1 2 := funext (fun i => funext (fun s => b2.1 2 i s (fun q => absurd q.1 (by decide)) (fun q => absurd q.1 (by decide))))
  refine ev_ck.mpr ⟨q_inT (by omega) (by decide), ev_ck.mpr ⟨by decide +kernel, ev_lt.mpr (ev_lt.mpr ?_)⟩⟩
  rw [b7]
  refine eu_L_X0_takeDown_12.mpr (ev_bd.mpr (eu_X0_cells.mpr (ev_so.mpr (ev_if.mpr ?_))))
  have k2 : (q_si t2 45 2 0 w2).1 2 = μ.1 2 := by rw [si_k (by decide), b8]
  rw [k2, m3, m4, if_pos (by decide +kernel)]
  refine K _ ⟨fun a i s q1 q2 q3 => ?_, fun q hq => ?_, si_e, ?_⟩
  · rw [si_n (fun z => q3 ⟨z.1, z.2.1⟩)]
    refine b2.1 a i s (fun z => ?_) (fun z => q2 ⟨z.1, z.2.1⟩)
    obtain ⟨z1, z2, q, z3, z4⟩ := z
    rw [fine1 z3] at z4
    exact q1 ⟨z1, z2, by omega⟩
  · rw [si_k (by decide)]
    exact b5 q hq
  · rw [si_k (by decide)]
    exact b6
theorem ev_sum4 {u : qM} {w1 : Int32} {P : Int32 → qM → Prop} (e1 : u.1 2 2 12 = nI 2) (e2 : u.1 2 2 13 = nI 2) (hf : ∀ q, q < 4 → u.1 38 2 q = w1) (K : P (nI 0 + w1 + w1 + w1 + w1) u) : Ev (f_X0_sum 2 38 2 (nI 0) u) P := by
  refine eu_X0_sum.mpr (lp_sum (w := 2) (h := 2) (a := 0) e1 e2 (by decide) (by rw [al_38]; decide) (by rw [al_38]; decide) (ev_so.mpr ?_))
  have e : asum (fun c => u.1 38 2 (0 + c)) (2 * 2) = nI 0 + w1 + w1 + w1 + w1 := by
    show nI 0 + u.1 38 2 (0 + 0) + u.1 38 2 (0 + 1) + u.1 38 2 (0 + 2) + u.1 38 2 (0 + 3) = _
    rw [Nat.zero_add, Nat.zero_add, Nat.zero_add, Nat.zero_add, hf 0 (by decide), hf 1 (by decide), hf 2 (by decide), hf 3 (by decide)]
  rw [e]
  exact K
theorem ev_down {W H X Y : Nat} {w1 w2 : Int32} {P : Int32 → qM → Prop} (h : St μ sz rw th V L mk rs) (t2 : th 2 = true) (hn : NU V L W H X Y) (hr : rs 2 0 = nI 0) (hm : mk 2 0 = w1) (hf : ∀ q, q < 4 → V 2 2 q = w1) (hU : V 0 2 (Y * W + X) = w2) (hw2 : 0 ≤ w2.toInt ∧ w2.toInt ≤ 100000)
    (K : ∀ u' v2 mk' rs', St u' sz rw th (vset V 2 v2) L mk' rs' → (∀ t, t ≠ 2 → v2 t = V 2 t) → (∀ c, v2 2 c = if c < 4 then w2 else V 2 2 c) → mk' 2 0 = w2 → rs' 2 0 = nI 0 → u'.1 0 0 15 = (nI 0 + w2 + w2 + w2 + w2) - (nI 0 + w1 + w1 + w1 + w1) → P (nI 1) u') : Ev (f_X10_down (nI 2) μ) P := by
  obtain ⟨m1, m2, m3, m4, m5, m6, m7, m8⟩ := h.nu t2 hn
  simp (disch := first | omega | decide) only [Nat.reduceAdd, Nat.reduceMul, ↓ev_ck, ↓ev_if, ↓ev_lt, ↓ev_jn, ↓ev_so, ↓reduceIte, ↓ev_within, ↓ev_isBoard, ↓ev_isNumber, ↓ev_foundN, ↓ev_found_1, ↓ev_found_2, ↓ev_found_3, ↓ev_found_4, ↓ev_found_5, true_and, and_true, and_self, eq_self, not_true_eq_false, not_false_eq_true, ite_true, ite_false, true_or, or_true, false_or, or_false, false_and, and_false, ← zi_ni_0, ← zi_ni_1, ← zi_ni_2, ← zi_ni_3, ← zi_ni_4, ← zi_ni_5, ← zi_ni_6, ← zi_ni_7, ← zi_ni_8, ← zi_ni_9, ← zi_ni_10, ← zi_ni_12, ← zi_ni_24, ← zi_ni_25, ← zi_ni_40, ← zi_ni_45, ← zi_ni_47, ← zi_ni_48, ← zi_ni_95, ← zi_ni_96, ← zi_ni_97, ← zi_ni_100, ← zi_ni_144, ← zi_ni_288, nI_ltI, nI_leI, nI_eqI, nlt_T, nlt_F, nle_T, nle_F, neq_T, neq_F, nI_add, pk_mul, nI_clamp, q_inT, ng_lt, ng_tl, ng_le, ng_el, ng_eq, ng_qe, q_b0, q_b1, nar_0, nar_1, b01, b01', q_bn0, q_bn1, nar_n0, nar_n1, si_k, si_i, si_s, si_e, si_2, sl_1, sl_22, sl_k, sl_i, sl_s, sl_e, sp_1, sp_21, sp_22, sc_k, sc_i, sc_e, sc_2, mF_k, mF_2, mF_0, ↓eu_X10_down]
  refine ev_bd.mpr ?_
  simp (disch := first | omega | decide) only [Nat.reduceAdd, Nat.reduceMul, ↓ev_ck, ↓ev_if, ↓ev_lt, ↓ev_jn, ↓ev_so, ↓reduceIte, ↓ev_within, ↓ev_isBoard, ↓ev_isNumber, ↓ev_foundN, ↓ev_found_1, ↓ev_found_2, ↓ev_found_3, ↓ev_found_4, ↓ev_found_5, true_and, and_true, and_self, eq_self, not_true_eq_false, not_false_eq_true, ite_true, ite_false, true_or, or_true, false_or, or_false, false_and, and_false, ← zi_ni_0, ← zi_ni_1, ← zi_ni_2, ← zi_ni_3, ← zi_ni_4, ← zi_ni_5, ← zi_ni_6, ← zi_ni_7, ← zi_ni_8, ← zi_ni_9, ← zi_ni_10, ← zi_ni_12, ← zi_ni_24, ← zi_ni_25, ← zi_ni_40, ← zi_ni_45, ← zi_ni_47, ← zi_ni_48, ← zi_ni_95, ← zi_ni_96, ← zi_ni_97, ← zi_ni_100, ← zi_ni_144, ← zi_ni_288, nI_ltI, nI_leI, nI_eqI, nlt_T, nlt_F, nle_T, nle_F, neq_T, neq_F, nI_add, pk_mul, nI_clamp, q_inT, ng_lt, ng_tl, ng_le, ng_el, ng_eq, ng_qe, q_b0, q_b1, nar_0, nar_1, b01, b01', q_bn0, q_bn1, nar_n0, nar_n1, si_k, si_i, si_s, si_e, si_2, sl_1, sl_22, sl_k, sl_i, sl_s, sl_e, sp_1, sp_21, sp_22, sc_k, sc_i, sc_e, sc_2, mF_k, mF_2, mF_0, ↓eu_X10_nestRefused]
  refine ev_bd.mpr (ev_bref (by decide) m1 ?_)
  simp (disch := first | omega | decide) only [Nat.reduceAdd, Nat.reduceMul, ↓ev_bd, ↓ev_ck, ↓ev_if, ↓ev_lt, ↓ev_jn, ↓ev_so, ↓reduceIte, ↓ev_within, ↓ev_isBoard, ↓ev_isNumber, ↓ev_foundN, ↓ev_found_1, ↓ev_found_2, ↓ev_found_3, ↓ev_found_4, ↓ev_found_5, true_and, and_true, and_self, eq_self, not_true_eq_false, not_false_eq_true, ite_true, ite_false, true_or, or_true, false_or, or_false, false_and, and_false, ← zi_ni_0, ← zi_ni_1, ← zi_ni_2, ← zi_ni_3, ← zi_ni_4, ← zi_ni_5, ← zi_ni_6, ← zi_ni_7, ← zi_ni_8, ← zi_ni_9, ← zi_ni_10, ← zi_ni_12, ← zi_ni_24, ← zi_ni_25, ← zi_ni_40, ← zi_ni_45, ← zi_ni_47, ← zi_ni_48, ← zi_ni_95, ← zi_ni_96, ← zi_ni_97, ← zi_ni_100, ← zi_ni_144, ← zi_ni_288, nI_ltI, nI_leI, nI_eqI, nlt_T, nlt_F, nle_T, nle_F, neq_T, neq_F, nI_add, pk_mul, nI_clamp, q_inT, ng_lt, ng_tl, ng_le, ng_el, ng_eq, ng_qe, q_b0, q_b1, nar_0, nar_1, b01, b01', q_bn0, q_bn1, nar_n0, nar_n1, si_k, si_i, si_s, si_e, si_2, sl_1, sl_22, sl_k, sl_i, sl_s, sl_e, sp_1, sp_21, sp_22, sc_k, sc_i, sc_e, sc_2, mF_k, mF_2, mF_0, m2, m6]
  have ew : ∀ q, q < 4 → μ.1 38 2 q = w1 := fun q hq => by
    have : μ.1 38 2 q = cB μ 2 2 q := (cR_2 (by omega)).symm
    rw [this, h.tab (by decide)]
    exact hf q hq
  refine eu_X0_takeDown.mpr (ev_bd.mpr (ev_sum4 m3 m4 ew ?_))
  refine ev_td12 (f := 3998) h t2 hn hr hm hf hU hw2 (fun u hD => ?_)
  obtain ⟨k1, k2, k3, k4⟩ := hD
  have kk : ∀ a, a ≠ 38 → a ≠ 46 → a ≠ 45 → u.1 a = μ.1 a := fun a q1 q2 q3 => funext (fun i => funext (fun s => k1 a i s (fun z => q1 z.1) (fun z => q2 z.1) (fun z => q3 z.1)))
  have e12 : u.1 2 2 12 = nI 2 := by rw [kk 2 (by decide) (by decide) (by decide)]; exact m3
  have e13 : u.1 2 2 13 = nI 2 := by rw [kk 2 (by decide) (by decide) (by decide)]; exact m4
  refine ev_bd.mpr (ev_sum4 e12 e13 k2 (ev_so.mpr ?_))
  generalize hx : (nI 0 + w2 + w2 + w2 + w2) - (nI 0 + w1 + w1 + w1 + w1) = x at *
  have h1 : St u sz rw th (vset V 2 (cB u 2)) L (u.1 45) (u.1 46) := by
    obtain ⟨a1, a2, a3, a4, a5, a6, a7, a8, a9⟩ := h
    refine ⟨fun k hk => ?_, fun g hg => ?_, ?_, ?_, fun y hy => ?_, fun y hy => ?_, ?_, rfl, rfl⟩
    · rw [kk 8 (by decide) (by decide) (by decide)]; exact a1 k hk
    · rw [kk 9 (by decide) (by decide) (by decide)]; exact a2 g hg
    · rw [kk 33 (by decide) (by decide) (by decide)]; exact a3
    · rw [kk 30 (by decide) (by decide) (by decide)]; exact a4
    · rw [kk 2 (by decide) (by decide) (by decide)]; exact a5 y hy
    · by_cases z : y = 2
      · subst z
        rw [vs_e]
      · rw [vs_n z, ← a6 y hy]
        have q : ∀ k, u.1 k y = μ.1 k y := fun k => funext (fun s => k1 k y s (fun q => z q.2.1) (fun q => z q.2) (fun q => z q.2))
        exact cB_ext (q 2) (q 3) (q 4) (q 37) (q 38) (q 39) (q 40) (q 41) (q 42) (q 43) (q 44)
    · rw [kk 5 (by decide) (by decide) (by decide)]; exact a7
  refine K _ _ _ _ (h1.ask (x := x)) (fun t ht => ?_) (fun q => ?_) k3 k4 si_e
  · rw [← h.tab (b := 2) (by decide)]
    have q : ∀ k, k ≠ 38 → k ≠ 46 → k ≠ 45 → u.1 k 2 = μ.1 k 2 := fun k q1 q2 q3 => by rw [kk k q1 q2 q3]
    exact cB_n2 ht (q 2 (by decide) (by decide) (by decide)) (q 3 (by decide) (by decide) (by decide)) (q 4 (by decide) (by decide) (by decide)) (q 37 (by decide) (by decide) (by decide)) (q 39 (by decide) (by decide) (by decide)) (q 40 (by decide) (by decide) (by decide)) (q 41 (by decide) (by decide) (by decide)) (q 42 (by decide) (by decide) (by decide)) (q 43 (by decide) (by decide) (by decide)) (q 44 (by decide) (by decide) (by decide))
  · by_cases z : q < 4
    · rw [if_pos z, cR_2 (by omega)]
      exact k2 q z
    · rw [if_neg z, ← h.tab (b := 2) (by decide)]
      show (if q < 48 then u.1 38 2 q else 0) = (if q < 48 then μ.1 38 2 q else 0)
      rw [k1 38 2 q (fun y => z y.2.2) (fun y => absurd y.1 (by decide)) (fun y => absurd y.1 (by decide))]
end CALLS6
