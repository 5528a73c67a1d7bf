/-! Texts: the class reads one item. -/
noncomputable def nxV (x1 x12 : Int32) (u16 : qM) : Option (Int32 × qM) := q_lt (q_si u16 7 0 4 x12) (fun (u17 : qM) => q_bd (f_X6_least  u17) (fun (x13 : Int32) (u18 : qM) => q_jn (fun  (u19 : qM) => q_bd (f_X6_failed x1 u19) (fun (x14 : Int32) (u20 : qM) => q_ck (q_b x14) (some (x14, u20)))) (fun j5 => if (u17.1 7 0 4) < x13 then j5 u18 else q_bd (f_X6_greatest  u18) (fun (x15 : Int32) (u21 : qM) => if (u18.1 7 0 4) ≤ x15 then q_bd (f_X6_stepsOfItem  u21) (fun (x16 : Int32) (u22 : qM) => q_lt (q_si u22 7 0 5 ((u21.1 7 0 5) + x16)) (fun (u23 : qM) => q_jn (fun (x17 : Int32) (u24 : qM) => q_ck (q_b x17) (some (x17, u24))) (fun j6 => q_jn (fun  (u25 : qM) => j6 1 u25) (fun j7 => if (u23.1 7 0 5) ≤ 24 then j7 u23 else q_bd (f_X6_failed x1 u23) (fun (x18 : Int32) (u26 : qM) => if x18 = 0 then j6 0 u26 else j7 u26))))) else j5 u21))))
noncomputable def nxU (x1 x3 x10 : Int32) (u14 : qM) : Option (Int32 × qM) := q_bd (f_X6_digitAhead  u14) (fun (x11 : Int32) (u15 : qM) => if x11 = 0 then q_jn (fun (x12 : Int32) (u16 : qM) => nxV x1 x12 u16) (fun j4 => if x3 = 0 then j4 x10 u15 else j4 (-x10) u15) else q_bd (f_X6_failed (u15.1 7 0 2) u15) (fun (x19 : Int32) (u27 : qM) => q_ck (q_b x19) (some (x19, u27))))
noncomputable def nxT (x1 x3 : Int32) (u9 : qM) : Option (Int32 × qM) := q_bd (f_X6_digitAhead  u9) (fun (x4 : Int32) (u10 : qM) => if x4 = 0 then q_bd (f_X6_failed (u10.1 7 0 2) u10) (fun (x20 : Int32) (u28 : qM) => q_ck (q_b x20) (some (x20, u28))) else L_X6_next_172 x1 x3 q_fu 0 0 u10 (fun x10 u14 => nxU x1 x3 x10 u14))
theorem eu_nxV {x1 x12 : Int32} {u16 : qM} {P : Int32 → qM → Prop} : Ev (nxV x1 x12 u16) P ↔ Ev (q_lt (q_si u16 7 0 4 x12) (fun (u17 : qM) => q_bd (f_X6_least  u17) (fun (x13 : Int32) (u18 : qM) => q_jn (fun  (u19 : qM) => q_bd (f_X6_failed x1 u19) (fun (x14 : Int32) (u20 : qM) => q_ck (q_b x14) (some (x14, u20)))) (fun j5 => if (u17.1 7 0 4) < x13 then j5 u18 else q_bd (f_X6_greatest  u18) (fun (x15 : Int32) (u21 : qM) => if (u18.1 7 0 4) ≤ x15 then q_bd (f_X6_stepsOfItem  u21) (fun (x16 : Int32) (u22 : qM) => q_lt (q_si u22 7 0 5 ((u21.1 7 0 5) + x16)) (fun (u23 : qM) => q_jn (fun (x17 : Int32) (u24 : qM) => q_ck (q_b x17) (some (x17, u24))) (fun j6 => q_jn (fun  (u25 : qM) => j6 1 u25) (fun j7 => if (u23.1 7 0 5) ≤ 24 then j7 u23 else q_bd (f_X6_failed x1 u23) (fun (x18 : Int32) (u26 : qM) => if x18 = 0 then j6 0 u26 else j7 u26))))) else j5 u21))))) P := Iff.rfl
theorem eu_nxU {x1 x3 x10 : Int32} {u14 : qM} {P : Int32 → qM → Prop} : Ev (nxU x1 x3 x10 u14) P ↔ Ev (q_bd (f_X6_digitAhead  u14) (fun (x11 : Int32) (u15 : qM) => if x11 = 0 then q_jn (fun (x12 : Int32) (u16 : qM) => nxV x1 x12 u16) (fun j4 => if x3 = 0 then j4 x10 u15 else j4 (-x10) u15) else q_bd (f_X6_failed (u15.1 7 0 2) u15) (fun (x19 : Int32) (u27 : qM) => q_ck (q_b x19) (some (x19, u27))))) P := Iff.rfl
theorem eu_nxT {x1 x3 : Int32} {u9 : qM} {P : Int32 → qM → Prop} : Ev (nxT x1 x3 u9) P ↔ Ev (q_bd (f_X6_digitAhead  u9) (fun (x4 : Int32) (u10 : qM) => if x4 = 0 then q_bd (f_X6_failed (u10.1 7 0 2) u10) (fun (x20 : Int32) (u28 : qM) => q_ck (q_b x20) (some (x20, u28))) else L_X6_next_172 x1 x3 q_fu 0 0 u10 (fun x10 u14 => nxU x1 x3 x10 u14))) P := Iff.rfl
theorem eu_next {u0 : qM} {P : Int32 → qM → Prop} : Ev (f_X6_next u0) P ↔ Ev (L_X6_next_0 q_fu u0 (fun u3 => q_jn (fun  (u4 : qM) => some (0, u4)) (fun j1 => if (u3.1 7 0 1) ≤ (u3.1 7 0 2) then j1 u3 else if (u3.1 7 0 6) = (-9) then q_lt (u3.1 7 0 2) (fun (x1 : Int32) => q_ck (q_ia u3.2.2) (q_ck (q_in (u3.1 7 0 2) (q_al u3.2.2.1 u3.2.2.2)) (q_lt (q_si u3 7 0 3 (u3.1 (u3.2.2.1) (u3.2.2.2) (Int32.toNatClampNeg (u3.1 7 0 2)))) (fun (u5 : qM) => q_bd (f_X6_greatest  u5) (fun (x2 : Int32) (u6 : qM) => if x2 = (-9) then q_bd (f_X6_failed (u6.1 7 0 2) u6) (fun (x21 : Int32) (u31 : qM) => q_ck (q_b x21) (some (x21, u31))) else q_lt (q_si u6 7 0 2 ((u6.1 7 0 2) + 1)) (fun (u7 : qM) => q_jn (fun (x3 : Int32) (u8 : qM) => q_jn (fun  (u9 : qM) => nxT x1 x3 u9) (fun j3 => if x3 = 0 then j3 u8 else q_lt (q_si u8 7 0 2 ((u8.1 7 0 2) + 1)) (fun (u29 : qM) => j3 u29))) (fun j2 => q_jn (fun  (u30 : qM) => j2 0 u30) (fun j8 => if (u7.1 7 0 1) ≤ (u7.1 7 0 2) then j8 u7 else q_ck (q_ia u7.2.2) (q_ck (q_in (u7.1 7 0 2) (q_al u7.2.2.1 u7.2.2.2)) (if (u7.1 (u7.2.2.1) (u7.2.2.2) (Int32.toNatClampNeg (u7.1 7 0 2))) = 45 then j2 1 u7 else j8 u7)))))))))) else j1 u3))) P := Iff.rfl
theorem tHi_71 : tHi 71 = 9999 := by decide +kernel
theorem tLo_71 : tLo 71 = 0 := by decide +kernel
theorem tHi_80 : tHi 80 = 8 := by decide +kernel
theorem tLo_80 : tLo 80 = 1 := by decide +kernel
theorem tHi_82 : tHi 82 = 1000 := by decide +kernel
theorem tLo_82 : tLo 82 = 0 := by decide +kernel
theorem tHi_83 : tHi 83 = 24 := by decide +kernel
theorem tLo_83 : tLo 83 = 0 := by decide +kernel
theorem tHi_84 : tHi 84 = 500 := by decide +kernel
theorem tLo_84 : tLo 84 = -500 := by decide +kernel
theorem tHi_86 : tHi 86 = 50 := by decide +kernel
theorem tLo_86 : tLo 86 = -50 := by decide +kernel
theorem tHi_87 : tHi 87 = 50 := by decide +kernel
theorem tLo_87 : tLo 87 = -50 := by decide +kernel
theorem tHas_c {l : Int32} (h : tHas l = true) : l = 87 ∨ l = 86 ∨ l = 83 ∨ l = 71 ∨ l = 84 ∨ l = 80 ∨ l = 82 := of_decide_eq_true h
theorem tHas_n {l : Int32} (h : tHas l = false) : ¬ l = 87 ∧ ¬ l = 86 ∧ ¬ l = 83 ∧ ¬ l = 71 ∧ ¬ l = 84 ∧ ¬ l = 80 ∧ ¬ l = 82 := by
  have q := of_decide_eq_false h
  exact ⟨fun z => q (.inl z), fun z => q (.inr (.inl z)), fun z => q (.inr (.inr (.inl z))), fun z => q (.inr (.inr (.inr (.inl z)))), fun z => q (.inr (.inr (.inr (.inr (.inl z))))), fun z => q (.inr (.inr (.inr (.inr (.inr (.inl z)))))), fun z => q (.inr (.inr (.inr (.inr (.inr (.inr z))))))⟩
theorem ev_greatest {l : Int32} {u : qM} {P : Int32 → qM → Prop} (h : u.1 7 0 3 = l) (hl : tHas l = true) : Ev (f_X6_greatest u) P ↔ P (tHi l) u := by
  refine eu_X6_greatest.trans (ev_lt.trans ?_)
  rw [h]
  rcases tHas_c hl with hl | hl | hl | hl | hl | hl | hl <;> subst hl
  · rw [tHi_87, if_neg (show ¬ (87 : Int32) = 71 by decide +kernel), if_neg (show ¬ (87 : Int32) = 80 by decide +kernel), if_neg (show ¬ (87 : Int32) = 82 by decide +kernel), if_neg (show ¬ (87 : Int32) = 83 by decide +kernel), if_neg (show ¬ (87 : Int32) = 84 by decide +kernel), if_neg (show ¬ (87 : Int32) = 86 by decide +kernel), if_pos rfl]
    exact ev_so
  · rw [tHi_86, if_neg (show ¬ (86 : Int32) = 71 by decide +kernel), if_neg (show ¬ (86 : Int32) = 80 by decide +kernel), if_neg (show ¬ (86 : Int32) = 82 by decide +kernel), if_neg (show ¬ (86 : Int32) = 83 by decide +kernel), if_neg (show ¬ (86 : Int32) = 84 by decide +kernel), if_pos rfl]
    exact ev_so
  · rw [tHi_83, if_neg (show ¬ (83 : Int32) = 71 by decide +kernel), if_neg (show ¬ (83 : Int32) = 80 by decide +kernel), if_neg (show ¬ (83 : Int32) = 82 by decide +kernel), if_pos rfl]
    exact ev_so
  · rw [tHi_71, if_pos rfl]
    exact ev_so
  · rw [tHi_84, if_neg (show ¬ (84 : Int32) = 71 by decide +kernel), if_neg (show ¬ (84 : Int32) = 80 by decide +kernel), if_neg (show ¬ (84 : Int32) = 82 by decide +kernel), if_neg (show ¬ (84 : Int32) = 83 by decide +kernel), if_pos rfl]
    exact ev_so
  · rw [tHi_80, if_neg (show ¬ (80 : Int32) = 71 by decide +kernel), if_pos rfl]
    exact ev_so
  · rw [tHi_82, if_neg (show ¬ (82 : Int32) = 71 by decide +kernel), if_neg (show ¬ (82 : Int32) = 80 by decide +kernel), if_pos rfl]
    exact ev_so

theorem ev_greatestF {l : Int32} {u : qM} {P : Int32 → qM → Prop} (h : u.1 7 0 3 = l) (hl : tHas l = false) : Ev (f_X6_greatest u) P ↔ P (-nI 9) u := by
  obtain ⟨h87, h86, h83, h71, h84, h80, h82⟩ := tHas_n hl
  refine eu_X6_greatest.trans (ev_lt.trans ?_)
  rw [h, if_neg h71, if_neg h80, if_neg h82, if_neg h83, if_neg h84, if_neg h86, if_neg h87]
  exact ev_so
theorem ev_least {l : Int32} {u : qM} {P : Int32 → qM → Prop} (h : u.1 7 0 3 = l) (hl : tHas l = true) : Ev (f_X6_least u) P ↔ P (tLo l) u := by
  refine eu_X6_least.trans (ev_lt.trans ?_)
  rw [h]
  rcases tHas_c hl with hl | hl | hl | hl | hl | hl | hl <;> subst hl
  · rw [tLo_87, if_neg (show ¬ (87 : Int32) = 80 by decide +kernel), if_neg (show ¬ (87 : Int32) = 84 by decide +kernel), if_neg (show ¬ (87 : Int32) = 86 by decide +kernel), if_pos rfl]
    exact ev_so
  · rw [tLo_86, if_neg (show ¬ (86 : Int32) = 80 by decide +kernel), if_neg (show ¬ (86 : Int32) = 84 by decide +kernel), if_pos rfl]
    exact ev_so
  · rw [tLo_83, if_neg (show ¬ (83 : Int32) = 80 by decide +kernel), if_neg (show ¬ (83 : Int32) = 84 by decide +kernel), if_neg (show ¬ (83 : Int32) = 86 by decide +kernel), if_neg (show ¬ (83 : Int32) = 87 by decide +kernel)]
    exact ev_so
  · rw [tLo_71, if_neg (show ¬ (71 : Int32) = 80 by decide +kernel), if_neg (show ¬ (71 : Int32) = 84 by decide +kernel), if_neg (show ¬ (71 : Int32) = 86 by decide +kernel), if_neg (show ¬ (71 : Int32) = 87 by decide +kernel)]
    exact ev_so
  · rw [tLo_84, if_neg (show ¬ (84 : Int32) = 80 by decide +kernel), if_pos rfl]
    exact ev_so
  · rw [tLo_80, if_pos rfl]
    exact ev_so
  · rw [tLo_82, if_neg (show ¬ (82 : Int32) = 80 by decide +kernel), if_neg (show ¬ (82 : Int32) = 84 by decide +kernel), if_neg (show ¬ (82 : Int32) = 86 by decide +kernel), if_neg (show ¬ (82 : Int32) = 87 by decide +kernel)]
    exact ev_so

theorem tHi_9 {l : Int32} (hl : tHas l = true) : ¬ tHi l = -nI 9 := by
  rcases tHas_c hl with hl | hl | hl | hl | hl | hl | hl <;> subst hl <;> decide +kernel
theorem tdg_lt {f : Nat → Int32} : ∀ d a k, k < tdg f d a → k < d ∧ 48 ≤ f (a + k) ∧ f (a + k) ≤ 57
  | 0, _, k, h => absurd h (Nat.not_lt_zero k)
  | d + 1, a, k, h => by
    unfold tdg at h
    by_cases q : 48 ≤ f a ∧ f a ≤ 57
    · rw [if_pos q] at h
      cases k with
      | zero => exact ⟨Nat.succ_pos d, q⟩
      | succ k =>
        have := tdg_lt (f := f) d (a + 1) k (by omega)
        rw [show a + 1 + k = a + (k + 1) by omega] at this
        exact ⟨by omega, this.2⟩
    · rw [if_neg q] at h
      omega
theorem tdg_le {f : Nat → Int32} : ∀ d a, tdg f d a ≤ d
  | 0, _ => Nat.le_refl 0
  | d + 1, a => by
    unfold tdg
    by_cases q : 48 ≤ f a ∧ f a ≤ 57
    · rw [if_pos q]
      have := tdg_le (f := f) d (a + 1)
      omega
    · rw [if_neg q]
      omega
theorem tdg_end {f : Nat → Int32} : ∀ d a, tdg f d a < d → ¬ (48 ≤ f (a + tdg f d a) ∧ f (a + tdg f d a) ≤ 57)
  | 0, _, h => absurd h (Nat.not_lt_zero _)
  | d + 1, a, h => by
    by_cases q : 48 ≤ f a ∧ f a ≤ 57
    · have e : tdg f (d + 1) a = tdg f d (a + 1) + 1 := by
        show (if 48 ≤ f a ∧ f a ≤ 57 then tdg f d (a + 1) + 1 else 0) = _
        rw [if_pos q]
      rw [e] at h ⊢
      have := tdg_end (f := f) d (a + 1) (by omega)
      rw [show a + 1 + tdg f d (a + 1) = a + (tdg f d (a + 1) + 1) by omega] at this
      exact this
    · have e : tdg f (d + 1) a = 0 := by
        show (if 48 ≤ f a ∧ f a ≤ 57 then tdg f d (a + 1) + 1 else 0) = _
        rw [if_neg q]
      rw [e, Nat.add_zero]
      exact q
/-- what the class reads from: row i of kind k, the first L of f -/
def SC (k i L : Nat) (f : Nat → Int32) (u : qM) : Prop := u.2.2 = (k, i) ∧ q_ia (k, i) = true ∧ q_al k i = 40 ∧ L ≤ 40 ∧ k ≠ 7 ∧ u.1 k i = f ∧ u.1 7 0 1 = nI L
theorem SC.si {k i L s : Nat} {x : Int32} {f : Nat → Int32} {u : qM} (h : SC k i L f u) (hs : s ≠ 1) : SC k i L f (q_si u 7 0 s x) := by
  obtain ⟨a1, a2, a3, a4, a5, a6, a7⟩ := h
  exact ⟨a1, a2, a3, a4, a5, by rw [si_k a5]; exact a6, by rw [si_s (by omega)]; exact a7⟩
def F7 (u u' : qM) : Prop := (∀ a j s, ¬ (a = 7 ∧ j = 0 ∧ s ≠ 1) → u'.1 a j s = u.1 a j s) ∧ u'.2 = u.2
theorem F7.rf {u : qM} : F7 u u := ⟨fun _ _ _ _ => rfl, rfl⟩
theorem F7.tr {a b c : qM} (h : F7 a b) (h2 : F7 b c) : F7 a c := ⟨fun x j s q => (h2.1 x j s q).trans (h.1 x j s q), h2.2.trans h.2⟩
theorem F7.si {a b : qM} {s : Nat} {x : Int32} (h : F7 a b) (hs : s ≠ 1) : F7 a (q_si b 7 0 s x) := ⟨fun y j t q => by rw [si_n (by omega)]; exact h.1 y j t q, h.2⟩
theorem SC.f7 {k i L : Nat} {f : Nat → Int32} {u u' : qM} (h : SC k i L f u) (g : F7 u u') : SC k i L f u' := by
  obtain ⟨a1, a2, a3, a4, a5, a6, a7⟩ := h
  exact ⟨by rw [g.2]; exact a1, a2, a3, a4, a5, by rw [← a6]; exact funext (fun s => g.1 k i s (by omega)), (g.1 7 0 1 (by omega)).trans a7⟩
theorem ev_dig {k i L a : Nat} {f : Nat → Int32} {u : qM} {P : Int32 → qM → Prop} (h : SC k i L f u) (ha : u.1 7 0 2 = nI a) (haL : a ≤ 40) (K1 : a < L → 48 ≤ f a ∧ f a ≤ 57 → P 1 u) (K0 : ¬ (a < L ∧ 48 ≤ f a ∧ f a ≤ 57) → P 0 u) : Ev (f_X6_digitAhead u) P := by
  obtain ⟨a1, a2, a3, a4, a5, a6, a7⟩ := h
  have fa : u.1 k i a = f a := congrFun a6 a
  by_cases q : a < L
  · by_cases q1 : f a < nI 48
    · have K := K0 (fun z => x_nlt.mpr z.2.1 q1)
      simp (disch := first | omega | decide) only [Nat.reduceAdd, Nat.reduceMul, ↓ev_bd, ↓ev_ck, ↓ev_if, ↓ev_lt, ↓ev_jn, ↓ev_so, ↓reduceIte, ↓ev_within, ↓ev_in, ↓ev_isBoard, ↓ev_isGauge, ↓ev_isNumber, ↓ev_isSix, ↓ev_isEight, ↓ev_foundN, ↓ev_meetsN, ↓ev_found_1, ↓ev_meets_1, ↓ev_found_2, ↓ev_meets_2, ↓ev_found_3, ↓ev_meets_3, ↓ev_found_4, ↓ev_meets_4, ↓ev_found_5, ↓ev_meets_5, true_and, and_true, and_self, eq_self, not_true_eq_false, not_false_eq_true, ite_true, ite_false, true_or, or_true, false_or, or_false, false_and, and_false, ← zi_ni_0, ← zi_ni_1, ← zi_ni_2, ← zi_ni_3, ← zi_ni_4, ← zi_ni_5, ← zi_ni_6, ← zi_ni_7, ← zi_ni_8, ← zi_ni_9, ← zi_ni_10, ← zi_ni_12, ← zi_ni_24, ← zi_ni_25, ← zi_ni_40, ← zi_ni_45, ← zi_ni_47, ← zi_ni_48, ← zi_ni_95, ← zi_ni_96, ← zi_ni_97, ← zi_ni_100, ← zi_ni_144, ← zi_ni_288, nI_ltI, nI_leI, nI_eqI, nlt_T, nlt_F, nle_T, nle_F, neq_T, neq_F, nI_add, pk_mul, nI_clamp, q_inT, ng_lt, ng_tl, ng_le, ng_el, ng_eq, ng_qe, q_b0, q_b1, nar_0, nar_1, b01, b01', q_bn0, q_bn1, nar_n0, nar_n1, si_k, si_i, si_s, si_e, si_2, sl_1, sl_22, sl_k, sl_i, sl_s, sl_e, sp_1, sp_21, sp_22, sc_k, sc_i, sc_e, sc_2, mF_k, mM_k, mF_2, mM_2, mF_0, mM_11, ↓eu_X6_digitAhead, ha, a7, a1, a2, a3, fa, q1]
      exact K
    · by_cases q2 : 57 < f a
      · have K := K0 (fun z => x_nlt.mpr z.2.2 q2)
        simp (disch := first | omega | decide) only [Nat.reduceAdd, Nat.reduceMul, ↓ev_bd, ↓ev_ck, ↓ev_if, ↓ev_lt, ↓ev_jn, ↓ev_so, ↓reduceIte, ↓ev_within, ↓ev_in, ↓ev_isBoard, ↓ev_isGauge, ↓ev_isNumber, ↓ev_isSix, ↓ev_isEight, ↓ev_foundN, ↓ev_meetsN, ↓ev_found_1, ↓ev_meets_1, ↓ev_found_2, ↓ev_meets_2, ↓ev_found_3, ↓ev_meets_3, ↓ev_found_4, ↓ev_meets_4, ↓ev_found_5, ↓ev_meets_5, true_and, and_true, and_self, eq_self, not_true_eq_false, not_false_eq_true, ite_true, ite_false, true_or, or_true, false_or, or_false, false_and, and_false, ← zi_ni_0, ← zi_ni_1, ← zi_ni_2, ← zi_ni_3, ← zi_ni_4, ← zi_ni_5, ← zi_ni_6, ← zi_ni_7, ← zi_ni_8, ← zi_ni_9, ← zi_ni_10, ← zi_ni_12, ← zi_ni_24, ← zi_ni_25, ← zi_ni_40, ← zi_ni_45, ← zi_ni_47, ← zi_ni_48, ← zi_ni_95, ← zi_ni_96, ← zi_ni_97, ← zi_ni_100, ← zi_ni_144, ← zi_ni_288, nI_ltI, nI_leI, nI_eqI, nlt_T, nlt_F, nle_T, nle_F, neq_T, neq_F, nI_add, pk_mul, nI_clamp, q_inT, ng_lt, ng_tl, ng_le, ng_el, ng_eq, ng_qe, q_b0, q_b1, nar_0, nar_1, b01, b01', q_bn0, q_bn1, nar_n0, nar_n1, si_k, si_i, si_s, si_e, si_2, sl_1, sl_22, sl_k, sl_i, sl_s, sl_e, sp_1, sp_21, sp_22, sc_k, sc_i, sc_e, sc_2, mF_k, mM_k, mF_2, mM_2, mF_0, mM_11, ↓eu_X6_digitAhead, ha, a7, a1, a2, a3, fa, q1, q2]
        exact K
      · have K := K1 q ⟨x_nlt.mp q1, x_nlt.mp q2⟩
        simp (disch := first | omega | decide) only [Nat.reduceAdd, Nat.reduceMul, ↓ev_bd, ↓ev_ck, ↓ev_if, ↓ev_lt, ↓ev_jn, ↓ev_so, ↓reduceIte, ↓ev_within, ↓ev_in, ↓ev_isBoard, ↓ev_isGauge, ↓ev_isNumber, ↓ev_isSix, ↓ev_isEight, ↓ev_foundN, ↓ev_meetsN, ↓ev_found_1, ↓ev_meets_1, ↓ev_found_2, ↓ev_meets_2, ↓ev_found_3, ↓ev_meets_3, ↓ev_found_4, ↓ev_meets_4, ↓ev_found_5, ↓ev_meets_5, true_and, and_true, and_self, eq_self, not_true_eq_false, not_false_eq_true, ite_true, ite_false, true_or, or_true, false_or, or_false, false_and, and_false, ← zi_ni_0, ← zi_ni_1, ← zi_ni_2, ← zi_ni_3, ← zi_ni_4, ← zi_ni_5, ← zi_ni_6, ← zi_ni_7, ← zi_ni_8, ← zi_ni_9, ← zi_ni_10, ← zi_ni_12, ← zi_ni_24, ← zi_ni_25, ← zi_ni_40, ← zi_ni_45, ← zi_ni_47, ← zi_ni_48, ← zi_ni_95, ← zi_ni_96, ← zi_ni_97, ← zi_ni_100, ← zi_ni_144, ← zi_ni_288, nI_ltI, nI_leI, nI_eqI, nlt_T, nlt_F, nle_T, nle_F, neq_T, neq_F, nI_add, pk_mul, nI_clamp, q_inT, ng_lt, ng_tl, ng_le, ng_el, ng_eq, ng_qe, q_b0, q_b1, nar_0, nar_1, b01, b01', q_bn0, q_bn1, nar_n0, nar_n1, si_k, si_i, si_s, si_e, si_2, sl_1, sl_22, sl_k, sl_i, sl_s, sl_e, sp_1, sp_21, sp_22, sc_k, sc_i, sc_e, sc_2, mF_k, mM_k, mF_2, mM_2, mF_0, mM_11, ↓eu_X6_digitAhead, ha, a7, a1, a2, a3, fa, q1, q2]
        exact K
  · have K := K0 (fun z => q z.1)
    simp (disch := first | omega | decide) only [Nat.reduceAdd, Nat.reduceMul, ↓ev_bd, ↓ev_ck, ↓ev_if, ↓ev_lt, ↓ev_jn, ↓ev_so, ↓reduceIte, ↓ev_within, ↓ev_in, ↓ev_isBoard, ↓ev_isGauge, ↓ev_isNumber, ↓ev_isSix, ↓ev_isEight, ↓ev_foundN, ↓ev_meetsN, ↓ev_found_1, ↓ev_meets_1, ↓ev_found_2, ↓ev_meets_2, ↓ev_found_3, ↓ev_meets_3, ↓ev_found_4, ↓ev_meets_4, ↓ev_found_5, ↓ev_meets_5, true_and, and_true, and_self, eq_self, not_true_eq_false, not_false_eq_true, ite_true, ite_false, true_or, or_true, false_or, or_false, false_and, and_false, ← zi_ni_0, ← zi_ni_1, ← zi_ni_2, ← zi_ni_3, ← zi_ni_4, ← zi_ni_5, ← zi_ni_6, ← zi_ni_7, ← zi_ni_8, ← zi_ni_9, ← zi_ni_10, ← zi_ni_12, ← zi_ni_24, ← zi_ni_25, ← zi_ni_40, ← zi_ni_45, ← zi_ni_47, ← zi_ni_48, ← zi_ni_95, ← zi_ni_96, ← zi_ni_97, ← zi_ni_100, ← zi_ni_144, ← zi_ni_288, nI_ltI, nI_leI, nI_eqI, nlt_T, nlt_F, nle_T, nle_F, neq_T, neq_F, nI_add, pk_mul, nI_clamp, q_inT, ng_lt, ng_tl, ng_le, ng_el, ng_eq, ng_qe, q_b0, q_b1, nar_0, nar_1, b01, b01', q_bn0, q_bn1, nar_n0, nar_n1, si_k, si_i, si_s, si_e, si_2, sl_1, sl_22, sl_k, sl_i, sl_s, sl_e, sp_1, sp_21, sp_22, sc_k, sc_i, sc_e, sc_2, mF_k, mM_k, mF_2, mM_2, mF_0, mM_11, ↓eu_X6_digitAhead, ha, a7]
    exact K
theorem lp_skip {k i L : Nat} {f : Nat → Int32} {e : qM → Option (Int32 × qM)} {P : Int32 → qM → Prop} : ∀ d F a u, a + d = L → d < F → SC k i L f u → u.1 7 0 2 = nI a → (∀ u', F7 u u' → u'.1 7 0 2 = nI (tsk f d a) → (∀ s, s ≠ 2 → u'.1 7 0 s = u.1 7 0 s) → Ev (e u') P) → Ev (L_X6_next_0 F u e) P := by
  intro d
  induction d with
  | zero =>
    intro F a u had hF h ha K
    obtain ⟨F, rfl⟩ : ∃ F', F = F' + 1 := ⟨F - 1, by omega⟩
    obtain rfl : a = L := by omega
    obtain ⟨a1, a2, a3, a4, a5, a6, a7⟩ := h
    have K1 := K u F7.rf ha (fun _ _ => rfl)
    simp (disch := first | omega | decide) only [Nat.reduceAdd, Nat.reduceMul, ↓ev_bd, ↓ev_ck, ↓ev_if, ↓ev_lt, ↓ev_jn, ↓ev_so, ↓reduceIte, ↓ev_within, ↓ev_in, ↓ev_isBoard, ↓ev_isGauge, ↓ev_isNumber, ↓ev_isSix, ↓ev_isEight, ↓ev_foundN, ↓ev_meetsN, ↓ev_found_1, ↓ev_meets_1, ↓ev_found_2, ↓ev_meets_2, ↓ev_found_3, ↓ev_meets_3, ↓ev_found_4, ↓ev_meets_4, ↓ev_found_5, ↓ev_meets_5, true_and, and_true, and_self, eq_self, not_true_eq_false, not_false_eq_true, ite_true, ite_false, true_or, or_true, false_or, or_false, false_and, and_false, ← zi_ni_0, ← zi_ni_1, ← zi_ni_2, ← zi_ni_3, ← zi_ni_4, ← zi_ni_5, ← zi_ni_6, ← zi_ni_7, ← zi_ni_8, ← zi_ni_9, ← zi_ni_10, ← zi_ni_12, ← zi_ni_24, ← zi_ni_25, ← zi_ni_40, ← zi_ni_45, ← zi_ni_47, ← zi_ni_48, ← zi_ni_95, ← zi_ni_96, ← zi_ni_97, ← zi_ni_100, ← zi_ni_144, ← zi_ni_288, nI_ltI, nI_leI, nI_eqI, nlt_T, nlt_F, nle_T, nle_F, neq_T, neq_F, nI_add, pk_mul, nI_clamp, q_inT, ng_lt, ng_tl, ng_le, ng_el, ng_eq, ng_qe, q_b0, q_b1, nar_0, nar_1, b01, b01', q_bn0, q_bn1, nar_n0, nar_n1, si_k, si_i, si_s, si_e, si_2, sl_1, sl_22, sl_k, sl_i, sl_s, sl_e, sp_1, sp_21, sp_22, sc_k, sc_i, sc_e, sc_2, mF_k, mM_k, mF_2, mM_2, mF_0, mM_11, ↓eu_L_X6_next_0, ha, a7]
    exact K1
  | succ d ih =>
    intro F a u had hF h ha K
    obtain ⟨F, rfl⟩ : ∃ F', F = F' + 1 := ⟨F - 1, by omega⟩
    have h' := h
    obtain ⟨a1, a2, a3, a4, a5, a6, a7⟩ := h
    have fa : u.1 k i a = f a := congrFun a6 a
    by_cases q : f a = 32
    · have e1 : tsk f (d + 1) a = tsk f d (a + 1) := if_pos q
      have K2 := ih F (a + 1) (q_si u 7 0 2 (nI (a + 1))) (by omega) (by omega) (h'.si (by decide)) si_e (fun u' g1 g2 g3 => K u' ((F7.rf.si (by decide)).tr g1) (g2.trans (by rw [e1])) (fun s hs => by rw [g3 s hs, si_s hs]))
      simp (disch := first | omega | decide) only [Nat.reduceAdd, Nat.reduceMul, ↓ev_bd, ↓ev_ck, ↓ev_if, ↓ev_lt, ↓ev_jn, ↓ev_so, ↓reduceIte, ↓ev_within, ↓ev_in, ↓ev_isBoard, ↓ev_isGauge, ↓ev_isNumber, ↓ev_isSix, ↓ev_isEight, ↓ev_foundN, ↓ev_meetsN, ↓ev_found_1, ↓ev_meets_1, ↓ev_found_2, ↓ev_meets_2, ↓ev_found_3, ↓ev_meets_3, ↓ev_found_4, ↓ev_meets_4, ↓ev_found_5, ↓ev_meets_5, true_and, and_true, and_self, eq_self, not_true_eq_false, not_false_eq_true, ite_true, ite_false, true_or, or_true, false_or, or_false, false_and, and_false, ← zi_ni_0, ← zi_ni_1, ← zi_ni_2, ← zi_ni_3, ← zi_ni_4, ← zi_ni_5, ← zi_ni_6, ← zi_ni_7, ← zi_ni_8, ← zi_ni_9, ← zi_ni_10, ← zi_ni_12, ← zi_ni_24, ← zi_ni_25, ← zi_ni_40, ← zi_ni_45, ← zi_ni_47, ← zi_ni_48, ← zi_ni_95, ← zi_ni_96, ← zi_ni_97, ← zi_ni_100, ← zi_ni_144, ← zi_ni_288, nI_ltI, nI_leI, nI_eqI, nlt_T, nlt_F, nle_T, nle_F, neq_T, neq_F, nI_add, pk_mul, nI_clamp, q_inT, ng_lt, ng_tl, ng_le, ng_el, ng_eq, ng_qe, q_b0, q_b1, nar_0, nar_1, b01, b01', q_bn0, q_bn1, nar_n0, nar_n1, si_k, si_i, si_s, si_e, si_2, sl_1, sl_22, sl_k, sl_i, sl_s, sl_e, sp_1, sp_21, sp_22, sc_k, sc_i, sc_e, sc_2, mF_k, mM_k, mF_2, mM_2, mF_0, mM_11, ↓eu_L_X6_next_0, ha, a7, a1, a2, a3, fa, q]
      exact K2
    · have e1 : tsk f (d + 1) a = a := if_neg q
      have K2 := K u F7.rf (by rw [e1]; exact ha) (fun _ _ => rfl)
      simp (disch := first | omega | decide) only [Nat.reduceAdd, Nat.reduceMul, ↓ev_bd, ↓ev_ck, ↓ev_if, ↓ev_lt, ↓ev_jn, ↓ev_so, ↓reduceIte, ↓ev_within, ↓ev_in, ↓ev_isBoard, ↓ev_isGauge, ↓ev_isNumber, ↓ev_isSix, ↓ev_isEight, ↓ev_foundN, ↓ev_meetsN, ↓ev_found_1, ↓ev_meets_1, ↓ev_found_2, ↓ev_meets_2, ↓ev_found_3, ↓ev_meets_3, ↓ev_found_4, ↓ev_meets_4, ↓ev_found_5, ↓ev_meets_5, true_and, and_true, and_self, eq_self, not_true_eq_false, not_false_eq_true, ite_true, ite_false, true_or, or_true, false_or, or_false, false_and, and_false, ← zi_ni_0, ← zi_ni_1, ← zi_ni_2, ← zi_ni_3, ← zi_ni_4, ← zi_ni_5, ← zi_ni_6, ← zi_ni_7, ← zi_ni_8, ← zi_ni_9, ← zi_ni_10, ← zi_ni_12, ← zi_ni_24, ← zi_ni_25, ← zi_ni_40, ← zi_ni_45, ← zi_ni_47, ← zi_ni_48, ← zi_ni_95, ← zi_ni_96, ← zi_ni_97, ← zi_ni_100, ← zi_ni_144, ← zi_ni_288, nI_ltI, nI_leI, nI_eqI, nlt_T, nlt_F, nle_T, nle_F, neq_T, neq_F, nI_add, pk_mul, nI_clamp, q_inT, ng_lt, ng_tl, ng_le, ng_el, ng_eq, ng_qe, q_b0, q_b1, nar_0, nar_1, b01, b01', q_bn0, q_bn1, nar_n0, nar_n1, si_k, si_i, si_s, si_e, si_2, sl_1, sl_22, sl_k, sl_i, sl_s, sl_e, sp_1, sp_21, sp_22, sc_k, sc_i, sc_e, sc_2, mF_k, mM_k, mF_2, mM_2, mF_0, mM_11, ↓eu_L_X6_next_0, ha, a7, a1, a2, a3, fa, q]
      exact K2
theorem tsk_le {f : Nat → Int32} : ∀ d a, tsk f d a ≤ a + d ∧ a ≤ tsk f d a
  | 0, a => ⟨Nat.le_refl _, Nat.le_refl _⟩
  | d + 1, a => by
    unfold tsk
    by_cases q : f a = 32
    · rw [if_pos q]
      have := tsk_le (f := f) d (a + 1)
      omega
    · rw [if_neg q]
      omega
theorem tC_le {f : Nat → Int32} {L a : Nat} (h : a < L) : tC f L a ≤ L ∧ a < tC f L a := by
  unfold tC
  split <;> omega
theorem lp_digs {k i L c : Nat} {x1 x3 : Int32} {f : Nat → Int32} {e : Int32 → qM → Option (Int32 × qM)} {P : Int32 → qM → Prop} (hc : c ≤ L) : ∀ d q F u, q + d = min 4 (tdg f (L - c) c) → d < F → SC k i L f u → u.1 7 0 2 = nI (c + q) → (∀ u', F7 u u' → u'.1 7 0 2 = nI (c + min 4 (tdg f (L - c) c)) → (∀ s, s ≠ 2 → u'.1 7 0 s = u.1 7 0 s) → Ev (e (tvl f c (min 4 (tdg f (L - c) c))) u') P) → Ev (L_X6_next_172 x1 x3 F (tvl f c q) (nI q) u e) P := by
  intro d
  have hle := tdg_le (f := f) (L - c) c
  induction d with
  | zero =>
    intro q F u hq hF h ha K
    obtain ⟨F, rfl⟩ : ∃ F', F = F' + 1 := ⟨F - 1, by omega⟩
    have h4 := h.2.2.2.1
    have K1 := K u F7.rf (by rw [← hq, Nat.add_zero]; exact ha) (fun _ _ => rfl)
    rw [← hq, Nat.add_zero] at K1
    generalize hv : tvl f c q = v at *
    by_cases q4 : q = 4
    · subst q4
      simp (disch := first | omega | decide) only [Nat.reduceAdd, Nat.reduceMul, ↓ev_bd, ↓ev_ck, ↓ev_if, ↓ev_lt, ↓ev_jn, ↓ev_so, ↓reduceIte, ↓ev_within, ↓ev_in, ↓ev_isBoard, ↓ev_isGauge, ↓ev_isNumber, ↓ev_isSix, ↓ev_isEight, ↓ev_foundN, ↓ev_meetsN, ↓ev_found_1, ↓ev_meets_1, ↓ev_found_2, ↓ev_meets_2, ↓ev_found_3, ↓ev_meets_3, ↓ev_found_4, ↓ev_meets_4, ↓ev_found_5, ↓ev_meets_5, true_and, and_true, and_self, eq_self, not_true_eq_false, not_false_eq_true, ite_true, ite_false, true_or, or_true, false_or, or_false, false_and, and_false, ← zi_ni_0, ← zi_ni_1, ← zi_ni_2, ← zi_ni_3, ← zi_ni_4, ← zi_ni_5, ← zi_ni_6, ← zi_ni_7, ← zi_ni_8, ← zi_ni_9, ← zi_ni_10, ← zi_ni_12, ← zi_ni_24, ← zi_ni_25, ← zi_ni_40, ← zi_ni_45, ← zi_ni_47, ← zi_ni_48, ← zi_ni_95, ← zi_ni_96, ← zi_ni_97, ← zi_ni_100, ← zi_ni_144, ← zi_ni_288, nI_ltI, nI_leI, nI_eqI, nlt_T, nlt_F, nle_T, nle_F, neq_T, neq_F, nI_add, pk_mul, nI_clamp, q_inT, ng_lt, ng_tl, ng_le, ng_el, ng_eq, ng_qe, q_b0, q_b1, nar_0, nar_1, b01, b01', q_bn0, q_bn1, nar_n0, nar_n1, si_k, si_i, si_s, si_e, si_2, sl_1, sl_22, sl_k, sl_i, sl_s, sl_e, sp_1, sp_21, sp_22, sc_k, sc_i, sc_e, sc_2, mF_k, mM_k, mF_2, mM_2, mF_0, mM_11, ↓eu_L_X6_next_172]
      exact K1
    · refine Ev.hide (fun P' K' => ?_)
      simp (disch := first | omega | decide) only [Nat.reduceAdd, Nat.reduceMul, ↓ev_bd, ↓ev_ck, ↓ev_if, ↓ev_lt, ↓ev_jn, ↓ev_so, ↓reduceIte, ↓ev_within, ↓ev_in, ↓ev_isBoard, ↓ev_isGauge, ↓ev_isNumber, ↓ev_isSix, ↓ev_isEight, ↓ev_foundN, ↓ev_meetsN, ↓ev_found_1, ↓ev_meets_1, ↓ev_found_2, ↓ev_meets_2, ↓ev_found_3, ↓ev_meets_3, ↓ev_found_4, ↓ev_meets_4, ↓ev_found_5, ↓ev_meets_5, true_and, and_true, and_self, eq_self, not_true_eq_false, not_false_eq_true, ite_true, ite_false, true_or, or_true, false_or, or_false, false_and, and_false, ← zi_ni_0, ← zi_ni_1, ← zi_ni_2, ← zi_ni_3, ← zi_ni_4, ← zi_ni_5, ← zi_ni_6, ← zi_ni_7, ← zi_ni_8, ← zi_ni_9, ← zi_ni_10, ← zi_ni_12, ← zi_ni_24, ← zi_ni_25, ← zi_ni_40, ← zi_ni_45, ← zi_ni_47, ← zi_ni_48, ← zi_ni_95, ← zi_ni_96, ← zi_ni_97, ← zi_ni_100, ← zi_ni_144, ← zi_ni_288, nI_ltI, nI_leI, nI_eqI, nlt_T, nlt_F, nle_T, nle_F, neq_T, neq_F, nI_add, pk_mul, nI_clamp, q_inT, ng_lt, ng_tl, ng_le, ng_el, ng_eq, ng_qe, q_b0, q_b1, nar_0, nar_1, b01, b01', q_bn0, q_bn1, nar_n0, nar_n1, si_k, si_i, si_s, si_e, si_2, sl_1, sl_22, sl_k, sl_i, sl_s, sl_e, sp_1, sp_21, sp_22, sc_k, sc_i, sc_e, sc_2, mF_k, mM_k, mF_2, mM_2, mF_0, mM_11, ↓eu_L_X6_next_172]
      refine ev_dig h ha (by omega) (fun z1 z2 => ?_) (fun _ => ?_)
      · have := tdg_end (f := f) (L - c) c (by omega)
        rw [show tdg f (L - c) c = q by omega] at this
        exact absurd z2 this
      · simp (disch := first | omega | decide) only [Nat.reduceAdd, Nat.reduceMul, ↓ev_bd, ↓ev_ck, ↓ev_if, ↓ev_lt, ↓ev_jn, ↓ev_so, ↓reduceIte, ↓ev_within, ↓ev_in, ↓ev_isBoard, ↓ev_isGauge, ↓ev_isNumber, ↓ev_isSix, ↓ev_isEight, ↓ev_foundN, ↓ev_meetsN, ↓ev_found_1, ↓ev_meets_1, ↓ev_found_2, ↓ev_meets_2, ↓ev_found_3, ↓ev_meets_3, ↓ev_found_4, ↓ev_meets_4, ↓ev_found_5, ↓ev_meets_5, true_and, and_true, and_self, eq_self, not_true_eq_false, not_false_eq_true, ite_true, ite_false, true_or, or_true, false_or, or_false, false_and, and_false, ← zi_ni_0, ← zi_ni_1, ← zi_ni_2, ← zi_ni_3, ← zi_ni_4, ← zi_ni_5, ← zi_ni_6, ← zi_ni_7, ← zi_ni_8, ← zi_ni_9, ← zi_ni_10, ← zi_ni_12, ← zi_ni_24, ← zi_ni_25, ← zi_ni_40, ← zi_ni_45, ← zi_ni_47, ← zi_ni_48, ← zi_ni_95, ← zi_ni_96, ← zi_ni_97, ← zi_ni_100, ← zi_ni_144, ← zi_ni_288, nI_ltI, nI_leI, nI_eqI, nlt_T, nlt_F, nle_T, nle_F, neq_T, neq_F, nI_add, pk_mul, nI_clamp, q_inT, ng_lt, ng_tl, ng_le, ng_el, ng_eq, ng_qe, q_b0, q_b1, nar_0, nar_1, b01, b01', q_bn0, q_bn1, nar_n0, nar_n1, si_k, si_i, si_s, si_e, si_2, sl_1, sl_22, sl_k, sl_i, sl_s, sl_e, sp_1, sp_21, sp_22, sc_k, sc_i, sc_e, sc_2, mF_k, mM_k, mF_2, mM_2, mF_0, mM_11]
        exact K1.mono K'
  | succ d ih =>
    intro q F u hq hF h ha K
    obtain ⟨F, rfl⟩ : ∃ F', F = F' + 1 := ⟨F - 1, by omega⟩
    have h' := h
    have h4 := h.2.2.2.1
    obtain ⟨z1, z2⟩ := tdg_lt (f := f) (L - c) c q (by omega)
    obtain ⟨a1, a2, a3, a4, a5, a6, a7⟩ := h
    have fa : u.1 k i (c + q) = f (c + q) := congrFun a6 _
    have K2 := ih (q + 1) F (q_si u 7 0 2 (nI (c + q + 1))) (by omega) (by omega) (h'.si (by decide)) (by rw [si_e, Nat.add_assoc]) (fun u' g1 g2 g3 => K u' ((F7.rf.si (by decide)).tr g1) g2 (fun s hs => by rw [g3 s hs, si_s hs]))
    have hv : tvl f c (q + 1) = nI 10 * tvl f c q + f (c + q) - nI 48 := rfl
    rw [hv] at K2
    generalize tvl f c q = v at *
    refine Ev.hide (fun P' K' => ?_)
    simp (disch := first | omega | decide) only [Nat.reduceAdd, Nat.reduceMul, ↓ev_bd, ↓ev_ck, ↓ev_if, ↓ev_lt, ↓ev_jn, ↓ev_so, ↓reduceIte, ↓ev_within, ↓ev_in, ↓ev_isBoard, ↓ev_isGauge, ↓ev_isNumber, ↓ev_isSix, ↓ev_isEight, ↓ev_foundN, ↓ev_meetsN, ↓ev_found_1, ↓ev_meets_1, ↓ev_found_2, ↓ev_meets_2, ↓ev_found_3, ↓ev_meets_3, ↓ev_found_4, ↓ev_meets_4, ↓ev_found_5, ↓ev_meets_5, true_and, and_true, and_self, eq_self, not_true_eq_false, not_false_eq_true, ite_true, ite_false, true_or, or_true, false_or, or_false, false_and, and_false, ← zi_ni_0, ← zi_ni_1, ← zi_ni_2, ← zi_ni_3, ← zi_ni_4, ← zi_ni_5, ← zi_ni_6, ← zi_ni_7, ← zi_ni_8, ← zi_ni_9, ← zi_ni_10, ← zi_ni_12, ← zi_ni_24, ← zi_ni_25, ← zi_ni_40, ← zi_ni_45, ← zi_ni_47, ← zi_ni_48, ← zi_ni_95, ← zi_ni_96, ← zi_ni_97, ← zi_ni_100, ← zi_ni_144, ← zi_ni_288, nI_ltI, nI_leI, nI_eqI, nlt_T, nlt_F, nle_T, nle_F, neq_T, neq_F, nI_add, pk_mul, nI_clamp, q_inT, ng_lt, ng_tl, ng_le, ng_el, ng_eq, ng_qe, q_b0, q_b1, nar_0, nar_1, b01, b01', q_bn0, q_bn1, nar_n0, nar_n1, si_k, si_i, si_s, si_e, si_2, sl_1, sl_22, sl_k, sl_i, sl_s, sl_e, sp_1, sp_21, sp_22, sc_k, sc_i, sc_e, sc_2, mF_k, mM_k, mF_2, mM_2, mF_0, mM_11, ↓eu_L_X6_next_172]
    refine ev_dig h' ha (by omega) (fun _ _ => ?_) (fun z => absurd ⟨by omega, z2⟩ z)
    simp (disch := first | omega | decide) only [Nat.reduceAdd, Nat.reduceMul, ↓ev_bd, ↓ev_ck, ↓ev_if, ↓ev_lt, ↓ev_jn, ↓ev_so, ↓reduceIte, ↓ev_within, ↓ev_in, ↓ev_isBoard, ↓ev_isGauge, ↓ev_isNumber, ↓ev_isSix, ↓ev_isEight, ↓ev_foundN, ↓ev_meetsN, ↓ev_found_1, ↓ev_meets_1, ↓ev_found_2, ↓ev_meets_2, ↓ev_found_3, ↓ev_meets_3, ↓ev_found_4, ↓ev_meets_4, ↓ev_found_5, ↓ev_meets_5, true_and, and_true, and_self, eq_self, not_true_eq_false, not_false_eq_true, ite_true, ite_false, true_or, or_true, false_or, or_false, false_and, and_false, ← zi_ni_0, ← zi_ni_1, ← zi_ni_2, ← zi_ni_3, ← zi_ni_4, ← zi_ni_5, ← zi_ni_6, ← zi_ni_7, ← zi_ni_8, ← zi_ni_9, ← zi_ni_10, ← zi_ni_12, ← zi_ni_24, ← zi_ni_25, ← zi_ni_40, ← zi_ni_45, ← zi_ni_47, ← zi_ni_48, ← zi_ni_95, ← zi_ni_96, ← zi_ni_97, ← zi_ni_100, ← zi_ni_144, ← zi_ni_288, nI_ltI, nI_leI, nI_eqI, nlt_T, nlt_F, nle_T, nle_F, neq_T, neq_F, nI_add, pk_mul, nI_clamp, q_inT, ng_lt, ng_tl, ng_le, ng_el, ng_eq, ng_qe, q_b0, q_b1, nar_0, nar_1, b01, b01', q_bn0, q_bn1, nar_n0, nar_n1, si_k, si_i, si_s, si_e, si_2, sl_1, sl_22, sl_k, sl_i, sl_s, sl_e, sp_1, sp_21, sp_22, sc_k, sc_i, sc_e, sc_2, mF_k, mM_k, mF_2, mM_2, mF_0, mM_11, ha, a1, a2, a3, fa]
    exact K2.mono K' 
